/-! doubles in rows -/
theorem pa_f {Y : Nat → ClassId} {ad : Nat → Nat} {S : GS} {k : Nat} (h : gK S k = 15) (j : Nat) (v : UInt64) : gCell Y ad (sF S k j v) = va_up (gCell Y ad S) k (.inl (Y 5, gL S k, .inr (.inr (.inr (.inl (vf_upd (gF S k) j v)))))) := by
  funext a
  by_cases q : a = k
  · subst q
    have e : up2 (gF S) a j v a = vf_upd (gF S a) j v := by
      funext i
      by_cases h2 : i = j
      · subst h2; rw [up2_self]; simp [vf_upd]
      · rw [up2_at _ _ _ _ h2]; simp [vf_upd, h2]
    rw [va_up_self, cell_15 (S := sF S a j v) h, ← e]
    rfl
  · rw [va_up_ne _ _ q, sF_ne q]
section GR9
variable {p : Program} {l : Launch} {e : Env} {R : Room} {s : State} {m : MethodId} {args : Array Value} {below : List Frame} {meth : Method} {c : Code} {H : Heap} {locs : List Loc} {cells slots : Nat} {Q : State → Prop}
variable {cc : ByteArray} {pc : Nat} {ls : Array Slot} {rest : List Value} {D : va_G} {Y : Nat → ClassId} {A : Nat → Prop} {H0 : Heap} {ad : Nat → Nat} {S : GS}
theorem r_dald (hexec : p.tables.exec = Jvm.exec) (hb : c.code = cc) (hK : va_K D vwCl (tyl Y) s) (hG : gS D Y ad A H0 S H locs) {k : Nat} (hk : k < gN S) (hKk : gK S k = 15) {i : Int32} (hin : vp_in i (gL S k)) (hdg : decode cc pc = .ok (.daload, 1))
    (kk : W p l e R s m args below meth c H locs cells slots Q (F0 m (pc + 1) ls (.double (gF S k i.toNatClampNeg) :: rest))) : W p l e R s m args below meth c H locs cells slots Q (F0 m pc ls (.int i :: .ref (ad k) :: rest)) :=
  va_dald hexec hb hK hG.1 k 5 (wl_get hk (cell_15 hKk)) rfl hin hdg kk
theorem r_dast (hexec : p.tables.exec = Jvm.exec) (hb : c.code = cc) (hK : va_K D vwCl (tyl Y) s) (hG : gS D Y ad A H0 S H locs) {k : Nat} (hk : k < gN S) (hKk : gK S k = 15) {i : Int32} {x : UInt64} (hin : vp_in i (gL S k)) (hdg : decode cc pc = .ok (.dastore, 1))
    (kk : ∀ (H1 : Heap) (locs1 : List Loc), gS D Y ad A H0 (sF S k i.toNatClampNeg x) H1 locs1 → W p l e R s m args below meth c H1 locs1 cells slots Q (F0 m (pc + 1) ls rest)) : W p l e R s m args below meth c H locs cells slots Q (F0 m pc ls (.double x :: .int i :: .ref (ad k) :: rest)) :=
  va_dast hexec hb hK hG.1 hG.2.1 hG.2.2 k 5 (wl_get hk (cell_15 hKk)) rfl hin hdg (fun H1 locs1 h1 h2 h3 => kk H1 locs1 (by show gH D ad (gN S) A H0 (gCell Y ad (sF S k i.toNatClampNeg x)) H1 locs1; rw [pa_f hKk]; rw [wl_set hk] at h1 h2; exact ⟨h1, h2, h3⟩))
end GR9
