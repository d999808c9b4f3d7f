/-- a new row of Events -/
theorem r_newq {p : Program} {l : Launch} {e : Env} {R : Room} {s : State} {m : MethodId} {args : Array Value} {below : List Frame} {meth : Method} {c : Code} {H : Heap} {locs : List Loc} {cells slots : Nat} {Q : State → Prop} {cc : ByteArray} {pc : Nat} {ls : Array Slot} {rest : List Value} {D : va_G} {Y : Nat → ClassId} {A : Nat → Prop} {H0 : Heap} {ad : Nat → Nat} {S : GS}
    (hexec : p.tables.exec = Jvm.exec) (hb : c.code = cc) {own : String} {index : Nat} (hown : s.vm.findClass own = some m.cls) (hclink : (Cond.classLink own index "PauseLog$Event").before args s = true) (hover : va_AO "PauseLog$Event" s) (hK : va_K D vwCl (tyl Y) s) (hG : gS D Y ad A H0 S H locs) (hA : ∀ q, H0.size ≤ q → A q) (hcd : closed S)
    {n : Int32} {N' : Nat} (hn : ¬ n < 0) (hN : n.toNatClampNeg = N') (hbytes : N' * 4 ≤ 536870912) (hcells : cells + 1 ≤ R.cells) (hslots : slots + N' ≤ R.slots) (hdg : decode cc pc = .ok (.anewarray index, 3))
    (kk : ∀ (ad1 : Nat → Nat) (H1 : Heap), (∀ k, k < gN S → ad1 k = ad k) → gS D Y ad1 A H0 (nwS S 13 N') H1 locs →
      W p l e R s m args below meth c H1 locs (cells + 1) (slots + N') Q (F0 m (pc + 3) ls (.ref (ad1 (gN S)) :: rest))) : W p l e R s m args below meth c H locs cells slots Q (F0 m pc ls (.int n :: rest)) := by
  refine va_newq hexec hb hown hclink hover hK hG.1 hG.2.1 hG.2.2 hA hn hN hbytes hcells hslots hdg (fun q cA H1 hK1 h1 h2 h3 => ?_)
  obtain ⟨_, _, _, _, _, e1⟩ := (hK.2 3 (Y 3, .object "PauseLog$Event") rfl).2
  obtain ⟨_, _, _, _, _, e2⟩ := (hK1.2 (tyl Y).length (cA, .object "PauseLog$Event") (by rw [List.getElem?_append_right (Nat.le_refl _)]; simp)).2
  have e3 : cA = Y 3 := Option.some.inj (e2.symm.trans e1)
  subst e3
  rw [nwS_world (c := 13) (L := N') (e := .inl (Y 3, N', .inr (.inr (.inr (.inr (fun _ => none)))))) hcd rfl rfl] at h1 h2
  have k1 := kk (va_up ad (gN S) q) H1 (fun k hk => va_up_ne _ _ (Nat.ne_of_lt hk)) ⟨h1, h2, h3⟩
  rw [va_up_self] at k1
  exact k1
