/-! rows over the one state -/
abbrev GV : Type := Int32 ⊕ (Int64 ⊕ (UInt64 ⊕ (Option Nat ⊕ Nat)))
abbrev vI (x : Int32) : GV := .inl x
abbrev vL (x : Int64) : GV := .inr (.inl x)
abbrev vD (x : UInt64) : GV := .inr (.inr (.inl x))
abbrev vR (x : Option Nat) : GV := .inr (.inr (.inr (.inl x)))
/-- a String constant, by its number -/
abbrev vS (x : Nat) : GV := .inr (.inr (.inr (.inr x)))
def vv (za ad : Nat → Nat) (v : GV) : Value := match v with
  | .inl x => .int x
  | .inr (.inl x) => .long x
  | .inr (.inr (.inl x)) => .double x
  | .inr (.inr (.inr (.inl o))) => rv ad o
  | .inr (.inr (.inr (.inr i))) => .ref (za i)
/-- what is said of the String constants: Z of a set of cells that may change, a state, a heap -/
abbrev gS (D : va_G) (Y : Nat → ClassId) (ad : Nat → Nat) (A : Nat → Prop) (H0 : Heap) (S : GS) (H : Heap) (locs : List Loc) : Prop := gH D ad (gN S) A H0 (gCell Y ad S) H locs
theorem rf_rv (ad : Nat → Nat) (o : Option Nat) : va_rf (o.map ad) = rv ad o := by cases o <;> rfl
section GR
variable {p : Program} {l : Launch} {e : Env} {R : Room} {s : State} {m : MethodId} {args : Array Value} {below : List Frame} {meth : Method} {c : Code} {H : Heap} {locs : List Loc} {cells slots : Nat} {Q : State → Prop}
variable {cc : ByteArray} {pc : Nat} {ls : Array Slot} {rest st0 : List Value} {D : va_G} {Y : Nat → ClassId} {A : Nat → Prop} {H0 : Heap} {ad : Nat → Nat} {S : GS}
theorem r_put (hexec : p.tables.exec = Jvm.exec) (hb : c.code = cc) {own ref C : String} {T : u_T} {N ci index : Nat} {Ts : List Cond} (hts : ∀ w ∈ Ts, w.before args s = true) (hin : ∀ w ∈ u_ws C T N, w ∈ Ts) (ty0 : Nat → FieldType) (hty : ∀ k, k < N → parseFieldDescriptor (T k).2.2.1 = some (ty0 k)) (hnm : ∀ a, a < N → ∀ b, b < N → a ≠ b → (T a).2.1 ≠ (T b).2.1) (hown : s.vm.findClass own = some m.cls) (hK : va_K D vwCl (tyl Y) s) (hG : gS D Y ad A H0 S H locs) {k : Nat} (hk : k < gN S) {fs : List Value} (hσ : gCell Y ad S k = .inr (ci, fs)) (hc : vwCl[ci]? = some (C, T, N)) (j : Nat) (hj : j < N) (hlink : (Cond.fieldLink own index ref (T j).2.1 (T j).2.2.1).before args s = true) (hsame : ∀ x, s.fieldFound? (T j).1 (T j).2.1 (T j).2.2.1 = some x → s.fieldFound? ref (T j).2.1 (T j).2.2.1 = some x) (hfin : (T j).2.2.2 = false) {v : Value} (hn : narrow (ty0 j) v = v) (hfit : fits (ty0 j) v = true) (hl : j < fs.length) {S' : GS} (hN : gN S' = gN S) (hpu : gCell Y ad S' = va_up (gCell Y ad S) k (.inr (ci, fs.set j v)))
    (hdg : decode cc pc = .ok (.putfield index, 3)) (kk : ∀ (H1 : Heap) (locs1 : List Loc), gS D Y ad A H0 S' H1 locs1 → W p l e R s m args below meth c H1 locs1 cells slots Q (F0 m (pc + 3) ls rest)) : W p l e R s m args below meth c H locs cells slots Q (F0 m pc ls (v :: .ref (ad k) :: rest)) :=
  g_put (ci := ci) hexec hb hts hin ty0 hty hnm hown hK hG hk hσ hc j hj hlink hsame hfin (hty j hj) hn hfit hl hdg (fun H1 locs1 h => kk H1 locs1 (by show gH D ad (gN S') A H0 (gCell Y ad S') H1 locs1; rw [hN, hpu]; exact h))
theorem r_iald (hexec : p.tables.exec = Jvm.exec) (hb : c.code = cc) (hK : va_K D vwCl (tyl Y) s) (hG : gS D Y ad A H0 S H locs) {k : Nat} (hk : k < gN S) (hKk : gK S k = 11) {i : Int32} (hin : vp_in i (gL S k)) (hdg : decode cc pc = .ok (.iaload, 1))
    (kk : W p l e R s m args below meth c H locs cells slots Q (F0 m (pc + 1) ls (.int (gX S k i.toNatClampNeg) :: rest))) : W p l e R s m args below meth c H locs cells slots Q (F0 m pc ls (.int i :: .ref (ad k) :: rest)) :=
  g_iald hexec hb hK hG hk (cell_11 hKk) hin hdg kk
theorem r_zald (hexec : p.tables.exec = Jvm.exec) (hb : c.code = cc) (hK : va_K D vwCl (tyl Y) s) (hG : gS D Y ad A H0 S H locs) {k : Nat} (hk : k < gN S) (hKk : gK S k = 12) {i : Int32} (hin : vp_in i (gL S k)) (hdg : decode cc pc = .ok (.baload, 1))
    (kk : W p l e R s m args below meth c H locs cells slots Q (F0 m (pc + 1) ls (.int (gX S k i.toNatClampNeg) :: rest))) : W p l e R s m args below meth c H locs cells slots Q (F0 m pc ls (.int i :: .ref (ad k) :: rest)) :=
  g_zald hexec hb hK hG hk (cell_12 hKk) hin hdg kk
theorem r_cald (hexec : p.tables.exec = Jvm.exec) (hb : c.code = cc) (hK : va_K D vwCl (tyl Y) s) (hG : gS D Y ad A H0 S H locs) {k : Nat} (hk : k < gN S) (hKk : gK S k = 10) {i : Int32} (hin : vp_in i (gL S k)) (hdg : decode cc pc = .ok (.caload, 1))
    (kk : W p l e R s m args below meth c H locs cells slots Q (F0 m (pc + 1) ls (.int (gX S k i.toNatClampNeg) :: rest))) : W p l e R s m args below meth c H locs cells slots Q (F0 m pc ls (.int i :: .ref (ad k) :: rest)) :=
  g_cald hexec hb hK hG hk (cell_10 hKk) hin hdg kk
theorem r_lald (hexec : p.tables.exec = Jvm.exec) (hb : c.code = cc) (hK : va_K D vwCl (tyl Y) s) (hG : gS D Y ad A H0 S H locs) {k : Nat} (hk : k < gN S) (hKk : gK S k = 14) {i : Int32} (hin : vp_in i (gL S k)) (hdg : decode cc pc = .ok (.laload, 1))
    (kk : W p l e R s m args below meth c H locs cells slots Q (F0 m (pc + 1) ls (.long (gZ S k i.toNatClampNeg) :: rest))) : W p l e R s m args below meth c H locs cells slots Q (F0 m pc ls (.int i :: .ref (ad k) :: rest)) :=
  va_lald hexec hb hK hG.1 k 4 (wl_get hk (cell_14 hKk)) rfl hin hdg kk
theorem r_aald (hexec : p.tables.exec = Jvm.exec) (hb : c.code = cc) (hK : va_K D vwCl (tyl Y) s) (hG : gS D Y ad A H0 S H locs) {k : Nat} (hk : k < gN S) (hKk : gK S k = 13) {i : Int32} (hin : vp_in i (gL S k)) (hdg : decode cc pc = .ok (.aaload, 1))
    (kk : W p l e R s m args below meth c H locs cells slots Q (F0 m (pc + 1) ls (rv ad (gR S k i.toNatClampNeg) :: rest))) : W p l e R s m args below meth c H locs cells slots Q (F0 m pc ls (.int i :: .ref (ad k) :: rest)) :=
  va_aldq hexec hb hK hG.1 k 3 (wl_get hk (cell_13 hKk)) rfl hin hdg (by rw [rf_rv]; exact kk)
theorem r_iast (hexec : p.tables.exec = Jvm.exec) (hb : c.code = cc) (hK : va_K D vwCl (tyl Y) s) (hG : gS D Y ad A H0 S H locs) {k : Nat} (hk : k < gN S) (hKk : gK S k = 11) {i x : Int32} (hin : vp_in i (gL S k)) (hdg : decode cc pc = .ok (.iastore, 1))
    (kk : ∀ (H1 : Heap) (locs1 : List Loc), gS D Y ad A H0 (sX S k i.toNatClampNeg x) H1 locs1 → W p l e R s m args below meth c H1 locs1 cells slots Q (F0 m (pc + 1) ls rest)) : W p l e R s m args below meth c H locs cells slots Q (F0 m pc ls (.int x :: .int i :: .ref (ad k) :: rest)) :=
  g_iast hexec hb hK hG hk (cell_11 hKk) hin hdg (fun H1 locs1 h => kk H1 locs1 (by show gH D ad (gN S) A H0 (gCell Y ad (sX S k i.toNatClampNeg x)) H1 locs1; rw [pa_i (fun S h => cell_11 h) hKk]; exact h))
theorem r_zast (hexec : p.tables.exec = Jvm.exec) (hb : c.code = cc) (hK : va_K D vwCl (tyl Y) s) (hG : gS D Y ad A H0 S H locs) {k : Nat} (hk : k < gN S) (hKk : gK S k = 12) {i x : Int32} (hin : vp_in i (gL S k)) (hdg : decode cc pc = .ok (.bastore, 1))
    (kk : ∀ (H1 : Heap) (locs1 : List Loc), gS D Y ad A H0 (sX S k i.toNatClampNeg (vp_nar .boolean x)) H1 locs1 → W p l e R s m args below meth c H1 locs1 cells slots Q (F0 m (pc + 1) ls rest)) : W p l e R s m args below meth c H locs cells slots Q (F0 m pc ls (.int x :: .int i :: .ref (ad k) :: rest)) :=
  g_zast hexec hb hK hG hk (cell_12 hKk) hin hdg (fun H1 locs1 h => kk H1 locs1 (by show gH D ad (gN S) A H0 (gCell Y ad (sX S k i.toNatClampNeg (vp_nar .boolean x))) H1 locs1; rw [pa_i (fun S h => cell_12 h) hKk]; exact h))
theorem r_cast (hexec : p.tables.exec = Jvm.exec) (hb : c.code = cc) (hK : va_K D vwCl (tyl Y) s) (hG : gS D Y ad A H0 S H locs) {k : Nat} (hk : k < gN S) (hKk : gK S k = 10) {i x : Int32} (hin : vp_in i (gL S k)) (hdg : decode cc pc = .ok (.castore, 1))
    (kk : ∀ (H1 : Heap) (locs1 : List Loc), gS D Y ad A H0 (sX S k i.toNatClampNeg (vp_nar .char x)) H1 locs1 → W p l e R s m args below meth c H1 locs1 cells slots Q (F0 m (pc + 1) ls rest)) : W p l e R s m args below meth c H locs cells slots Q (F0 m pc ls (.int x :: .int i :: .ref (ad k) :: rest)) :=
  g_cast hexec hb hK hG hk (cell_10 hKk) hin hdg (fun H1 locs1 h => kk H1 locs1 (by show gH D ad (gN S) A H0 (gCell Y ad (sX S k i.toNatClampNeg (vp_nar .char x))) H1 locs1; rw [pa_i (fun S h => cell_10 h) hKk]; exact h))
theorem r_last (hexec : p.tables.exec = Jvm.exec) (hb : c.code = cc) (hK : va_K D vwCl (tyl Y) s) (hG : gS D Y ad A H0 S H locs) {k : Nat} (hk : k < gN S) (hKk : gK S k = 14) {i : Int32} {x : Int64} (hin : vp_in i (gL S k)) (hdg : decode cc pc = .ok (.lastore, 1))
    (kk : ∀ (H1 : Heap) (locs1 : List Loc), gS D Y ad A H0 (sZ S k i.toNatClampNeg x) H1 locs1 → W p l e R s m args below meth c H1 locs1 cells slots Q (F0 m (pc + 1) ls rest)) : W p l e R s m args below meth c H locs cells slots Q (F0 m pc ls (.long x :: .int i :: .ref (ad k) :: rest)) :=
  va_last hexec hb hK hG.1 hG.2.1 hG.2.2 k 4 (wl_get hk (cell_14 hKk)) rfl hin hdg (fun H1 locs1 h1 h2 h3 => kk H1 locs1 (by show gH D ad (gN S) A H0 (gCell Y ad (sZ S k i.toNatClampNeg x)) H1 locs1; rw [pa_l hKk]; rw [wl_set hk] at h1 h2; exact ⟨h1, h2, h3⟩))
theorem r_aast (hexec : p.tables.exec = Jvm.exec) (hb : c.code = cc) (hK : va_K D vwCl (tyl Y) s) (hG : gS D Y ad A H0 S H locs) {k q : Nat} (hk : k < gN S) (hKk : gK S k = 13) (hq : q < gN S) (hKq : gK S q = 2) {i : Int32} (hin : vp_in i (gL S k)) (hdg : decode cc pc = .ok (.aastore, 1))
    (kk : ∀ (H1 : Heap) (locs1 : List Loc), gS D Y ad A H0 (sR S k i.toNatClampNeg (some q)) H1 locs1 → W p l e R s m args below meth c H1 locs1 cells slots Q (F0 m (pc + 1) ls rest)) : W p l e R s m args below meth c H locs cells slots Q (F0 m pc ls (.ref (ad q) :: .int i :: .ref (ad k) :: rest)) :=
  va_astq hexec hb hK hG.1 hG.2.1 hG.2.2 k 3 q 2 (wl_get hk (cell_13 hKk)) (r := (RX2, TX2, 15)) rfl (wl_get hq (cell_2 hKq)) rfl hin hdg (fun H1 locs1 h1 h2 h3 => kk H1 locs1 (by show gH D ad (gN S) A H0 (gCell Y ad (sR S k i.toNatClampNeg (some q))) H1 locs1; rw [pa_r hKk]; rw [wl_set hk] at h1 h2; exact ⟨h1, h2, h3⟩))
theorem r_alen (hexec : p.tables.exec = Jvm.exec) (hb : c.code = cc) (hK : va_K D vwCl (tyl Y) s) (hG : gS D Y ad A H0 S H locs) {k : Nat} (hk : k < gN S) (hKk : gK S k = 10 ∨ gK S k = 11 ∨ gK S k = 13) (hdg : decode cc pc = .ok (.arraylength, 1))
    (kk : W p l e R s m args below meth c H locs cells slots Q (F0 m (pc + 1) ls (.int (nI (gL S k)) :: rest))) : W p l e R s m args below meth c H locs cells slots Q (F0 m pc ls (.ref (ad k) :: rest)) := by
  rcases hKk with h | h | h
  · exact va_alen hexec hb hK hG.1 k 0 (wl_get hk (cell_10 h)) rfl rfl hdg kk
  · exact va_alen hexec hb hK hG.1 k 1 (wl_get hk (cell_11 h)) rfl rfl hdg kk
  · exact va_alen hexec hb hK hG.1 k 3 (wl_get hk (cell_13 h)) rfl rfl hdg kk
end GR
/-- the same places, kinds and lengths -/
def gSh (S' S : GS) : Prop := gN S' = gN S ∧ gK S' = gK S ∧ gL S' = gL S
theorem gSh.rf (S : GS) : gSh S S := ⟨rfl, rfl, rfl⟩
theorem gSh.tr {S'' S' S : GS} (h : gSh S'' S') (h2 : gSh S' S) : gSh S'' S := ⟨h.1.trans h2.1, h.2.1.trans h2.2.1, h.2.2.trans h2.2.2⟩
theorem gSh.x (S : GS) (k j : Nat) (v : Int32) : gSh (sX S k j v) S := ⟨rfl, rfl, rfl⟩
theorem gSh.z (S : GS) (k j : Nat) (v : Int64) : gSh (sZ S k j v) S := ⟨rfl, rfl, rfl⟩
theorem gSh.r (S : GS) (k j : Nat) (v : Option Nat) : gSh (sR S k j v) S := ⟨rfl, rfl, rfl⟩
theorem gSh.f (S : GS) (k j : Nat) (v : UInt64) : gSh (sF S k j v) S := ⟨rfl, rfl, rfl⟩
theorem gSh.lt {S' S : GS} (h : gSh S' S) {k : Nat} (q : k < gN S) : k < gN S' := by rw [h.1]; exact q
theorem gSh.kd {S' S : GS} (h : gSh S' S) {k x : Nat} (q : gK S k = x) : gK S' k = x := by rw [h.2.1]; exact q
theorem nar01 {v : Int32} (h : v = 0 ∨ v = 1) : narrow .boolean (.int v) = .int v := by rcases h with rfl | rfl <;> rfl
theorem fit01 {v : Int32} (h : v = 0 ∨ v = 1) : fits .boolean (.int v) = true := by rcases h with rfl | rfl <;> rfl
theorem tab0 {x : Int32} {N : Nat} (h : ∀ k, k ≤ N → x ≠ nI k) (hN : N < 2 ^ 31) : x.toInt < 0 ∨ (N : Int) < x.toInt := by
  rcases Int.lt_or_le x.toInt 0 with q | q
  · exact Or.inl q
  · rcases Int.lt_or_le (N : Int) x.toInt with q2 | q2
    · exact Or.inr q2
    · have e : x = nI x.toInt.toNat := by
        apply Int32.toInt_inj.mp
        rw [nI_toInt (by omega)]
        omega
      exact absurd e (h _ (by omega))
/-- what a method's post says, of the world -/
abbrev gQ (Y : Nat → ClassId) (za ad : Nat → Nat) (S : GS) (post : Option GV → GS → Prop) : Option Value → (Nat → va_E) → Prop := fun r σ' => ∃ (q : Option GV) (S' : GS), r = q.map (vv za ad) ∧ post q S' ∧ gSh S' S ∧ σ' = gCell Y ad S'
/-- a method that makes nothing, of which String constants are not asked -/
def CS (l : Launch) (y : MethodName) (ws : List Cond) (d : Nat) (S : GS) (As : List GV) (post : Option GV → GS → Prop) : Prop :=
  ∀ (D : va_G) (Y : Nat → ClassId) (za ad : Nat → Nat), CG l y ws d D Y ad (gN S) (gCell Y ad S) (As.map (vv za ad)) (gQ Y za ad S post)
section GR2
variable {p : Program} {l : Launch} {e : Env} {R : Room} {s : State} {m : MethodId} {args : Array Value} {below : List Frame} {meth : Method} {c : Code} {H : Heap} {locs : List Loc} {cells slots : Nat} {Q : State → Prop}
variable {cc : ByteArray} {pc : Nat} {ls : Array Slot} {rest st0 : List Value} {D : va_G} {Y : Nat → ClassId} {A : Nat → Prop} {H0 : Heap} {za ad : Nat → Nat} {S : GS}
theorem r_callV {y : MethodName} {ws Ts : List Cond} {d ci k maxL na nL index : Nat} {own C : String} {T : u_T} {N : Nat} {bytes : ByteArray} {ret : Option FieldType} {As : List GV} {post : Option GV → GS → Prop} {fs : List Value}
    (hM : CS l y ws d S (vR (some k) :: As) post) (S0 : CallFix p m c cc nL s args Ts own) (cw : CallW R s args own C index y bytes maxL ret ws (rmD d) 0 0 na) (hK : va_K D vwCl (tyl Y) s) (hG : gS D Y ad A H0 S H locs) (hA : ∀ q, H0.size ≤ q → A q) (hk : k < gN S) (hσ : gCell Y ad S k = .inr (ci, fs)) (hc : vwCl[ci]? = some (C, T, N))
    (hn : (As.map (vv za ad)).length = na) (hsize : ls.size = nL) (hstack : st0 = (As.map (vv za ad)).reverse ++ .ref (ad k) :: rest) (hW : (rest.map fun v => v.category).sum ≤ 8) (hf : cells ≤ R.cells ∧ slots ≤ R.slots) (hdg : decode cc pc = .ok (.invokevirtual index, 3))
    (kk : ∀ (r : Option GV) (S' : GS) (H1 : Heap) (locs1 : List Loc), post r S' → gSh S' S → gS D Y ad A H0 S' H1 locs1 → W p l e R s m args below meth c H1 locs1 cells slots Q (F0 m (pc + 3) ls ((r.map (vv za ad)).toList ++ rest))) : W p l e R s m args below meth c H locs cells slots Q (F0 m pc ls st0) := by
  refine g_callV (k := k) (As := As.map (vv za ad)) (rest := rest) (hM D Y za ad) S0 cw hK hG hA hk hσ hc hn hsize hstack hW hf hdg (fun r σ' H1 locs1 hp hH1 => ?_)
  obtain ⟨q, S', rfl, h1, h2, rfl⟩ := hp
  exact kk q S' H1 locs1 h1 h2 (by show gH D ad (gN S') A H0 (gCell Y ad S') H1 locs1; rw [h2.1]; exact hH1)
theorem r_callS {y : MethodName} {ws Ts : List Cond} {d maxL na nL index : Nat} {own : String} {bytes : ByteArray} {ret : Option FieldType} {As : List GV} {post : Option GV → GS → Prop}
    (hM : CS l y ws d S As post) (S0 : CallFix p m c cc nL s args Ts own) (cw : CallB R s args own index y bytes maxL ret ws (rmD d) 0 0 na ∧ (Cond.static y).before args s = true) (hK : va_K D vwCl (tyl Y) s) (hG : gS D Y ad A H0 S H locs) (hA : ∀ q, H0.size ≤ q → A q)
    (hn : (As.map (vv za ad)).length = na) (hsize : ls.size = nL) (hstack : st0 = (As.map (vv za ad)).reverse ++ rest) (hW : (rest.map fun v => v.category).sum ≤ 8) (hf : cells ≤ R.cells ∧ slots ≤ R.slots) (hdg : decode cc pc = .ok (.invokestatic index, 3))
    (kk : ∀ (r : Option GV) (S' : GS) (H1 : Heap) (locs1 : List Loc), post r S' → gSh S' S → gS D Y ad A H0 S' H1 locs1 → W p l e R s m args below meth c H1 locs1 cells slots Q (F0 m (pc + 3) ls ((r.map (vv za ad)).toList ++ rest))) : W p l e R s m args below meth c H locs cells slots Q (F0 m pc ls st0) := by
  refine g_callS (As := As.map (vv za ad)) (rest := rest) (hM D Y za ad) S0 cw hK hG hA hn hsize hstack hW hf hdg (fun r σ' H1 locs1 hp hH1 => ?_)
  obtain ⟨q, S', rfl, h1, h2, rfl⟩ := hp
  exact kk q S' H1 locs1 h1 h2 (by show gH D ad (gN S') A H0 (gCell Y ad S') H1 locs1; rw [h2.1]; exact hH1)
end GR2
/-- what a walk owes at its end -/
abbrev gE (D : va_G) (Y : Nat → ClassId) (za ad : Nat → Nat) (S0 : GS) (sz : Nat) (post : Option GV → GS → Prop) : Array Value → State → Outcome → State → Prop := gPost D ad (gN S0) (gCell Y ad S0) sz (gQ Y za ad S0 post)
theorem r_end {D : va_G} {Y : Nat → ClassId} {za ad : Nat → Nat} {S0 S : GS} {post : Option GV → GS → Prop} {s t : State} {a : Array Value} {H : Heap} {locs : List Loc} {r : Option GV} {A : Nat → Prop} {v : Option Value} (hAe : A = va_A (wl ad (gN S0) (gCell Y ad S0)) s.heap.size) (hG : gS D Y ad A s.heap S H locs) (hN : gSh S S0) (hp : post r S) (hv : v = r.map (vv za ad)) (ht : t.heap = H) : gE D Y za ad S0 s.heap.size post a s (.returned v) t := by
  subst hAe hv
  obtain ⟨hP, hD, hS⟩ := hG
  exact ⟨⟨_, _, rfl, ⟨r, S, rfl, hp, hN, rfl⟩, by rw [ht, ← hN.1]; exact hP⟩, hS.F ht⟩
theorem CS.ofW {l : Launch} {y : MethodName} {cc : ByteArray} {maxL : Nat} {ret : Option FieldType} {ws ws' : List Cond} {d : Nat} {S : GS} {As : List GV} {post : Option GV → GS → Prop} (own : String) (hy : plainName y.cls = true) (hc : y.cls = own) (hw : ws = Cond.code y cc maxL ret :: ws') (hAs : ∀ za ad, (lg_sl (As.map (vv za ad))).length ≤ maxL)
    (body : ∀ (p : Program) (e : Env) (s : State) (m : MethodId) (args : Array Value) (below : List Frame) (meth : Method) (c : Code) (D : va_G) (Y : Nat → ClassId) (za ad : Nat → Nat) (A : Nat → Prop) (ls : Array Slot), A = va_A (wl ad (gN S) (gCell Y ad S)) s.heap.size →
      p.tables.exec = Jvm.exec → c.code = cc → meth.sig.returnType = ret → c.maxLocals = maxL → (∀ w ∈ ws, w.before args s = true) → s.vm.findClass own = some m.cls → meth.locks = false → va_K D vwCl (tyl Y) s → (∀ q, s.heap.size ≤ q → A q) → gS D Y ad A s.heap S s.heap [] → lv_has ls maxL (lv_args 0 (As.map (vv za ad))) →
      W p l e (rmD d) s m args below meth c s.heap [] 0 0 (MQ below (gE D Y za ad S s.heap.size post) args s 0 0 A) (F0 m 0 ls [])) : CS l y ws d S As post := by
  intro D Y za ad sz
  refine Met.ofW (cc := cc) (maxL := maxL) (ret := ret) hy hw ?_
  intro p e s m args below meth c s₁ Bd hml hv
  obtain ⟨rfl, hsz, hP, hK, hD0⟩ := hv
  subst hsz
  have hts := atoms_spec (ws := ws) Bd.pre
  have hown : s.vm.findClass y.cls = some m.cls := findClass_of_methodNamed Bd.named
  rw [hc] at hown
  have hl := lv_entry (As.map (vv za ad)) (n := maxL) (hAs za ad)
  rw [lg_entry_eq]
  exact body p e s m _ below meth c D Y za ad _ _ rfl Bd.exec Bd.bytes Bd.returns hml hts hown Bd.notSynchronized hK (fun q h => Or.inr h) ⟨hP, hD0.self (sz := s.heap.size), va_S.rf⟩ hl
