/-! THE REFERENCE RUNS ALONG A MOULD. -/
def pR (k j : Nat) : Prop := k = 18 ∨ (k = 14 ∧ (j = 7 ∨ j = 35))
/-- S is S1 but for the numbers, which are ns, and 'fits', which is false -/
def Rs (S1 S : GS) (ns : List Int32) : Prop := Fix S1 ∧ Ag pR S1 S ∧ gX S 14 7 = nI ns.length ∧ gX S 14 35 = 0 ∧ ∀ i, i < ns.length → gX S 18 i = ns.getD i 0
theorem Rs.fix {S0 S : GS} {L : List Int32} (h : Rs S0 S L) : Fix S := h.1.ag h.2.1
theorem Rs.eq {S0 S : GS} {L L' : List Int32} (h : Rs S0 S L) (e : L = L') : Rs S0 S L' := e ▸ h
theorem pg_iff (T : Nat → Int32) (n p : Nat) : pg T n p = true ↔ p < n ∧ 48 ≤ T p ∧ T p ≤ 57 := by simp [pg]
theorem q_digitAt {S : GS} {n p : Nat} {Q : Int32 → GS → Prop} (hF : Fix S) (hn : gX S 14 1 = nI n) (hn72 : n ≤ 72) (hp : p ≤ 72) (hQ : Q (if pg (gX S 15) n p then 1 else 0) S) : wX9_digitAt S 14 (nI p) Q := by
  have hb : (gX S 15 p < 48 ↔ ¬ 48 ≤ gX S 15 p) := by rw [Int32.not_le]
  have hb2 : (57 < gX S 15 p ↔ ¬ gX S 15 p ≤ 57) := by rw [Int32.not_le]
  unfold wX9_digitAt wX9_digitAt_34 wX9_digitAt_35
  simp only [fn_14 hF, fk_14 hF, fn_15 hF, fk_15 hF, fn_16 hF, fk_16 hF, fn_17 hF, fk_17 hF, fn_18 hF, fk_18 hF, fn_19 hF, fk_19 hF, fn_20 hF, fk_20 hF, fn_21 hF, fk_21 hF, fn_22 hF, fk_22 hF, fn_23 hF, fk_23 hF, fn_24 hF, fk_24 hF, fn_25 hF, fk_25 hF, fn_26 hF, fk_26 hF, fn_27 hF, fk_27 hF, fn_28 hF, fk_28 hF, fn_29 hF, fk_29 hF, fn_30 hF, fk_30 hF, fn_31 hF, fk_31 hF, fn_32 hF, fk_32 hF, fn_33 hF, fk_33 hF, fn_34 hF, fk_34 hF, fn_35 hF, fk_35 hF, fn_36 hF, fk_36 hF, fl_15 hF, fl_16 hF, fl_17 hF, fl_18 hF, fl_19 hF, fl_20 hF, fl_21 hF, fl_22 hF, fl_23 hF, fl_24 hF, fl_25 hF, fl_26 hF, fl_27 hF, fl_28 hF, fl_29 hF, fl_30 hF, fl_31 hF, fl_32 hF, fl_33 hF, fl_34 hF, fl_35 hF, fl_36 hF, fr_14_0 hF, fr_14_2 hF, fr_14_4 hF, fr_14_6 hF, fr_14_8 hF, fr_14_9 hF, fr_14_10 hF, fr_14_11 hF, fr_14_12 hF, fr_14_13 hF, fr_14_14 hF, fr_14_15 hF, fr_14_16 hF, fr_14_17 hF, fr_14_18 hF, fr_14_21 hF, fr_14_22 hF, fr_14_23 hF, fr_14_24 hF, fr_14_26 hF, fr_14_27 hF, fr_14_28 hF, n_sX, k_sX, l_sX, x_sX, z_sX, r_sX, f_sX, n_sZ, k_sZ, l_sZ, x_sZ, z_sZ, r_sZ, f_sZ, n_sR, k_sR, l_sR, x_sR, z_sR, r_sR, f_sR, n_sF, k_sF, l_sF, x_sF, z_sF, r_sF, f_sF, Nat.reduceEqDiff, true_and, and_true, false_and, and_false, and_self, if_true, if_false, reduceIte, exists_eq_left, exists_eq_left', Option.some.injEq, forall_eq, forall_const, imp_self, reduceCtorEq, not_true_eq_false, not_false_eq_true, false_imp_iff, true_imp_iff, implies_true, hn, nj_le (show n < 2147483648 by omega) (show p < 2147483648 by omega), nj_clamp (show p < 2147483648 by omega), eq_self, true_or, or_true]
  refine ⟨fun h => ?_, fun h => ⟨nj_in (by omega) (by omega), fun h1 => ?_, fun h1 => ⟨nj_in (by omega) (by omega), fun h2 => ?_, fun h2 => ?_⟩⟩⟩
  · rw [if_neg] at hQ
    · exact hQ
    · intro hh; have := ((pg_iff _ _ _).mp hh).1; omega
  · rw [if_neg] at hQ
    · exact hQ
    · intro hh; exact (hb.mp h1) ((pg_iff _ _ _).mp hh).2.1
  · rw [if_neg] at hQ
    · exact hQ
    · intro hh; exact (hb2.mp h2) ((pg_iff _ _ _).mp hh).2.2
  · rw [if_pos] at hQ
    · exact hQ
    · exact (pg_iff _ _ _).mpr ⟨by omega, Classical.not_not.mp (fun a => h1 (hb.mpr a)), Classical.not_not.mp (fun a => h2 (hb2.mpr a))⟩
theorem q_pad0 {S : GS} {n p : Nat} {Q : Int32 → GS → Prop} (hF : Fix S) (hn : gX S 14 1 = nI n) (hn72 : n ≤ 72) (hp : p ≤ 72) (hQ : Q (if p < n ∧ gX S 15 p = 48 then 1 else 0) S) : wX9_pad0 S 14 (nI p) Q := by
  unfold wX9_pad0 wX9_pad0_23 wX9_pad0_24
  simp only [fn_14 hF, fk_14 hF, fn_15 hF, fk_15 hF, fn_16 hF, fk_16 hF, fn_17 hF, fk_17 hF, fn_18 hF, fk_18 hF, fn_19 hF, fk_19 hF, fn_20 hF, fk_20 hF, fn_21 hF, fk_21 hF, fn_22 hF, fk_22 hF, fn_23 hF, fk_23 hF, fn_24 hF, fk_24 hF, fn_25 hF, fk_25 hF, fn_26 hF, fk_26 hF, fn_27 hF, fk_27 hF, fn_28 hF, fk_28 hF, fn_29 hF, fk_29 hF, fn_30 hF, fk_30 hF, fn_31 hF, fk_31 hF, fn_32 hF, fk_32 hF, fn_33 hF, fk_33 hF, fn_34 hF, fk_34 hF, fn_35 hF, fk_35 hF, fn_36 hF, fk_36 hF, fl_15 hF, fl_16 hF, fl_17 hF, fl_18 hF, fl_19 hF, fl_20 hF, fl_21 hF, fl_22 hF, fl_23 hF, fl_24 hF, fl_25 hF, fl_26 hF, fl_27 hF, fl_28 hF, fl_29 hF, fl_30 hF, fl_31 hF, fl_32 hF, fl_33 hF, fl_34 hF, fl_35 hF, fl_36 hF, fr_14_0 hF, fr_14_2 hF, fr_14_4 hF, fr_14_6 hF, fr_14_8 hF, fr_14_9 hF, fr_14_10 hF, fr_14_11 hF, fr_14_12 hF, fr_14_13 hF, fr_14_14 hF, fr_14_15 hF, fr_14_16 hF, fr_14_17 hF, fr_14_18 hF, fr_14_21 hF, fr_14_22 hF, fr_14_23 hF, fr_14_24 hF, fr_14_26 hF, fr_14_27 hF, fr_14_28 hF, n_sX, k_sX, l_sX, x_sX, z_sX, r_sX, f_sX, n_sZ, k_sZ, l_sZ, x_sZ, z_sZ, r_sZ, f_sZ, n_sR, k_sR, l_sR, x_sR, z_sR, r_sR, f_sR, n_sF, k_sF, l_sF, x_sF, z_sF, r_sF, f_sF, Nat.reduceEqDiff, true_and, and_true, false_and, and_false, and_self, if_true, if_false, reduceIte, exists_eq_left, exists_eq_left', Option.some.injEq, forall_eq, forall_const, imp_self, reduceCtorEq, not_true_eq_false, not_false_eq_true, false_imp_iff, true_imp_iff, implies_true, hn, nj_le (show n < 2147483648 by omega) (show p < 2147483648 by omega), nj_clamp (show p < 2147483648 by omega), eq_self, true_or, or_true]
  refine ⟨fun h => ?_, fun h => ⟨nj_in (by omega) (by omega), fun h1 => ?_, fun h1 => ?_⟩⟩
  · rw [if_neg (by omega)] at hQ; exact hQ
  · rw [if_neg (fun a => h1 a.2)] at hQ; exact hQ
  · rw [if_pos ⟨by omega, h1⟩] at hQ; exact hQ
theorem Rs.push {S1 S : GS} {ns : List Int32} (h : Rs S1 S ns) (v : Int32) : Rs S1 (sX (sX S 18 ns.length v) 14 7 (nI (ns.length + 1))) (ns ++ [v]) := by
  obtain ⟨h0, ha, hm, h35, hi⟩ := h
  refine ⟨h0, ?_, ?_, ?_, ?_⟩
  · exact (ha.x _ _ _ (Or.inl rfl)).x _ _ _ (Or.inr ⟨rfl, Or.inl rfl⟩)
  · simp only [x_sX, and_self, if_true, List.length_append, List.length_cons, List.length_nil]
  · simp only [x_sX, n_sX, k_sX, l_sX, x_sX, z_sX, r_sX, f_sX, n_sZ, k_sZ, l_sZ, x_sZ, z_sZ, r_sZ, f_sZ, n_sR, k_sR, l_sR, x_sR, z_sR, r_sR, f_sR, n_sF, k_sF, l_sF, x_sF, z_sF, r_sF, f_sF, Nat.reduceEqDiff, true_and, and_true, false_and, and_false, and_self, if_true, if_false, reduceIte, exists_eq_left, exists_eq_left', Option.some.injEq, forall_eq, forall_const, imp_self, reduceCtorEq, not_true_eq_false, not_false_eq_true, false_imp_iff, true_imp_iff, implies_true]
    exact h35
  · intro i hi2
    simp only [List.length_append, List.length_cons, List.length_nil] at hi2
    simp only [x_sX, n_sX, k_sX, l_sX, x_sX, z_sX, r_sX, f_sX, n_sZ, k_sZ, l_sZ, x_sZ, z_sZ, r_sZ, f_sZ, n_sR, k_sR, l_sR, x_sR, z_sR, r_sR, f_sR, n_sF, k_sF, l_sF, x_sF, z_sF, r_sF, f_sF, Nat.reduceEqDiff, true_and, and_true, false_and, and_false, and_self, if_true, if_false, reduceIte, exists_eq_left, exists_eq_left', Option.some.injEq, forall_eq, forall_const, imp_self, reduceCtorEq, not_true_eq_false, not_false_eq_true, false_imp_iff, true_imp_iff, implies_true]
    by_cases e : i = ns.length
    · subst e
      simp
    · rw [if_neg e, hi i (by omega)]
      simp only [List.getD_eq_getElem?_getD]
      rw [List.getElem?_append_left (by omega)]
theorem q_pass191 {S1 S : GS} {ns : List Int32} {p : Nat} {v : Int32} {Q : Int32 → GS → Prop} (h : Rs S1 S ns) (hQ : ∀ S2, Rs S1 S2 (ns ++ [v]) → Q (nI p) S2) : wX9_pass_191 Q 14 (nI p) (sX S 18 ns.length v) := by
  have hF := h.fix
  have h7 := h.2.2.1
  unfold wX9_pass_191
  simp only [n_sX, k_sX, l_sX, x_sX, z_sX, r_sX, f_sX, n_sZ, k_sZ, l_sZ, x_sZ, z_sZ, r_sZ, f_sZ, n_sR, k_sR, l_sR, x_sR, z_sR, r_sR, f_sR, n_sF, k_sF, l_sF, x_sF, z_sF, r_sF, f_sF, Nat.reduceEqDiff, true_and, and_true, false_and, and_false, and_self, if_true, if_false, reduceIte, exists_eq_left, exists_eq_left', Option.some.injEq, forall_eq, forall_const, imp_self, reduceCtorEq, not_true_eq_false, not_false_eq_true, false_imp_iff, true_imp_iff, implies_true, fn_14 hF, fk_14 hF, fn_15 hF, fk_15 hF, fn_16 hF, fk_16 hF, fn_17 hF, fk_17 hF, fn_18 hF, fk_18 hF, fn_19 hF, fk_19 hF, fn_20 hF, fk_20 hF, fn_21 hF, fk_21 hF, fn_22 hF, fk_22 hF, fn_23 hF, fk_23 hF, fn_24 hF, fk_24 hF, fn_25 hF, fk_25 hF, fn_26 hF, fk_26 hF, fn_27 hF, fk_27 hF, fn_28 hF, fk_28 hF, fn_29 hF, fk_29 hF, fn_30 hF, fk_30 hF, fn_31 hF, fk_31 hF, fn_32 hF, fk_32 hF, fn_33 hF, fk_33 hF, fn_34 hF, fk_34 hF, fn_35 hF, fk_35 hF, fn_36 hF, fk_36 hF, fl_15 hF, fl_16 hF, fl_17 hF, fl_18 hF, fl_19 hF, fl_20 hF, fl_21 hF, fl_22 hF, fl_23 hF, fl_24 hF, fl_25 hF, fl_26 hF, fl_27 hF, fl_28 hF, fl_29 hF, fl_30 hF, fl_31 hF, fl_32 hF, fl_33 hF, fl_34 hF, fl_35 hF, fl_36 hF, fr_14_0 hF, fr_14_2 hF, fr_14_4 hF, fr_14_6 hF, fr_14_8 hF, fr_14_9 hF, fr_14_10 hF, fr_14_11 hF, fr_14_12 hF, fr_14_13 hF, fr_14_14 hF, fr_14_15 hF, fr_14_16 hF, fr_14_17 hF, fr_14_18 hF, fr_14_21 hF, fr_14_22 hF, fr_14_23 hF, fr_14_24 hF, fr_14_26 hF, fr_14_27 hF, fr_14_28 hF, h7, nj_succ]
  exact hQ _ (h.push v)
theorem q_pass104 {S1 S : GS} {ns : List Int32} {p : Nat} {v : Int32} {Q : Int32 → GS → Prop} (h : Rs S1 S ns) (hns : ns.length < 16) (hQ : ∀ S2, Rs S1 S2 (ns ++ [v]) → Q (nI p) S2) : wX9_pass_104 Q 14 (nI p) (gR S 14 6) (gX S 14 7) v S := by
  have hF := h.fix
  have h7 := h.2.2.1
  unfold wX9_pass_104
  simp only [fn_14 hF, fk_14 hF, fn_15 hF, fk_15 hF, fn_16 hF, fk_16 hF, fn_17 hF, fk_17 hF, fn_18 hF, fk_18 hF, fn_19 hF, fk_19 hF, fn_20 hF, fk_20 hF, fn_21 hF, fk_21 hF, fn_22 hF, fk_22 hF, fn_23 hF, fk_23 hF, fn_24 hF, fk_24 hF, fn_25 hF, fk_25 hF, fn_26 hF, fk_26 hF, fn_27 hF, fk_27 hF, fn_28 hF, fk_28 hF, fn_29 hF, fk_29 hF, fn_30 hF, fk_30 hF, fn_31 hF, fk_31 hF, fn_32 hF, fk_32 hF, fn_33 hF, fk_33 hF, fn_34 hF, fk_34 hF, fn_35 hF, fk_35 hF, fn_36 hF, fk_36 hF, fl_15 hF, fl_16 hF, fl_17 hF, fl_18 hF, fl_19 hF, fl_20 hF, fl_21 hF, fl_22 hF, fl_23 hF, fl_24 hF, fl_25 hF, fl_26 hF, fl_27 hF, fl_28 hF, fl_29 hF, fl_30 hF, fl_31 hF, fl_32 hF, fl_33 hF, fl_34 hF, fl_35 hF, fl_36 hF, fr_14_0 hF, fr_14_2 hF, fr_14_4 hF, fr_14_6 hF, fr_14_8 hF, fr_14_9 hF, fr_14_10 hF, fr_14_11 hF, fr_14_12 hF, fr_14_13 hF, fr_14_14 hF, fr_14_15 hF, fr_14_16 hF, fr_14_17 hF, fr_14_18 hF, fr_14_21 hF, fr_14_22 hF, fr_14_23 hF, fr_14_24 hF, fr_14_26 hF, fr_14_27 hF, fr_14_28 hF, n_sX, k_sX, l_sX, x_sX, z_sX, r_sX, f_sX, n_sZ, k_sZ, l_sZ, x_sZ, z_sZ, r_sZ, f_sZ, n_sR, k_sR, l_sR, x_sR, z_sR, r_sR, f_sR, n_sF, k_sF, l_sF, x_sF, z_sF, r_sF, f_sF, Nat.reduceEqDiff, true_and, and_true, false_and, and_false, and_self, if_true, if_false, reduceIte, exists_eq_left, exists_eq_left', Option.some.injEq, forall_eq, forall_const, imp_self, reduceCtorEq, not_true_eq_false, not_false_eq_true, false_imp_iff, true_imp_iff, implies_true, h7, nj_clamp (show ns.length < 2147483648 by omega)]
  exact ⟨nj_in hns (by omega), q_pass191 h hQ⟩
theorem q_pass180 {S1 S : GS} {ns : List Int32} {p : Nat} {v : Int32} {Q : Int32 → GS → Prop} (h : Rs S1 S ns) (hns : ns.length < 16) (hQ : ∀ S2, Rs S1 S2 (ns ++ [v]) → Q (nI p) S2) : wX9_pass_180 Q 14 (nI p) v S := by
  have hF := h.fix
  have h7 := h.2.2.1
  unfold wX9_pass_180
  simp only [fn_14 hF, fk_14 hF, fn_15 hF, fk_15 hF, fn_16 hF, fk_16 hF, fn_17 hF, fk_17 hF, fn_18 hF, fk_18 hF, fn_19 hF, fk_19 hF, fn_20 hF, fk_20 hF, fn_21 hF, fk_21 hF, fn_22 hF, fk_22 hF, fn_23 hF, fk_23 hF, fn_24 hF, fk_24 hF, fn_25 hF, fk_25 hF, fn_26 hF, fk_26 hF, fn_27 hF, fk_27 hF, fn_28 hF, fk_28 hF, fn_29 hF, fk_29 hF, fn_30 hF, fk_30 hF, fn_31 hF, fk_31 hF, fn_32 hF, fk_32 hF, fn_33 hF, fk_33 hF, fn_34 hF, fk_34 hF, fn_35 hF, fk_35 hF, fn_36 hF, fk_36 hF, fl_15 hF, fl_16 hF, fl_17 hF, fl_18 hF, fl_19 hF, fl_20 hF, fl_21 hF, fl_22 hF, fl_23 hF, fl_24 hF, fl_25 hF, fl_26 hF, fl_27 hF, fl_28 hF, fl_29 hF, fl_30 hF, fl_31 hF, fl_32 hF, fl_33 hF, fl_34 hF, fl_35 hF, fl_36 hF, fr_14_0 hF, fr_14_2 hF, fr_14_4 hF, fr_14_6 hF, fr_14_8 hF, fr_14_9 hF, fr_14_10 hF, fr_14_11 hF, fr_14_12 hF, fr_14_13 hF, fr_14_14 hF, fr_14_15 hF, fr_14_16 hF, fr_14_17 hF, fr_14_18 hF, fr_14_21 hF, fr_14_22 hF, fr_14_23 hF, fr_14_24 hF, fr_14_26 hF, fr_14_27 hF, fr_14_28 hF, n_sX, k_sX, l_sX, x_sX, z_sX, r_sX, f_sX, n_sZ, k_sZ, l_sZ, x_sZ, z_sZ, r_sZ, f_sZ, n_sR, k_sR, l_sR, x_sR, z_sR, r_sR, f_sR, n_sF, k_sF, l_sF, x_sF, z_sF, r_sF, f_sF, Nat.reduceEqDiff, true_and, and_true, false_and, and_false, and_self, if_true, if_false, reduceIte, exists_eq_left, exists_eq_left', Option.some.injEq, forall_eq, forall_const, imp_self, reduceCtorEq, not_true_eq_false, not_false_eq_true, false_imp_iff, true_imp_iff, implies_true, h7, nj_clamp (show ns.length < 2147483648 by omega)]
  exact ⟨nj_in hns (by omega), q_pass191 h hQ⟩
theorem q_pass141 {S1 S : GS} {ns : List Int32} {n p0 : Nat} {Q : Int32 → GS → Prop} (h : Rs S1 S ns) (hns : ns.length < 16) (hn : gX S1 14 1 = nI n) (hn72 : n ≤ 72) : ∀ (m c : Nat) (v : Int32), p0 + c ≤ n → m ≤ 5 → (∀ S2, Rs S1 S2 (ns ++ [(rdg (gX S1 15) n m (p0 + c) v).2]) → Q (nI (rdg (gX S1 15) n m (p0 + c) v).1) S2) → wX9_pass_141 Q 14 (m + 1) (nI p0) (nI (p0 + c)) (nI (c + m)) v S := by
  have hF := h.fix
  have h15 : gX S 15 = gX S1 15 := h.2.1.row 15 (by intro j hj; unfold pR at hj; omega)
  have hnS : gX S 14 1 = nI n := by rw [h.2.1.X 14 1 (by unfold pR; omega)]; exact hn
  intro m
  induction m with
  | zero =>
    intro c v hc _ hQ
    unfold wX9_pass_141
    rw [nj_sub (by omega), show p0 + c - p0 = c by omega, nj_le (by omega) (by omega)]
    refine ⟨fun _ => q_pass180 h hns hQ, fun hh => absurd (by omega) hh⟩
  | succ m ih =>
    intro c v hc hm hQ
    unfold wX9_pass_141
    rw [nj_sub (by omega), show p0 + c - p0 = c by omega, nj_le (by omega) (by omega)]
    refine ⟨fun hh => absurd hh (by omega), fun _ => ⟨fn_14 hF, fk_14 hF, q_digitAt hF hnS hn72 (by omega) (fun _ => ?_)⟩⟩
    rw [h15]
    unfold rdg at hQ
    by_cases hp : pg (gX S1 15) n (p0 + c) = true
    · rw [if_pos hp] at hQ
      rw [if_pos hp]
      refine ⟨fun hh => absurd hh (by decide), fun _ => ?_⟩
      have hlt := ((pg_iff _ _ _).mp hp).1
      simp only [fn_14 hF, fk_14 hF, fn_15 hF, fk_15 hF, fn_16 hF, fk_16 hF, fn_17 hF, fk_17 hF, fn_18 hF, fk_18 hF, fn_19 hF, fk_19 hF, fn_20 hF, fk_20 hF, fn_21 hF, fk_21 hF, fn_22 hF, fk_22 hF, fn_23 hF, fk_23 hF, fn_24 hF, fk_24 hF, fn_25 hF, fk_25 hF, fn_26 hF, fk_26 hF, fn_27 hF, fk_27 hF, fn_28 hF, fk_28 hF, fn_29 hF, fk_29 hF, fn_30 hF, fk_30 hF, fn_31 hF, fk_31 hF, fn_32 hF, fk_32 hF, fn_33 hF, fk_33 hF, fn_34 hF, fk_34 hF, fn_35 hF, fk_35 hF, fn_36 hF, fk_36 hF, fl_15 hF, fl_16 hF, fl_17 hF, fl_18 hF, fl_19 hF, fl_20 hF, fl_21 hF, fl_22 hF, fl_23 hF, fl_24 hF, fl_25 hF, fl_26 hF, fl_27 hF, fl_28 hF, fl_29 hF, fl_30 hF, fl_31 hF, fl_32 hF, fl_33 hF, fl_34 hF, fl_35 hF, fl_36 hF, fr_14_0 hF, fr_14_2 hF, fr_14_4 hF, fr_14_6 hF, fr_14_8 hF, fr_14_9 hF, fr_14_10 hF, fr_14_11 hF, fr_14_12 hF, fr_14_13 hF, fr_14_14 hF, fr_14_15 hF, fr_14_16 hF, fr_14_17 hF, fr_14_18 hF, fr_14_21 hF, fr_14_22 hF, fr_14_23 hF, fr_14_24 hF, fr_14_26 hF, fr_14_27 hF, fr_14_28 hF, n_sX, k_sX, l_sX, x_sX, z_sX, r_sX, f_sX, n_sZ, k_sZ, l_sZ, x_sZ, z_sZ, r_sZ, f_sZ, n_sR, k_sR, l_sR, x_sR, z_sR, r_sR, f_sR, n_sF, k_sF, l_sF, x_sF, z_sF, r_sF, f_sF, Nat.reduceEqDiff, true_and, and_true, false_and, and_false, and_self, if_true, if_false, reduceIte, exists_eq_left, exists_eq_left', Option.some.injEq, forall_eq, forall_const, imp_self, reduceCtorEq, not_true_eq_false, not_false_eq_true, false_imp_iff, true_imp_iff, implies_true, nj_clamp (show p0 + c < 2147483648 by omega), h15, nj_succ]
      refine ⟨nj_in (by omega) (by omega), ?_⟩
      have := ih (c + 1) (10 * v + gX S1 15 (p0 + c) - 48) (by omega) (by omega) hQ
      rw [show p0 + (c + 1) = p0 + c + 1 by omega, show c + 1 + m = c + (m + 1) by omega] at this
      exact this
    · rw [if_neg hp] at hQ
      rw [if_neg hp]
      exact ⟨fun _ => q_pass180 h hns hQ, fun hh => absurd rfl hh⟩
def okE (x : Int32) : Prop := x < 200 ∨ x = 400 ∨ x = 300 ∨ x = 203 ∨ x = 204 ∨ x = 205
theorem q_pass {S1 S : GS} {ns : List Int32} {n p : Nat} {x : Int32} {Q : Int32 → GS → Prop} (h : Rs S1 S ns) (hns : x < 200 ∨ ns.length < 16) (hn : gX S1 14 1 = nI n) (hn72 : n ≤ 72) (hp : p ≤ n) (hx : okE x) (hQ : ∀ S2, Rs S1 S2 (ns ++ (pe (gX S1 15) n x p).2) → Q (nI (pe (gX S1 15) n x p).1) S2) : wX9_pass S 14 x (nI p) Q := by
  have hF := h.fix
  have h15 : gX S 15 = gX S1 15 := h.2.1.row 15 (by intro j hj; unfold pR at hj; omega)
  have hnS : gX S 14 1 = nI n := by rw [h.2.1.X 14 1 (by unfold pR; omega)]; exact hn
  have hdig : ∀ d : Nat, 1 ≤ d → d ≤ 5 → ns.length < 16 → pe (gX S1 15) n x p = ((rdg (gX S1 15) n d p 0).1, [(rdg (gX S1 15) n d p 0).2]) → wX9_pass_136 Q 14 (nI p) (nI p) (nI d) S := by
    intro d hd1 hd5 hns e
    refine ⟨d + 1, ?_⟩
    rw [e] at hQ
    have := q_pass141 (p0 := p) h hns hn hn72 d 0 0 (by omega) hd5 hQ
    rw [Nat.add_zero, Nat.zero_add] at this
    exact this
  unfold wX9_pass
  by_cases hx2 : x < 200
  · refine ⟨fun hh => absurd hx2 (by rw [Int32.not_lt]; exact hh), fun _ => ⟨fn_14 hF, fk_14 hF, ?_⟩⟩
    have epe : pe (gX S1 15) n x p = (if p < n ∧ gX S1 15 p = x then p + 1 else p, []) := by unfold pe; rw [if_pos hx2]
    rw [epe, List.append_nil] at hQ
    have hQ := hQ S h
    unfold wX9_pass_33 wX9_pass_34
    simp only [fn_14 hF, fk_14 hF, fn_15 hF, fk_15 hF, fn_16 hF, fk_16 hF, fn_17 hF, fk_17 hF, fn_18 hF, fk_18 hF, fn_19 hF, fk_19 hF, fn_20 hF, fk_20 hF, fn_21 hF, fk_21 hF, fn_22 hF, fk_22 hF, fn_23 hF, fk_23 hF, fn_24 hF, fk_24 hF, fn_25 hF, fk_25 hF, fn_26 hF, fk_26 hF, fn_27 hF, fk_27 hF, fn_28 hF, fk_28 hF, fn_29 hF, fk_29 hF, fn_30 hF, fk_30 hF, fn_31 hF, fk_31 hF, fn_32 hF, fk_32 hF, fn_33 hF, fk_33 hF, fn_34 hF, fk_34 hF, fn_35 hF, fk_35 hF, fn_36 hF, fk_36 hF, fl_15 hF, fl_16 hF, fl_17 hF, fl_18 hF, fl_19 hF, fl_20 hF, fl_21 hF, fl_22 hF, fl_23 hF, fl_24 hF, fl_25 hF, fl_26 hF, fl_27 hF, fl_28 hF, fl_29 hF, fl_30 hF, fl_31 hF, fl_32 hF, fl_33 hF, fl_34 hF, fl_35 hF, fl_36 hF, fr_14_0 hF, fr_14_2 hF, fr_14_4 hF, fr_14_6 hF, fr_14_8 hF, fr_14_9 hF, fr_14_10 hF, fr_14_11 hF, fr_14_12 hF, fr_14_13 hF, fr_14_14 hF, fr_14_15 hF, fr_14_16 hF, fr_14_17 hF, fr_14_18 hF, fr_14_21 hF, fr_14_22 hF, fr_14_23 hF, fr_14_24 hF, fr_14_26 hF, fr_14_27 hF, fr_14_28 hF, n_sX, k_sX, l_sX, x_sX, z_sX, r_sX, f_sX, n_sZ, k_sZ, l_sZ, x_sZ, z_sZ, r_sZ, f_sZ, n_sR, k_sR, l_sR, x_sR, z_sR, r_sR, f_sR, n_sF, k_sF, l_sF, x_sF, z_sF, r_sF, f_sF, Nat.reduceEqDiff, true_and, and_true, false_and, and_false, and_self, if_true, if_false, reduceIte, exists_eq_left, exists_eq_left', Option.some.injEq, forall_eq, forall_const, imp_self, reduceCtorEq, not_true_eq_false, not_false_eq_true, false_imp_iff, true_imp_iff, implies_true, hnS, nj_le (show n < 2147483648 by omega) (show p < 2147483648 by omega), nj_clamp (show p < 2147483648 by omega), h15, nj_succ]
    refine ⟨fun hh => ?_, fun hh => ⟨nj_in (by omega) (by omega), fun h1 => ?_, fun h1 => ?_⟩⟩
    · rw [if_neg (by omega)] at hQ; exact hQ
    · rw [if_neg (fun a => h1 a.2)] at hQ; exact hQ
    · rw [if_pos ⟨by omega, h1⟩] at hQ; exact hQ
  · have hns : ns.length < 16 := by rcases hns with a | a; exact absurd a hx2; exact a
    refine ⟨fun _ => ⟨fun h4 => ⟨fun h3 => ⟨fn_14 hF, fk_14 hF, q_pad0 hF hnS hn72 (by omega) (fun _ => ?_)⟩, fun h3 => ?_⟩, fun h4 => ⟨fn_14 hF, fk_14 hF, ?_⟩⟩, fun hh => absurd (Int32.not_lt.mp hx2) hh⟩
    · have epe : pe (gX S1 15) n x p = ((rdg (gX S1 15) n (pm (gX S1 15) n x p) p 0).1, [(rdg (gX S1 15) n (pm (gX S1 15) n x p) p 0).2]) := by unfold pe; rw [if_neg hx2, if_neg h4]
      unfold pm at epe
      rw [if_neg h3] at epe
      rw [h15]
      by_cases h0 : p < n ∧ gX S1 15 p = 48
      · rw [if_pos h0] at epe
        rw [if_pos h0]
        exact ⟨fun hh => absurd hh (by decide), fun _ => hdig 1 (by omega) (by omega) hns epe⟩
      · rw [if_neg h0] at epe
        rw [if_neg h0]
        refine ⟨fun _ => ?_, fun hh => absurd rfl hh⟩
        have hd : ∃ d : Nat, 1 ≤ d ∧ d ≤ 5 ∧ x - 200 = nI d ∧ (x - 200).toNatClampNeg = d := by
          unfold okE at hx
          rcases hx with e | e | e | e | e | e
          · exact absurd e hx2
          · exact absurd e h4
          · exact absurd e h3
          · subst e; exact ⟨3, by decide⟩
          · subst e; exact ⟨4, by decide⟩
          · subst e; exact ⟨5, by decide⟩
        obtain ⟨d, d1, d2, d3, d4⟩ := hd
        rw [d4] at epe
        rw [d3]
        exact hdig d d1 d2 hns epe
    · have epe : pe (gX S1 15) n x p = ((rdg (gX S1 15) n 3 p 0).1, [(rdg (gX S1 15) n 3 p 0).2]) := by unfold pe pm; rw [if_neg hx2, if_neg h4, if_pos h3]
      exact hdig 3 (by omega) (by omega) hns epe
    · have epe : pe (gX S1 15) n x p = (if p < n ∧ (gX S1 15 p = 75 ∨ gX S1 15 p = 77) then p + 1 else p, [if p < n ∧ gX S1 15 p = 77 then 1 else 0]) := by unfold pe; rw [if_neg hx2, if_pos h4]
      rw [epe] at hQ
      have h75 : ∀ q : Nat, p ≤ q → q ≤ p + 1 → (q = if p < n ∧ (gX S1 15 p = 75 ∨ gX S1 15 p = 77) then p + 1 else p) → wX9_pass_75 Q 14 (nI p) (nI q) S := by
        intro q hq hq1 e
        unfold wX9_pass_75 wX9_pass_103
        simp only [fn_14 hF, fk_14 hF, fr_14_0 hF, fn_15 hF, fk_15 hF, fl_15 hF, n_sX, k_sX, l_sX, x_sX, z_sX, r_sX, f_sX, n_sZ, k_sZ, l_sZ, x_sZ, z_sZ, r_sZ, f_sZ, n_sR, k_sR, l_sR, x_sR, z_sR, r_sR, f_sR, n_sF, k_sF, l_sF, x_sF, z_sF, r_sF, f_sF, Nat.reduceEqDiff, true_and, and_true, false_and, and_false, and_self, if_true, if_false, reduceIte, exists_eq_left, exists_eq_left', Option.some.injEq, forall_eq, forall_const, imp_self, reduceCtorEq, not_true_eq_false, not_false_eq_true, false_imp_iff, true_imp_iff, implies_true, nj_le (show q < 2147483648 by omega) (show p < 2147483648 by omega), nj_clamp (show p < 2147483648 by omega), h15]
        have hlt : ¬ q ≤ p → p < 72 := by
          intro a
          have : p < n := by
            apply Classical.byContradiction
            intro b
            rw [if_neg (fun c => b c.1)] at e
            omega
          omega
        rw [← e] at hQ
        refine ⟨fun hh => q_pass104 h hns ?_, fun hh => ⟨nj_in (hlt hh) (by omega), fun h1 => q_pass104 h hns ?_, fun h1 => q_pass104 h hns ?_⟩⟩
        · have e2 : ¬ (p < n ∧ (gX S1 15 p = 75 ∨ gX S1 15 p = 77)) := by
            intro a
            rw [if_pos a] at e
            omega
          rw [if_neg (fun a => e2 ⟨a.1, Or.inr a.2⟩)] at hQ
          exact hQ
        · rw [if_neg (fun a => h1 a.2)] at hQ
          exact hQ
        · have e2 : p < n := by
            apply Classical.byContradiction
            intro a
            rw [if_neg (fun b => a b.1)] at e
            omega
          rw [if_pos ⟨e2, h1⟩] at hQ
          exact hQ
      unfold wX9_pass_72
      simp only [fr_14_0 hF, fn_15 hF, fk_15 hF, fl_15 hF, n_sX, k_sX, l_sX, x_sX, z_sX, r_sX, f_sX, n_sZ, k_sZ, l_sZ, x_sZ, z_sZ, r_sZ, f_sZ, n_sR, k_sR, l_sR, x_sR, z_sR, r_sR, f_sR, n_sF, k_sF, l_sF, x_sF, z_sF, r_sF, f_sF, Nat.reduceEqDiff, true_and, and_true, false_and, and_false, and_self, if_true, if_false, reduceIte, exists_eq_left, exists_eq_left', Option.some.injEq, forall_eq, forall_const, imp_self, reduceCtorEq, not_true_eq_false, not_false_eq_true, false_imp_iff, true_imp_iff, implies_true, hnS, nj_le (show n < 2147483648 by omega) (show p < 2147483648 by omega), nj_clamp (show p < 2147483648 by omega), h15, nj_succ]
      refine ⟨fun hh => h75 p (Nat.le_refl _) (by omega) ?_, fun hh => ⟨nj_in (by omega) (by omega), fun h1 => h75 (p + 1) (by omega) (by omega) ?_, fun h1 => ⟨nj_in (by omega) (by omega), fun h2 => h75 p (by omega) (by omega) ?_, fun h2 => h75 (p + 1) (by omega) (by omega) ?_⟩⟩⟩
      · rw [if_neg (by omega)]
      · rw [if_pos ⟨by omega, Or.inl h1⟩]
      · rw [if_neg]
        intro a
        rcases a.2 with b | b
        · exact h1 b
        · exact h2 b
      · rw [if_pos ⟨by omega, Or.inr h2⟩]
def cn : List Int32 → Nat
  | [] => 0
  | x :: L => (if x < 200 then 0 else 1) + cn L
theorem pe_len (T : Nat → Int32) (n : Nat) (x : Int32) (p : Nat) : (pe T n x p).2.length = if x < 200 then 0 else 1 := by
  unfold pe
  by_cases h : x < 200
  · rw [if_pos h, if_pos h]; rfl
  · rw [if_neg h, if_neg h]
    split <;> rfl
/-- what a run gives: S2 is S1 but for the numbers and 'fits' -/
def Re (S1 S2 : GS) (n : Nat) (r : Bool × Nat × List Int32) : Prop := Ag pR S1 S2 ∧ gX S2 14 35 = (if r.1 = true ∧ r.2.1 = n then 1 else 0) ∧ ((r.1 = true ∧ r.2.1 = n) → ∀ i, i < r.2.2.length → gX S2 18 i = r.2.2.getD i 0)
theorem q_reach14 {S1 : GS} {n : Nat} {L : List Int32} {Q : Int32 → GS → Prop} (hF1 : Fix S1) (hn : gX S1 14 1 = nI n) (hn72 : n ≤ 72) (hL : gX S1 14 3 = nI L.length) (hL80 : L.length ≤ 80) (hLi : ∀ i, i < L.length → gX S1 16 i = L.getD i 0) : ∀ (R D : List Int32) (p : Nat) (ns : List Int32) (S : GS), L = D ++ R → (∀ x ∈ R, okE x) → ns.length + cn R ≤ 16 → p ≤ n → Rs S1 S ns → (∀ S2, Re S1 S2 n (rch (gX S1 15) n R p ns) → Q (nI (rch (gX S1 15) n R p ns).2.1) S2) → wX9_reach_14 Q 14 (R.length + 1) (nI p) (nI D.length) S := by
  intro R
  induction R with
  | nil =>
    intro D p ns S eL _ _ hp h hQ
    have hF := h.fix
    have hnS : gX S 14 1 = nI n := by rw [h.2.1.X 14 1 (by unfold pR; omega)]; exact hn
    have hLS : gX S 14 3 = nI L.length := by rw [h.2.1.X 14 3 (by unfold pR; omega)]; exact hL
    have eD : D.length = L.length := by rw [eL]; simp
    unfold wX9_reach_14
    rw [hLS, hnS, eD]
    refine ⟨fn_14 hF, fk_14 hF, fun _ => ?_, fun hh => absurd ((nj_le (by omega) (by omega)).mpr (Nat.le_refl _)) hh⟩
    have hfit : ∀ v : Int32, v = (if p = n then 1 else 0) → wX9_reach_82 Q 14 (nI p) 14 v S := by
      intro v ev
      refine ⟨fn_14 hF, fk_14 hF, ?_, fun S4 e4 => hQ S4 ?_⟩
      · rw [ev]; split
        · exact Or.inr rfl
        · exact Or.inl rfl
      · subst e4
        refine ⟨h.2.1.x _ _ _ (Or.inr ⟨rfl, Or.inr rfl⟩), ?_, ?_⟩
        · simp only [x_sX, and_self, if_true, rch_nil, true_and]
          exact ev
        · intro _ i hi
          simp only [x_sX, n_sX, k_sX, l_sX, x_sX, z_sX, r_sX, f_sX, n_sZ, k_sZ, l_sZ, x_sZ, z_sZ, r_sZ, f_sZ, n_sR, k_sR, l_sR, x_sR, z_sR, r_sR, f_sR, n_sF, k_sF, l_sF, x_sF, z_sF, r_sF, f_sF, Nat.reduceEqDiff, true_and, and_true, false_and, and_false, and_self, if_true, if_false, reduceIte, exists_eq_left, exists_eq_left', Option.some.injEq, forall_eq, forall_const, imp_self, reduceCtorEq, not_true_eq_false, not_false_eq_true, false_imp_iff, true_imp_iff, implies_true]
          exact h.2.2.2.2 i hi
    refine ⟨fun hh => hfit 0 ?_, fun hh => hfit 1 ?_⟩
    · rw [if_neg]; intro a; exact hh (by rw [a])
    · rw [if_pos ((nj_eq (by omega) (by omega)).mp hh)]
  | cons x R ih =>
    intro D p ns S eL hok hcn hp h hQ
    have hF := h.fix
    have hLS : gX S 14 3 = nI L.length := by rw [h.2.1.X 14 3 (by unfold pR; omega)]; exact hL
    have h16 : gX S 16 = gX S1 16 := h.2.1.row 16 (by intro j hj; unfold pR at hj; omega)
    have eD : D.length < L.length := by rw [eL]; simp
    have ex : gX S1 16 D.length = x := by rw [hLi _ eD, eL]; simp
    have hpe := pe_le (gX S1 15) n x p hp
    have hpg := pe_ge (gX S1 15) n x p
    unfold wX9_reach_14
    simp only [fn_14 hF, fk_14 hF, fr_14_2 hF, fn_16 hF, fk_16 hF, fl_16 hF, n_sX, k_sX, l_sX, x_sX, z_sX, r_sX, f_sX, n_sZ, k_sZ, l_sZ, x_sZ, z_sZ, r_sZ, f_sZ, n_sR, k_sR, l_sR, x_sR, z_sR, r_sR, f_sR, n_sF, k_sF, l_sF, x_sF, z_sF, r_sF, f_sF, Nat.reduceEqDiff, true_and, and_true, false_and, and_false, and_self, if_true, if_false, reduceIte, exists_eq_left, exists_eq_left', Option.some.injEq, forall_eq, forall_const, imp_self, reduceCtorEq, not_true_eq_false, not_false_eq_true, false_imp_iff, true_imp_iff, implies_true, hLS, h16, nj_clamp (show D.length < 2147483648 by omega), ex, nj_le (show L.length < 2147483648 by omega) (show D.length < 2147483648 by omega)]
    refine ⟨fun hh => absurd hh (by omega), fun _ => ⟨nj_in (by omega) (by omega), ?_⟩⟩
    unfold cn at hcn
    refine q_pass h ?_ hn hn72 hp (hok x (by simp)) (fun S2 h2 _ => ?_)
    · by_cases hx : x < 200
      · exact Or.inl hx
      · rw [if_neg hx] at hcn
        exact Or.inr (by omega)
    have hF2 := h2.fix
    have h162 : gX S2 16 = gX S1 16 := h2.2.1.row 16 (by intro j hj; unfold pR at hj; omega)
    rw [rch_cons] at hQ
    have hstop : pf (gX S1 15) n x p = true → Q (nI (pe (gX S1 15) n x p).1) S2 := by
      intro hpf
      rw [if_pos hpf] at hQ
      refine hQ S2 ⟨h2.2.1, ?_, fun a => absurd a.1 (by simp)⟩
      rw [if_neg (fun a => absurd a.1 (by simp))]
      exact h2.2.2.2.1
    have hgo : pf (gX S1 15) n x p = false → wX9_reach_60 Q (wX9_reach_14 Q 14 (R.length + 1)) 14 (nI D.length) (nI (pe (gX S1 15) n x p).1) S2 := by
      intro hpf
      rw [if_neg (by rw [hpf]; simp)] at hQ
      unfold wX9_reach_60
      rw [nj_succ]
      have := ih (D ++ [x]) (pe (gX S1 15) n x p).1 (ns ++ (pe (gX S1 15) n x p).2) S2 (by rw [eL]; simp) (fun y hy => hok y (List.mem_cons_of_mem _ hy)) (by rw [List.length_append, pe_len]; omega) hpe h2 hQ
      rw [List.length_append] at this
      exact this
    have hpfi : pf (gX S1 15) n x p = true ↔ ((pe (gX S1 15) n x p).1 = p ∨ (x = 300 ∧ (pe (gX S1 15) n x p).1 < p + 3)) := by simp [pf]
    refine ⟨fun hh => ?_, fun hh => ?_⟩
    · exact hstop (hpfi.mpr (Or.inl ((nj_eq (by omega) (by omega)).mp hh)))
    · have hne : (pe (gX S1 15) n x p).1 ≠ p := fun a => hh (by rw [a])
      simp only [fn_14 hF2, fk_14 hF2, fr_14_2 hF2, fn_16 hF2, fk_16 hF2, fl_16 hF2, n_sX, k_sX, l_sX, x_sX, z_sX, r_sX, f_sX, n_sZ, k_sZ, l_sZ, x_sZ, z_sZ, r_sZ, f_sZ, n_sR, k_sR, l_sR, x_sR, z_sR, r_sR, f_sR, n_sF, k_sF, l_sF, x_sF, z_sF, r_sF, f_sF, Nat.reduceEqDiff, true_and, and_true, false_and, and_false, and_self, if_true, if_false, reduceIte, exists_eq_left, exists_eq_left', Option.some.injEq, forall_eq, forall_const, imp_self, reduceCtorEq, not_true_eq_false, not_false_eq_true, false_imp_iff, true_imp_iff, implies_true, h162, ex]
      refine ⟨nj_in (by omega) (by omega), fun h3 => ?_, fun h3 => ?_⟩
      · refine hgo ?_
        rw [Bool.eq_false_iff]
        intro a
        rcases hpfi.mp a with b | b
        · exact hne b
        · exact h3 b.1
      · have e3 : nI p + 3 = nI (p + 3) := nj_add p 3
        rw [e3, nj_le (by omega) (by omega)]
        refine ⟨fun h4 => hgo ?_, fun h4 => hstop (hpfi.mpr (Or.inr ⟨h3, by omega⟩))⟩
        rw [Bool.eq_false_iff]
        intro a
        rcases hpfi.mp a with b | b
        · exact hne b
        · omega
theorem q_reach {S1 : GS} {n : Nat} {L : List Int32} {Q : Int32 → GS → Prop} (hF1 : Fix S1) (hn : gX S1 14 1 = nI n) (hn72 : n ≤ 72) (hL : gX S1 14 3 = nI L.length) (hL80 : L.length ≤ 80) (hLi : ∀ i, i < L.length → gX S1 16 i = L.getD i 0) (hok : ∀ x ∈ L, okE x) (hcn : cn L ≤ 16) (hQ : ∀ S2, Re S1 S2 n (rch (gX S1 15) n L 0 []) → Q (nI (rch (gX S1 15) n L 0 []).2.1) S2) : wX9_reach S1 14 Q := by
  refine ⟨fn_14 hF1, fk_14 hF1, fun S2 e2 S3 e3 => ⟨L.length + 1, ?_⟩⟩
  have h3 : Rs S1 S3 [] := by
    subst e3 e2
    refine ⟨hF1, ((Ag.rf _ _).x _ _ _ (Or.inr ⟨rfl, Or.inl rfl⟩)).x _ _ _ (Or.inr ⟨rfl, Or.inr rfl⟩), ?_, ?_, fun i hi => absurd hi (by simp)⟩
    · simp only [x_sX, n_sX, k_sX, l_sX, x_sX, z_sX, r_sX, f_sX, n_sZ, k_sZ, l_sZ, x_sZ, z_sZ, r_sZ, f_sZ, n_sR, k_sR, l_sR, x_sR, z_sR, r_sR, f_sR, n_sF, k_sF, l_sF, x_sF, z_sF, r_sF, f_sF, Nat.reduceEqDiff, true_and, and_true, false_and, and_false, and_self, if_true, if_false, reduceIte, exists_eq_left, exists_eq_left', Option.some.injEq, forall_eq, forall_const, imp_self, reduceCtorEq, not_true_eq_false, not_false_eq_true, false_imp_iff, true_imp_iff, implies_true]; rfl
    · simp only [x_sX, n_sX, k_sX, l_sX, x_sX, z_sX, r_sX, f_sX, n_sZ, k_sZ, l_sZ, x_sZ, z_sZ, r_sZ, f_sZ, n_sR, k_sR, l_sR, x_sR, z_sR, r_sR, f_sR, n_sF, k_sF, l_sF, x_sF, z_sF, r_sF, f_sF, Nat.reduceEqDiff, true_and, and_true, false_and, and_false, and_self, if_true, if_false, reduceIte, exists_eq_left, exists_eq_left', Option.some.injEq, forall_eq, forall_const, imp_self, reduceCtorEq, not_true_eq_false, not_false_eq_true, false_imp_iff, true_imp_iff, implies_true]
  exact q_reach14 hF1 hn hn72 hL hL80 hLi L [] 0 [] S3 rfl hok (by simpa using hcn) (Nat.zero_le _) h3 hQ
