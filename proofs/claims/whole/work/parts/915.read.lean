/-! THE REFERENCE READS THE PAD. -/
theorem rch_len (T : Nat → Int32) (n : Nat) (L : List Int32) : ∀ (p : Nat) (ns : List Int32), (rch T n L p ns).1 = true → (rch T n L p ns).2.2.length = ns.length + cn L := by
  induction L with
  | nil => intro p ns _; simp [rch_nil, cn]
  | cons x L ih =>
    intro p ns h
    rw [rch_cons] at h ⊢
    by_cases hp : pf T n x p = true
    · rw [if_pos hp] at h; simp at h
    · rw [if_neg hp] at h ⊢
      rw [ih _ _ h, List.length_append, pe_len, cn]
      omega
def mSizes (s : Nat) : Nat := if s = 1 then 3 else if s = 2 ∨ s = 3 then 2 else 0
def fTm (ns : List Int32) : Int32 := 1000 * ns.getD 0 0 + ns.getD 1 0
def fId (ns : List Int32) : Int32 := ns.getD 2 0
def fSz (ns : List Int32) (j : Nat) : Int32 := if ns.getD (3 + 2 * j + 1) 0 = 1 then 1024 * ns.getD (3 + 2 * j) 0 else ns.getD (3 + 2 * j) 0
def fTk (s : Nat) (ns : List Int32) : Int32 := if s = 1 then 1000 * ns.getD 9 0 + ns.getD 10 0 else if s = 5 then 1000 * ns.getD 3 0 + ns.getD 4 0 else 0
def pN (l k j : Nat) : Prop := ((k = 23 ∨ k = 24 ∨ k = 25 ∨ k = 26 ∨ k = 27 ∨ k = 29) ∧ j = l) ∨ (k = 28 ∧ 3 * l ≤ j ∧ j < 3 * l + 3)
/-- line l noted: S2 is S but for line l -/
def No (S S2 : GS) (l s k c : Nat) (ns : List Int32) : Prop := Ag (pN l) S S2 ∧ gX S2 23 l = nI s ∧ gX S2 24 l = nI k ∧ gX S2 25 l = nI c ∧ gX S2 26 l = fTm ns ∧ gX S2 27 l = fId ns ∧ (∀ j, j < mSizes s → gX S2 28 (3 * l + j) = fSz ns j) ∧ gX S2 29 l = fTk s ns
def Nq (S S2 : GS) (l s k c j : Nat) (ns : List Int32) : Prop := Ag (pN l) S S2 ∧ gX S2 23 l = nI s ∧ gX S2 24 l = nI k ∧ gX S2 25 l = nI c ∧ gX S2 26 l = fTm ns ∧ gX S2 27 l = fId ns ∧ (∀ i, i < j → gX S2 28 (3 * l + i) = fSz ns i)
theorem q_sizesOf {S : GS} {s : Nat} {Q : Int32 → GS → Prop} (hs : s ≤ 6) (hQ : Q (nI (mSizes s)) S) : wX9_sizesOf S (nI s) Q := by
  have : s = 0 ∨ s = 1 ∨ s = 2 ∨ s = 3 ∨ s = 4 ∨ s = 5 ∨ s = 6 := by omega
  unfold wX9_sizesOf wX9_sizesOf_19 wX9_sizesOf_24
  rcases this with e | e | e | e | e | e | e <;> subst e
  · exact ⟨fun _ => ⟨fun h => absurd h (by decide), fun _ => ⟨fun _ => hQ, fun h => absurd h (by decide)⟩⟩, fun h => absurd h (by decide)⟩
  · exact ⟨fun h => absurd (by decide) h, fun _ => hQ⟩
  · exact ⟨fun _ => ⟨fun _ => hQ, fun h => absurd (by decide) h⟩, fun h => absurd h (by decide)⟩
  · exact ⟨fun _ => ⟨fun h => absurd h (by decide), fun _ => ⟨fun h => absurd (by decide) h, fun _ => hQ⟩⟩, fun h => absurd h (by decide)⟩
  · exact ⟨fun _ => ⟨fun h => absurd h (by decide), fun _ => ⟨fun _ => hQ, fun h => absurd h (by decide)⟩⟩, fun h => absurd h (by decide)⟩
  · exact ⟨fun _ => ⟨fun h => absurd h (by decide), fun _ => ⟨fun _ => hQ, fun h => absurd h (by decide)⟩⟩, fun h => absurd h (by decide)⟩
  · exact ⟨fun _ => ⟨fun h => absurd h (by decide), fun _ => ⟨fun _ => hQ, fun h => absurd h (by decide)⟩⟩, fun h => absurd h (by decide)⟩
theorem q_note83 {S : GS} {l s k c : Nat} {ns : List Int32} {Q : GS → Prop} (hF0 : Fix S) (hl : l < 512) (hls : gX S 14 19 = nI l) (hs : s ≤ 6) (hnl : ns.length = cn (mld s k c)) (hc11 : 3 + 2 * mSizes s + (if s = 1 ∨ s = 5 then 2 else 0) ≤ ns.length) (hc16 : ns.length ≤ 16) (hns : ∀ i, i < ns.length → gX S 18 i = ns.getD i 0) (hQ : ∀ S2, No S S2 l s k c ns → Q S2) : ∀ (r j : Nat) (S2 : GS), j + r = mSizes s → Nq S S2 l s k c j ns → wX9_note_83 Q 14 (r + 1) (nI s) (nI (3 + 2 * j)) (nI (mSizes s)) (nI j) S2 := by
  have hm3 : mSizes s ≤ 3 := by unfold mSizes; split <;> (try split) <;> omega
  intro r
  induction r with
  | zero =>
    intro j S2 hj h
    have ej : j = mSizes s := by omega
    subst ej
    have hF : Fix S2 := hF0.ag h.1
    have hls2 : gX S2 14 19 = nI l := by rw [h.1.X 14 19 (by unfold pN; omega)]; exact hls
    have h18 : ∀ i, i < ns.length → gX S2 18 i = ns.getD i 0 := fun i hi => by rw [h.1.X 18 i (by unfold pN; omega)]; exact hns i hi
    have e1 := sI_eq hs 1 (by decide)
    have e5 := sI_eq hs 5 (by decide)
    have h190 : ∀ v, v = fTk s ns → wX9_note_190 Q 14 (gR S2 14 18) (gX S2 14 19) v S2 := by
      intro v ev
      unfold wX9_note_190
      simp only [fn_14 hF, fk_14 hF, fn_15 hF, fk_15 hF, fn_16 hF, fk_16 hF, fn_17 hF, fk_17 hF, fn_18 hF, fk_18 hF, fn_19 hF, fk_19 hF, fn_20 hF, fk_20 hF, fn_21 hF, fk_21 hF, fn_22 hF, fk_22 hF, fn_23 hF, fk_23 hF, fn_24 hF, fk_24 hF, fn_25 hF, fk_25 hF, fn_26 hF, fk_26 hF, fn_27 hF, fk_27 hF, fn_28 hF, fk_28 hF, fn_29 hF, fk_29 hF, fn_30 hF, fk_30 hF, fn_31 hF, fk_31 hF, fn_32 hF, fk_32 hF, fn_33 hF, fk_33 hF, fn_34 hF, fk_34 hF, fn_35 hF, fk_35 hF, fn_36 hF, fk_36 hF, fl_15 hF, fl_16 hF, fl_17 hF, fl_18 hF, fl_19 hF, fl_20 hF, fl_21 hF, fl_22 hF, fl_23 hF, fl_24 hF, fl_25 hF, fl_26 hF, fl_27 hF, fl_28 hF, fl_29 hF, fl_30 hF, fl_31 hF, fl_32 hF, fl_33 hF, fl_34 hF, fl_35 hF, fl_36 hF, fr_14_0 hF, fr_14_2 hF, fr_14_4 hF, fr_14_6 hF, fr_14_8 hF, fr_14_9 hF, fr_14_10 hF, fr_14_11 hF, fr_14_12 hF, fr_14_13 hF, fr_14_14 hF, fr_14_15 hF, fr_14_16 hF, fr_14_17 hF, fr_14_18 hF, fr_14_21 hF, fr_14_22 hF, fr_14_23 hF, fr_14_24 hF, fr_14_26 hF, fr_14_27 hF, fr_14_28 hF, n_sX, k_sX, l_sX, x_sX, z_sX, r_sX, f_sX, n_sZ, k_sZ, l_sZ, x_sZ, z_sZ, r_sZ, f_sZ, n_sR, k_sR, l_sR, x_sR, z_sR, r_sR, f_sR, n_sF, k_sF, l_sF, x_sF, z_sF, r_sF, f_sF, Nat.reduceEqDiff, true_and, and_true, false_and, and_false, and_self, if_true, if_false, reduceIte, exists_eq_left, exists_eq_left', Option.some.injEq, forall_eq, forall_const, imp_self, reduceCtorEq, not_true_eq_false, not_false_eq_true, false_imp_iff, true_imp_iff, implies_true, hls2, nj_clamp (show l < 2147483648 by omega)]
      refine ⟨nj_in hl (by omega), hQ _ ?_⟩
      obtain ⟨g1, g2, g3, g4, g5, g6, g7⟩ := h
      refine ⟨g1.x _ _ _ (Or.inl ⟨by omega, rfl⟩), ?_, ?_, ?_, ?_, ?_, ?_, ?_⟩
      · simp only [x_sX, n_sX, k_sX, l_sX, x_sX, z_sX, r_sX, f_sX, n_sZ, k_sZ, l_sZ, x_sZ, z_sZ, r_sZ, f_sZ, n_sR, k_sR, l_sR, x_sR, z_sR, r_sR, f_sR, n_sF, k_sF, l_sF, x_sF, z_sF, r_sF, f_sF, Nat.reduceEqDiff, true_and, and_true, false_and, and_false, and_self, if_true, if_false, reduceIte, exists_eq_left, exists_eq_left', Option.some.injEq, forall_eq, forall_const, imp_self, reduceCtorEq, not_true_eq_false, not_false_eq_true, false_imp_iff, true_imp_iff, implies_true]; exact g2
      · simp only [x_sX, n_sX, k_sX, l_sX, x_sX, z_sX, r_sX, f_sX, n_sZ, k_sZ, l_sZ, x_sZ, z_sZ, r_sZ, f_sZ, n_sR, k_sR, l_sR, x_sR, z_sR, r_sR, f_sR, n_sF, k_sF, l_sF, x_sF, z_sF, r_sF, f_sF, Nat.reduceEqDiff, true_and, and_true, false_and, and_false, and_self, if_true, if_false, reduceIte, exists_eq_left, exists_eq_left', Option.some.injEq, forall_eq, forall_const, imp_self, reduceCtorEq, not_true_eq_false, not_false_eq_true, false_imp_iff, true_imp_iff, implies_true]; exact g3
      · simp only [x_sX, n_sX, k_sX, l_sX, x_sX, z_sX, r_sX, f_sX, n_sZ, k_sZ, l_sZ, x_sZ, z_sZ, r_sZ, f_sZ, n_sR, k_sR, l_sR, x_sR, z_sR, r_sR, f_sR, n_sF, k_sF, l_sF, x_sF, z_sF, r_sF, f_sF, Nat.reduceEqDiff, true_and, and_true, false_and, and_false, and_self, if_true, if_false, reduceIte, exists_eq_left, exists_eq_left', Option.some.injEq, forall_eq, forall_const, imp_self, reduceCtorEq, not_true_eq_false, not_false_eq_true, false_imp_iff, true_imp_iff, implies_true]; exact g4
      · simp only [x_sX, n_sX, k_sX, l_sX, x_sX, z_sX, r_sX, f_sX, n_sZ, k_sZ, l_sZ, x_sZ, z_sZ, r_sZ, f_sZ, n_sR, k_sR, l_sR, x_sR, z_sR, r_sR, f_sR, n_sF, k_sF, l_sF, x_sF, z_sF, r_sF, f_sF, Nat.reduceEqDiff, true_and, and_true, false_and, and_false, and_self, if_true, if_false, reduceIte, exists_eq_left, exists_eq_left', Option.some.injEq, forall_eq, forall_const, imp_self, reduceCtorEq, not_true_eq_false, not_false_eq_true, false_imp_iff, true_imp_iff, implies_true]; exact g5
      · simp only [x_sX, n_sX, k_sX, l_sX, x_sX, z_sX, r_sX, f_sX, n_sZ, k_sZ, l_sZ, x_sZ, z_sZ, r_sZ, f_sZ, n_sR, k_sR, l_sR, x_sR, z_sR, r_sR, f_sR, n_sF, k_sF, l_sF, x_sF, z_sF, r_sF, f_sF, Nat.reduceEqDiff, true_and, and_true, false_and, and_false, and_self, if_true, if_false, reduceIte, exists_eq_left, exists_eq_left', Option.some.injEq, forall_eq, forall_const, imp_self, reduceCtorEq, not_true_eq_false, not_false_eq_true, false_imp_iff, true_imp_iff, implies_true]; exact g6
      · intro j hj
        simp only [x_sX, n_sX, k_sX, l_sX, x_sX, z_sX, r_sX, f_sX, n_sZ, k_sZ, l_sZ, x_sZ, z_sZ, r_sZ, f_sZ, n_sR, k_sR, l_sR, x_sR, z_sR, r_sR, f_sR, n_sF, k_sF, l_sF, x_sF, z_sF, r_sF, f_sF, Nat.reduceEqDiff, true_and, and_true, false_and, and_false, and_self, if_true, if_false, reduceIte, exists_eq_left, exists_eq_left', Option.some.injEq, forall_eq, forall_const, imp_self, reduceCtorEq, not_true_eq_false, not_false_eq_true, false_imp_iff, true_imp_iff, implies_true]
        exact g7 j hj
      · simp only [x_sX, n_sX, k_sX, l_sX, x_sX, z_sX, r_sX, f_sX, n_sZ, k_sZ, l_sZ, x_sZ, z_sZ, r_sZ, f_sZ, n_sR, k_sR, l_sR, x_sR, z_sR, r_sR, f_sR, n_sF, k_sF, l_sF, x_sF, z_sF, r_sF, f_sF, Nat.reduceEqDiff, true_and, and_true, false_and, and_false, and_self, if_true, if_false, reduceIte, exists_eq_left, exists_eq_left', Option.some.injEq, forall_eq, forall_const, imp_self, reduceCtorEq, not_true_eq_false, not_false_eq_true, false_imp_iff, true_imp_iff, implies_true]; exact ev
    have h165 : (s = 1 ∨ s = 5) → wX9_note_165 Q 14 (nI (3 + 2 * mSizes s)) (gR S2 14 18) (gX S2 14 19) S2 := by
      intro hh
      rw [if_pos hh] at hc11
      unfold wX9_note_165
      simp only [fn_14 hF, fk_14 hF, fr_14_6 hF, fn_18 hF, fk_18 hF, fl_18 hF, n_sX, k_sX, l_sX, x_sX, z_sX, r_sX, f_sX, n_sZ, k_sZ, l_sZ, x_sZ, z_sZ, r_sZ, f_sZ, n_sR, k_sR, l_sR, x_sR, z_sR, r_sR, f_sR, n_sF, k_sF, l_sF, x_sF, z_sF, r_sF, f_sF, Nat.reduceEqDiff, true_and, and_true, false_and, and_false, and_self, if_true, if_false, reduceIte, exists_eq_left, exists_eq_left', Option.some.injEq, forall_eq, forall_const, imp_self, reduceCtorEq, not_true_eq_false, not_false_eq_true, false_imp_iff, true_imp_iff, implies_true, nj_succ, nj_clamp (show 3 + 2 * mSizes s < 2147483648 by omega), nj_clamp (show 3 + 2 * mSizes s + 1 < 2147483648 by omega), h18 (3 + 2 * mSizes s) (by omega), h18 (3 + 2 * mSizes s + 1) (by omega)]
      refine ⟨nj_in (by omega) (by omega), nj_in (by omega) (by omega), h190 _ ?_⟩
      rcases hh with e | e <;> subst e <;> rfl
    unfold wX9_note_83
    refine ⟨fun _ => ⟨fn_14 hF, fk_14 hF, fun hh => h165 (Or.inl (e1.mp hh)), fun hh => ⟨fun hh5 => h190 0 ?_, fun hh5 => h165 (Or.inr (e5.mp hh5))⟩⟩, fun hh => absurd ((nj_le (by omega) (by omega)).mpr (Nat.le_refl _)) hh⟩
    unfold fTk
    rw [if_neg (fun a => hh (e1.mpr a)), if_neg (fun a => hh5 (e5.mpr a))]
  | succ r ih =>
    intro j S2 hj h
    have hF : Fix S2 := hF0.ag h.1
    have hls2 : gX S2 14 19 = nI l := by rw [h.1.X 14 19 (by unfold pN; omega)]; exact hls
    have h18 : ∀ i, i < ns.length → gX S2 18 i = ns.getD i 0 := fun i hi => by rw [h.1.X 18 i (by unfold pN; omega)]; exact hns i hi
    have e3 : 3 * nI l + nI j = nI (3 * l + j) := by
      have : (3 : Int32) * nI l = nI (3 * l) := by
        show Int32.ofNat 3 * Int32.ofNat l = Int32.ofNat (3 * l)
        rw [Int32.ofNat_mul]
      rw [this, nj_add]
    have hgo : ∀ v, v = fSz ns j → wX9_note_137 Q (wX9_note_83 Q 14 (r + 1)) 14 (nI s) (nI (3 + 2 * j)) (nI (mSizes s)) (nI j) (gR S2 14 17) (3 * gX S2 14 19 + nI j) v S2 := by
      intro v ev
      unfold wX9_note_137
      simp only [fn_14 hF, fk_14 hF, fn_15 hF, fk_15 hF, fn_16 hF, fk_16 hF, fn_17 hF, fk_17 hF, fn_18 hF, fk_18 hF, fn_19 hF, fk_19 hF, fn_20 hF, fk_20 hF, fn_21 hF, fk_21 hF, fn_22 hF, fk_22 hF, fn_23 hF, fk_23 hF, fn_24 hF, fk_24 hF, fn_25 hF, fk_25 hF, fn_26 hF, fk_26 hF, fn_27 hF, fk_27 hF, fn_28 hF, fk_28 hF, fn_29 hF, fk_29 hF, fn_30 hF, fk_30 hF, fn_31 hF, fk_31 hF, fn_32 hF, fk_32 hF, fn_33 hF, fk_33 hF, fn_34 hF, fk_34 hF, fn_35 hF, fk_35 hF, fn_36 hF, fk_36 hF, fl_15 hF, fl_16 hF, fl_17 hF, fl_18 hF, fl_19 hF, fl_20 hF, fl_21 hF, fl_22 hF, fl_23 hF, fl_24 hF, fl_25 hF, fl_26 hF, fl_27 hF, fl_28 hF, fl_29 hF, fl_30 hF, fl_31 hF, fl_32 hF, fl_33 hF, fl_34 hF, fl_35 hF, fl_36 hF, fr_14_0 hF, fr_14_2 hF, fr_14_4 hF, fr_14_6 hF, fr_14_8 hF, fr_14_9 hF, fr_14_10 hF, fr_14_11 hF, fr_14_12 hF, fr_14_13 hF, fr_14_14 hF, fr_14_15 hF, fr_14_16 hF, fr_14_17 hF, fr_14_18 hF, fr_14_21 hF, fr_14_22 hF, fr_14_23 hF, fr_14_24 hF, fr_14_26 hF, fr_14_27 hF, fr_14_28 hF, n_sX, k_sX, l_sX, x_sX, z_sX, r_sX, f_sX, n_sZ, k_sZ, l_sZ, x_sZ, z_sZ, r_sZ, f_sZ, n_sR, k_sR, l_sR, x_sR, z_sR, r_sR, f_sR, n_sF, k_sF, l_sF, x_sF, z_sF, r_sF, f_sF, Nat.reduceEqDiff, true_and, and_true, false_and, and_false, and_self, if_true, if_false, reduceIte, exists_eq_left, exists_eq_left', Option.some.injEq, forall_eq, forall_const, imp_self, reduceCtorEq, not_true_eq_false, not_false_eq_true, false_imp_iff, true_imp_iff, implies_true, hls2, e3, nj_clamp (show 3 * l + j < 2147483648 by omega)]
      refine ⟨nj_in (by omega) (by omega), ?_⟩
      have e2 : nI (3 + 2 * j) + 2 = nI (3 + 2 * (j + 1)) := nj_add (3 + 2 * j) 2
      rw [e2, nj_succ]
      refine ih (j + 1) _ (by omega) ?_
      obtain ⟨g1, g2, g3, g4, g5, g6, g7⟩ := h
      refine ⟨g1.x _ _ _ (Or.inr ⟨rfl, by omega, by omega⟩), ?_, ?_, ?_, ?_, ?_, ?_⟩
      · simp only [x_sX, n_sX, k_sX, l_sX, x_sX, z_sX, r_sX, f_sX, n_sZ, k_sZ, l_sZ, x_sZ, z_sZ, r_sZ, f_sZ, n_sR, k_sR, l_sR, x_sR, z_sR, r_sR, f_sR, n_sF, k_sF, l_sF, x_sF, z_sF, r_sF, f_sF, Nat.reduceEqDiff, true_and, and_true, false_and, and_false, and_self, if_true, if_false, reduceIte, exists_eq_left, exists_eq_left', Option.some.injEq, forall_eq, forall_const, imp_self, reduceCtorEq, not_true_eq_false, not_false_eq_true, false_imp_iff, true_imp_iff, implies_true]; exact g2
      · simp only [x_sX, n_sX, k_sX, l_sX, x_sX, z_sX, r_sX, f_sX, n_sZ, k_sZ, l_sZ, x_sZ, z_sZ, r_sZ, f_sZ, n_sR, k_sR, l_sR, x_sR, z_sR, r_sR, f_sR, n_sF, k_sF, l_sF, x_sF, z_sF, r_sF, f_sF, Nat.reduceEqDiff, true_and, and_true, false_and, and_false, and_self, if_true, if_false, reduceIte, exists_eq_left, exists_eq_left', Option.some.injEq, forall_eq, forall_const, imp_self, reduceCtorEq, not_true_eq_false, not_false_eq_true, false_imp_iff, true_imp_iff, implies_true]; exact g3
      · simp only [x_sX, n_sX, k_sX, l_sX, x_sX, z_sX, r_sX, f_sX, n_sZ, k_sZ, l_sZ, x_sZ, z_sZ, r_sZ, f_sZ, n_sR, k_sR, l_sR, x_sR, z_sR, r_sR, f_sR, n_sF, k_sF, l_sF, x_sF, z_sF, r_sF, f_sF, Nat.reduceEqDiff, true_and, and_true, false_and, and_false, and_self, if_true, if_false, reduceIte, exists_eq_left, exists_eq_left', Option.some.injEq, forall_eq, forall_const, imp_self, reduceCtorEq, not_true_eq_false, not_false_eq_true, false_imp_iff, true_imp_iff, implies_true]; exact g4
      · simp only [x_sX, n_sX, k_sX, l_sX, x_sX, z_sX, r_sX, f_sX, n_sZ, k_sZ, l_sZ, x_sZ, z_sZ, r_sZ, f_sZ, n_sR, k_sR, l_sR, x_sR, z_sR, r_sR, f_sR, n_sF, k_sF, l_sF, x_sF, z_sF, r_sF, f_sF, Nat.reduceEqDiff, true_and, and_true, false_and, and_false, and_self, if_true, if_false, reduceIte, exists_eq_left, exists_eq_left', Option.some.injEq, forall_eq, forall_const, imp_self, reduceCtorEq, not_true_eq_false, not_false_eq_true, false_imp_iff, true_imp_iff, implies_true]; exact g5
      · simp only [x_sX, n_sX, k_sX, l_sX, x_sX, z_sX, r_sX, f_sX, n_sZ, k_sZ, l_sZ, x_sZ, z_sZ, r_sZ, f_sZ, n_sR, k_sR, l_sR, x_sR, z_sR, r_sR, f_sR, n_sF, k_sF, l_sF, x_sF, z_sF, r_sF, f_sF, Nat.reduceEqDiff, true_and, and_true, false_and, and_false, and_self, if_true, if_false, reduceIte, exists_eq_left, exists_eq_left', Option.some.injEq, forall_eq, forall_const, imp_self, reduceCtorEq, not_true_eq_false, not_false_eq_true, false_imp_iff, true_imp_iff, implies_true]; exact g6
      · intro i hi
        simp only [x_sX, n_sX, k_sX, l_sX, x_sX, z_sX, r_sX, f_sX, n_sZ, k_sZ, l_sZ, x_sZ, z_sZ, r_sZ, f_sZ, n_sR, k_sR, l_sR, x_sR, z_sR, r_sR, f_sR, n_sF, k_sF, l_sF, x_sF, z_sF, r_sF, f_sF, Nat.reduceEqDiff, true_and, and_true, false_and, and_false, and_self, if_true, if_false, reduceIte, exists_eq_left, exists_eq_left', Option.some.injEq, forall_eq, forall_const, imp_self, reduceCtorEq, not_true_eq_false, not_false_eq_true, false_imp_iff, true_imp_iff, implies_true]
        by_cases e : i = j
        · subst e
          rw [if_pos rfl]; exact ev
        · rw [if_neg (by omega)]
          exact g7 i (by omega)
    unfold wX9_note_83
    refine ⟨fun hh => absurd ((nj_le (by omega) (by omega)).mp hh) (by omega), fun _ => ⟨fn_14 hF, fk_14 hF, 18, fr_14_6 hF, fn_18 hF, fk_18 hF, ?_⟩⟩
    rw [fl_18 hF, nj_succ, nj_clamp (show 3 + 2 * j < 2147483648 by omega), nj_clamp (show 3 + 2 * j + 1 < 2147483648 by omega), h18 (3 + 2 * j) (by omega), h18 (3 + 2 * j + 1) (by omega)]
    refine ⟨nj_in (by omega) (by omega), fun hh => ⟨nj_in (by omega) (by omega), hgo _ ?_⟩, fun hh => ⟨nj_in (by omega) (by omega), hgo _ ?_⟩⟩
    · unfold fSz; rw [if_neg hh]
    · unfold fSz; rw [if_pos hh]
theorem q_note83s {S S2 : GS} {l s k c : Nat} {ns : List Int32} {Q : GS → Prop} {x4 x6 : Int32} (hF0 : Fix S) (hl : l < 512) (hls : gX S 14 19 = nI l) (hs : s ≤ 6) (hnl : ns.length = cn (mld s k c)) (hc11 : 3 + 2 * mSizes s + (if s = 1 ∨ s = 5 then 2 else 0) ≤ ns.length) (hc16 : ns.length ≤ 16) (hns : ∀ i, i < ns.length → gX S 18 i = ns.getD i 0) (hQ : ∀ S2, No S S2 l s k c ns → Q S2) (e4 : x4 = nI 3) (e6 : x6 = nI 0) (h : Nq S S2 l s k c 0 ns) : wX9_note_83 Q 14 (mSizes s + 1) (nI s) x4 (nI (mSizes s)) x6 S2 := by
  rw [e4, e6]
  exact q_note83 hF0 hl hls hs hnl hc11 hc16 hns hQ (mSizes s) 0 S2 (by omega) h
theorem q_note {S : GS} {l s k c : Nat} {ns : List Int32} {Q : GS → Prop} (hF : Fix S) (hl : l < 512) (hls : gX S 14 19 = nI l) (hs : s ≤ 6) (hnl : ns.length = cn (mld s k c)) (hc11 : 3 + 2 * mSizes s + (if s = 1 ∨ s = 5 then 2 else 0) ≤ ns.length) (hc16 : ns.length ≤ 16) (hns : ∀ i, i < ns.length → gX S 18 i = ns.getD i 0) (hQ : ∀ S2, No S S2 l s k c ns → Q S2) : wX9_note S 14 (nI s) (nI k) (nI c) Q := by
  have hv := nj_in (n := 512) hl (by omega)
  have hlen : 3 ≤ ns.length := by omega
  have v0 : vp_in 0 16 := by unfold vp_in; decide
  have v1 : vp_in 1 16 := by unfold vp_in; decide
  have v2 : vp_in 2 16 := by unfold vp_in; decide
  have a0 : Int32.toNatClampNeg 0 = 0 := by decide
  have a1 : Int32.toNatClampNeg 1 = 1 := by decide
  have a2 : Int32.toNatClampNeg 2 = 2 := by decide
  have hcl := nj_clamp (show l < 2147483648 by omega)
  refine ⟨fn_14 hF, fk_14 hF, 23, fr_14_12 hF, fn_23 hF, fk_23 hF, by rw [hls, fl_23 hF]; exact hv, fun S1 e1 => ?_⟩
  have hF1 : Fix S1 := by rw [e1]; exact hF.x _ _ _
  have hl1 : gX S1 14 19 = nI l := by rw [e1, x_sX, if_neg (by omega)]; exact hls
  have hn1 : ∀ i, gX S1 18 i = gX S 18 i := fun i => by rw [e1, x_sX, if_neg (by omega)]
  have hA1 : Ag (pN l) S S1 := by rw [e1, hls, hcl]; exact (Ag.rf _ _).x _ _ _ (Or.inl ⟨by omega, rfl⟩)
  have b1 : gX S1 23 l = nI s := by rw [e1, hls, hcl, x_sX, if_pos ⟨rfl, rfl⟩]
  refine ⟨24, fr_14_13 hF1, fn_24 hF1, fk_24 hF1, by rw [hl1, fl_24 hF1]; exact hv, fun S2 e2 => ?_⟩
  have hF2 : Fix S2 := by rw [e2]; exact hF1.x _ _ _
  have hl2 : gX S2 14 19 = nI l := by rw [e2, x_sX, if_neg (by omega)]; exact hl1
  have hn2 : ∀ i, gX S2 18 i = gX S 18 i := fun i => by rw [e2, x_sX, if_neg (by omega)]; exact hn1 i
  have hA2 : Ag (pN l) S S2 := by rw [e2, hl1, hcl]; exact hA1.x _ _ _ (Or.inl ⟨by omega, rfl⟩)
  have b2 : gX S2 23 l = nI s := by rw [e2, x_sX, if_neg (by omega)]; exact b1
  have c2 : gX S2 24 l = nI k := by rw [e2, hl1, hcl, x_sX, if_pos ⟨rfl, rfl⟩]
  refine ⟨25, fr_14_14 hF2, fn_25 hF2, fk_25 hF2, by rw [hl2, fl_25 hF2]; exact hv, fun S3 e3 => ?_⟩
  have hF3 : Fix S3 := by rw [e3]; exact hF2.x _ _ _
  have hl3 : gX S3 14 19 = nI l := by rw [e3, x_sX, if_neg (by omega)]; exact hl2
  have hn3 : ∀ i, gX S3 18 i = gX S 18 i := fun i => by rw [e3, x_sX, if_neg (by omega)]; exact hn2 i
  have hA3 : Ag (pN l) S S3 := by rw [e3, hl2, hcl]; exact hA2.x _ _ _ (Or.inl ⟨by omega, rfl⟩)
  have b3 : gX S3 23 l = nI s := by rw [e3, x_sX, if_neg (by omega)]; exact b2
  have c3 : gX S3 24 l = nI k := by rw [e3, x_sX, if_neg (by omega)]; exact c2
  have d3 : gX S3 25 l = nI c := by rw [e3, hl2, hcl, x_sX, if_pos ⟨rfl, rfl⟩]
  refine ⟨18, fr_14_6 hF3, fn_18 hF3, fk_18 hF3, by rw [fl_18 hF3]; exact v0, by rw [fl_18 hF3]; exact v1, 26, fr_14_15 hF3, fn_26 hF3, fk_26 hF3, by rw [hl3, fl_26 hF3]; exact hv, fun S4 e4 => ?_⟩
  have hF4 : Fix S4 := by rw [e4]; exact hF3.x _ _ _
  have hl4 : gX S4 14 19 = nI l := by rw [e4, x_sX, if_neg (by omega)]; exact hl3
  have hn4 : ∀ i, gX S4 18 i = gX S 18 i := fun i => by rw [e4, x_sX, if_neg (by omega)]; exact hn3 i
  have hA4 : Ag (pN l) S S4 := by rw [e4, hl3, hcl]; exact hA3.x _ _ _ (Or.inl ⟨by omega, rfl⟩)
  have b4 : gX S4 23 l = nI s := by rw [e4, x_sX, if_neg (by omega)]; exact b3
  have c4 : gX S4 24 l = nI k := by rw [e4, x_sX, if_neg (by omega)]; exact c3
  have d4 : gX S4 25 l = nI c := by rw [e4, x_sX, if_neg (by omega)]; exact d3
  have f4 : gX S4 26 l = fTm ns := by
    rw [e4, hl3, hcl, x_sX, if_pos ⟨rfl, rfl⟩, a0, a1, hn3, hn3, hns 0 (by omega), hns 1 (by omega)]
    unfold fTm
    rfl
  refine ⟨18, fr_14_6 hF4, fn_18 hF4, fk_18 hF4, by rw [fl_18 hF4]; exact v2, 27, fr_14_16 hF4, fn_27 hF4, fk_27 hF4, by rw [hl4, fl_27 hF4]; exact hv, fun S5 e5 => ?_⟩
  have hF5 : Fix S5 := by rw [e5]; exact hF4.x _ _ _
  have hA5 : Ag (pN l) S S5 := by rw [e5, hl4, hcl]; exact hA4.x _ _ _ (Or.inl ⟨by omega, rfl⟩)
  have b5 : gX S5 23 l = nI s := by rw [e5, x_sX, if_neg (by omega)]; exact b4
  have c5 : gX S5 24 l = nI k := by rw [e5, x_sX, if_neg (by omega)]; exact c4
  have d5 : gX S5 25 l = nI c := by rw [e5, x_sX, if_neg (by omega)]; exact d4
  have f5 : gX S5 26 l = fTm ns := by rw [e5, x_sX, if_neg (by omega)]; exact f4
  have g5 : gX S5 27 l = fId ns := by
    rw [e5, hl4, hcl, x_sX, if_pos ⟨rfl, rfl⟩, a2, hn4, hns 2 (by omega)]
    unfold fId
    rfl
  exact q_sizesOf hs (fun _ => ⟨mSizes s + 1, q_note83s hF hl hls hs hnl hc11 hc16 hns hQ (by decide) (by decide) ⟨hA5, b5, c5, d5, f5, g5, fun i hi => absurd hi (by omega)⟩⟩)
theorem mld_ok : ∀ s, s ≤ 6 → ∀ k, k ≤ 2 → ∀ c, c ≤ 2 → (∀ x ∈ mld s k c, okE x) ∧ cn (mld s k c) ≤ 16 ∧ 3 + 2 * mSizes s + (if s = 1 ∨ s = 5 then 2 else 0) ≤ cn (mld s k c) := by
  intro s hs k hk c hc
  have h1 : s = 0 ∨ s = 1 ∨ s = 2 ∨ s = 3 ∨ s = 4 ∨ s = 5 ∨ s = 6 := by omega
  have h2 : k = 0 ∨ k = 1 ∨ k = 2 := by omega
  have h3 : c = 0 ∨ c = 1 ∨ c = 2 := by omega
  unfold okE
  rcases h1 with e | e | e | e | e | e | e <;> rcases h2 with f | f | f <;> rcases h3 with g | g | g <;> subst e <;> subst f <;> subst g <;> decide +kernel
def pQ (k j : Nat) : Prop := k = 16 ∨ k = 18 ∨ (k = 14 ∧ (j = 3 ∨ j = 7 ∨ j = 35))
def wlL (s w : Nat) : Nat → List (Nat × Nat × Nat)
  | 0 => []
  | r + 1 => (s, w / 3, w % 3) :: wlL s (w + 1) r
/-- what the reading gives -/
def Rd (S0 S2 : GS) (n l : Nat) (o : Option (Nat × Nat × Nat) × Nat) (x : Int32) : Prop :=
  match o.1 with
  | none => x = nI o.2 ∧ Ag pQ S0 S2
  | some t => x = -1 ∧ ∃ S1, Ag pQ S0 S1 ∧ No S1 S2 l t.1 t.2.1 t.2.2 (rnm (gX S0 15) n (mld t.1 t.2.1 t.2.2))
theorem q_read25 {S0 : GS} {n l s ways : Nat} {rest : List (Nat × Nat × Nat)} {Q : Int32 → GS → Prop} {L4 : Int32 → Int32 → GS → Prop} (hF0 : Fix S0) (hn : gX S0 14 1 = nI n) (hn72 : n ≤ 72) (hl : l < 512) (hls : gX S0 14 19 = nI l) (hs : s ≤ 6) (hw9 : ways ≤ 9) (hL4 : ∀ f S2, f ≤ n → Ag pQ S0 S2 → (∀ x S3, Rd S0 S3 n l (rdF (gX S0 15) n rest f) x → Q x S3) → L4 (nI f) (nI (s + 1)) S2) : ∀ (r w f : Nat) (S : GS), w + r = ways → f ≤ n → Ag pQ S0 S → (∀ x S3, Rd S0 S3 n l (rdF (gX S0 15) n (wlL s w r ++ rest) f) x → Q x S3) → wX9_read_25 Q L4 14 (r + 1) (nI f) (nI s) (nI ways) (nI w) S := by
  intro r
  induction r with
  | zero =>
    intro w f S hw hf ha hQ
    have ew : w = ways := by omega
    subst ew
    unfold wX9_read_25
    rw [nj_succ]
    exact ⟨fun _ => hL4 f S hf ha hQ, fun hh => absurd ((nj_le (by omega) (by omega)).mpr (Nat.le_refl _)) hh⟩
  | succ r ih =>
    intro w f S hw hf ha hQ
    have hF : Fix S := hF0.ag ha
    have e3 : nI w / 3 = nI (w / 3) := by
      apply Int32.toInt_inj.mp
      rw [lg_idiv_nonneg (by rw [nj_int (by omega)]; omega) (by decide), nj_int (by omega), nj_int (by omega)]
      show (w : Int) / 3 = _
      omega
    have e4 : nI w - nI w / 3 * 3 = nI (w % 3) := by
      rw [e3]
      have : nI (w / 3) * 3 = nI (w / 3 * 3) := by
        show Int32.ofNat (w / 3) * Int32.ofNat 3 = Int32.ofNat (w / 3 * 3)
        rw [Int32.ofNat_mul]
      rw [this, nj_sub (by omega)]
      congr 1
      omega
    have hmk := mld_ok s hs (w / 3) (by omega) (w % 3) (by omega)
    unfold wX9_read_25
    rw [e4, e3]
    refine ⟨fun hh => absurd ((nj_le (by omega) (by omega)).mp hh) (by omega), fun _ => ⟨fn_14 hF, fk_14 hF, q_makeMould hF hs (by omega) (by omega) (fun S3 h3 _ => ?_)⟩⟩
    have hF3 := h3.fix
    have hn3 : gX S3 14 1 = nI n := by rw [h3.2.1.X 14 1 (by unfold pM; omega), ha.X 14 1 (by unfold pQ; omega)]; exact hn
    have h15 : gX S3 15 = gX S0 15 := by rw [h3.2.1.row 15 (by intro j; unfold pM; omega), ha.row 15 (by intro j; unfold pQ; omega)]
    have ha3 : Ag pQ S0 S3 := ha.tr (h3.2.1.mono (by intro k j; unfold pM pQ; omega))
    refine q_reach hF3 hn3 hn72 h3.2.2.1 h3.2.2.2.1 h3.2.2.2.2 hmk.1 hmk.2.1 (fun S7 h7 _ => ?_)
    rw [h15] at h7 ⊢
    have ha7 : Ag pQ S0 S7 := ha3.tr (h7.1.mono (by intro k j; unfold pR pQ; omega))
    have hrl : (rch (gX S0 15) n (mld s (w / 3) (w % 3)) 0 []).2.1 ≤ n := rch_le _ _ _ _ _ (Nat.zero_le _)
    have eR : rea (gX S0 15) n (s, w / 3, w % 3) = (rch (gX S0 15) n (mld s (w / 3) (w % 3)) 0 []).2.1 := rfl
    have hfb := fitb_iff (gX S0 15) n (s, w / 3, w % 3)
    unfold fit rok rto at hfb
    have hQe : rdF (gX S0 15) n (wlL s w (r + 1) ++ rest) f = if fitb (gX S0 15) n (s, w / 3, w % 3) then (some (s, w / 3, w % 3), 0) else rdF (gX S0 15) n (wlL s (w + 1) r ++ rest) (if f < rea (gX S0 15) n (s, w / 3, w % 3) then rea (gX S0 15) n (s, w / 3, w % 3) else f) := rfl
    rw [hQe] at hQ
    rw [h7.2.1]
    by_cases hfit : (rch (gX S0 15) n (mld s (w / 3) (w % 3)) 0 []).1 = true ∧ (rch (gX S0 15) n (mld s (w / 3) (w % 3)) 0 []).2.1 = n
    · rw [if_pos hfit]
      rw [if_pos (hfb.mpr hfit)] at hQ
      refine ⟨fun hh => absurd hh (by decide), fun _ => ?_⟩
      have hls7 : gX S7 14 19 = nI l := by rw [ha7.X 14 19 (by unfold pQ; omega)]; exact hls
      have hlen := rch_len (gX S0 15) n (mld s (w / 3) (w % 3)) 0 [] hfit.1
      rw [List.length_nil, Nat.zero_add] at hlen
      refine q_note (hF3.ag h7.1) hl hls7 hs hlen (by rw [hlen]; exact hmk.2.2) (by rw [hlen]; exact hmk.2.1) (h7.2.2 hfit) (fun S11 h11 _ => hQ _ _ ?_)
      exact ⟨rfl, S7, ha7, h11⟩
    · rw [if_neg hfit]
      rw [if_neg (fun a => hfit (hfb.mp a))] at hQ
      refine ⟨fun _ => ?_, fun hh => absurd rfl hh⟩
      unfold wX9_read_81
      rw [nj_succ, nj_le (by omega) (by omega)]
      rw [eR] at hQ
      refine ⟨fun hh => ?_, fun hh => ?_⟩
      · rw [if_neg (by omega)] at hQ
        exact ih (w + 1) f S7 (by omega) hf ha7 hQ
      · rw [if_pos (by omega)] at hQ
        exact ih (w + 1) _ S7 (by omega) hrl ha7 hQ
theorem q_read25s {S0 S : GS} {n l s ways f : Nat} {x3 x4 : Int32} {rest : List (Nat × Nat × Nat)} {Q : Int32 → GS → Prop} {L4 : Int32 → Int32 → GS → Prop} (hF0 : Fix S0) (hn : gX S0 14 1 = nI n) (hn72 : n ≤ 72) (hl : l < 512) (hls : gX S0 14 19 = nI l) (hs : s ≤ 6) (hw9 : ways ≤ 9) (hL4 : ∀ f S2, f ≤ n → Ag pQ S0 S2 → (∀ x S3, Rd S0 S3 n l (rdF (gX S0 15) n rest f) x → Q x S3) → L4 (nI f) (nI (s + 1)) S2) (e3 : x3 = nI ways) (e4 : x4 = nI 0) (hf : f ≤ n) (ha : Ag pQ S0 S) (hQ : ∀ x S3, Rd S0 S3 n l (rdF (gX S0 15) n (wlL s 0 ways ++ rest) f) x → Q x S3) : wX9_read_25 Q L4 14 (ways + 1) (nI f) (nI s) x3 x4 S := by
  rw [e3, e4]
  exact q_read25 hF0 hn hn72 hl hls hs hw9 hL4 ways 0 f S (by omega) hf ha hQ
def shL (s : Nat) : Nat → List (Nat × Nat × Nat)
  | 0 => []
  | r + 1 => wlL s 0 (if s ≤ 1 then 9 else 1) ++ shL (s + 1) r
theorem q_read4 {S0 : GS} {n l : Nat} {Q : Int32 → GS → Prop} (hF0 : Fix S0) (hn : gX S0 14 1 = nI n) (hn72 : n ≤ 72) (hl : l < 512) (hls : gX S0 14 19 = nI l) : ∀ (r s f : Nat) (S : GS), s + r = 7 → f ≤ n → Ag pQ S0 S → (∀ x S3, Rd S0 S3 n l (rdF (gX S0 15) n (shL s r) f) x → Q x S3) → wX9_read_4 Q 14 (r + 1) (nI f) (nI s) S := by
  intro r
  induction r with
  | zero =>
    intro s f S hs hf ha hQ
    have es : s = 7 := by omega
    subst es
    unfold wX9_read_4
    refine ⟨fun _ => hQ _ _ ⟨rfl, ha⟩, fun hh => absurd (by decide) hh⟩
  | succ r ih =>
    intro s f S hs hf ha hQ
    unfold wX9_read_4 wX9_read_21
    have e6 : (6 : Int32) < nI s ↔ 6 < s := nj_lt (a := 6) (by decide) (by omega)
    have e1 : (1 : Int32) < nI s ↔ 1 < s := nj_lt (a := 1) (by decide) (by omega)
    rw [e6, e1]
    have hL4 : ∀ f S2, f ≤ n → Ag pQ S0 S2 → (∀ x S3, Rd S0 S3 n l (rdF (gX S0 15) n (shL (s + 1) r) f) x → Q x S3) → wX9_read_4 Q 14 (r + 1) (nI f) (nI (s + 1)) S2 := fun f S2 hf2 ha2 hQ2 => ih (s + 1) f S2 (by omega) hf2 ha2 hQ2
    unfold shL at hQ
    refine ⟨fun hh => absurd hh (by omega), fun _ => ⟨fun h1 => ⟨2, ?_⟩, fun h1 => ⟨10, ?_⟩⟩⟩
    · rw [if_neg (by omega)] at hQ
      exact q_read25s (ways := 1) hF0 hn hn72 hl hls (by omega) (by omega) hL4 (by decide) (by decide) hf ha hQ
    · rw [if_pos (by omega)] at hQ
      exact q_read25s (ways := 9) hF0 hn hn72 hl hls (by omega) (by omega) hL4 (by decide) (by decide) hf ha hQ
theorem q_read {S0 : GS} {n l : Nat} {Q : Int32 → GS → Prop} (hF0 : Fix S0) (hn : gX S0 14 1 = nI n) (hn72 : n ≤ 72) (hl : l < 512) (hls : gX S0 14 19 = nI l) (hQ : ∀ x S3, Rd S0 S3 n l (rdF (gX S0 15) n allM 0) x → Q x S3) : wX9_read S0 14 Q :=
  ⟨8, q_read4 hF0 hn hn72 hl hls 7 0 0 S0 (by omega) (Nat.zero_le _) (Ag.rf _ _) hQ⟩
