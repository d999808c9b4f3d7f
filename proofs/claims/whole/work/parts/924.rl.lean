/-! THE REFERENCE'S LOOPS over its lines. -/
/-- how many of the first n of f are v -/
def cnt (f : Nat → Int32) (v : Int32) : Nat → Nat
  | 0 => 0
  | n + 1 => cnt f v n + if f n = v then 1 else 0
def cBk (S : GS) (l j : Nat) : Prop := gX S 19 j = gX S 14 20 ∧ gX S 20 j ≠ 0 ∧ gX S 26 l < gX S 26 j
theorem q_isBack2 {S : GS} {l : Nat} {Q : Int32 → GS → Prop} (hF : Fix S) (hl : l < 512) (h1 : (∃ j, j < l ∧ cBk S l j) → Q 1 S) (h0 : (∀ j, j < l → ¬ cBk S l j) → Q 0 S) : ∀ (r j : Nat), j + r = l → (∀ i, i < j → ¬ cBk S l i) → wX9_isBack_2 Q 14 (r + 1) (nI l) (nI j) S := by
  intro r
  induction r with
  | zero =>
    intro j hj hn
    have e : j = l := by omega
    subst e
    unfold wX9_isBack_2
    exact ⟨fun _ => h0 hn, fun a => absurd ((nj_le (by omega) (by omega)).mpr (Nat.le_refl _)) a⟩
  | succ r ih =>
    intro j hj hn
    have hgo : ¬ cBk S l j → wX9_isBack_46 Q (wX9_isBack_2 Q 14 (r + 1)) 14 (nI l) (nI j) S := by
      intro hc
      unfold wX9_isBack_46
      rw [nj_succ]
      refine ih (j + 1) (by omega) (fun i hi => ?_)
      by_cases e : i = j
      · subst e; exact hc
      · exact hn i (by omega)
    unfold wX9_isBack_2
    simp only [fn_14 hF, fk_14 hF, fr_14_8 hF, fn_19 hF, fk_19 hF, fl_19 hF, fr_14_9 hF, fn_20 hF, fk_20 hF, fl_20 hF, fr_14_15 hF, fn_26 hF, fk_26 hF, fl_26 hF, n_sX, k_sX, l_sX, x_sX, z_sX, r_sX, f_sX, n_sZ, k_sZ, l_sZ, x_sZ, z_sZ, r_sZ, f_sZ, n_sR, k_sR, l_sR, x_sR, z_sR, r_sR, f_sR, n_sF, k_sF, l_sF, x_sF, z_sF, r_sF, f_sF, Nat.reduceEqDiff, true_and, and_true, false_and, and_false, and_self, if_true, if_false, reduceIte, exists_eq_left, exists_eq_left', Option.some.injEq, forall_eq, forall_const, imp_self, reduceCtorEq, not_true_eq_false, not_false_eq_true, false_imp_iff, true_imp_iff, implies_true, nj_clamp (show j < 2147483648 by omega), nj_clamp (show l < 2147483648 by omega), nj_le (show l < 2147483648 by omega) (show j < 2147483648 by omega)]
    have hv := nj_in (n := 512) (show j < 512 by omega) (by omega)
    have hvl := nj_in (n := 512) hl (by omega)
    refine ⟨fun a => absurd a (by omega), fun _ => ⟨hv, fun a => hgo (fun c => a c.1), fun a => ⟨hv, fun b => hgo (fun c => c.2.1 b), fun b => ⟨hv, hvl, fun c => hgo (fun d => ?_), fun c => h1 ⟨j, by omega, a, b, Int32.not_le.mp c⟩⟩⟩⟩⟩
    exact absurd d.2.2 (Int32.not_lt.mpr c)
theorem q_isBack {S : GS} {l : Nat} {Q : Int32 → GS → Prop} (hF : Fix S) (hl : l < 512) (h1 : (∃ j, j < l ∧ cBk S l j) → Q 1 S) (h0 : (∀ j, j < l → ¬ cBk S l j) → Q 0 S) : wX9_isBack S 14 (nI l) Q :=
  ⟨l + 1, q_isBack2 hF hl h1 h0 l 0 (by omega) (fun i hi => absurd hi (by omega))⟩
def cSt (S : GS) (l j : Nat) : Prop := gX S 19 j = gX S 14 20 ∧ gX S 21 j ≠ 0 ∧ (gX S 23 j = 0 ∨ gX S 23 j = 4) ∧ gX S 27 l ≤ gX S 27 j
theorem q_isStale2 {S : GS} {l : Nat} {Q : Int32 → GS → Prop} (hF : Fix S) (hl : l < 512) (h1 : (∃ j, j < l ∧ cSt S l j) → Q 1 S) (h0 : (∀ j, j < l → ¬ cSt S l j) → Q 0 S) : ∀ (r j : Nat), j + r = l → (∀ i, i < j → ¬ cSt S l i) → wX9_isStale_2 Q 14 (r + 1) (nI l) (nI j) S := by
  intro r
  induction r with
  | zero =>
    intro j hj hn
    have e : j = l := by omega
    subst e
    unfold wX9_isStale_2
    exact ⟨fun _ => h0 hn, fun a => absurd ((nj_le (by omega) (by omega)).mpr (Nat.le_refl _)) a⟩
  | succ r ih =>
    intro j hj hn
    have hgo : ¬ cSt S l j → wX9_isStale_65 Q (wX9_isStale_2 Q 14 (r + 1)) 14 (nI l) (nI j) S := by
      intro hc
      unfold wX9_isStale_65
      rw [nj_succ]
      refine ih (j + 1) (by omega) (fun i hi => ?_)
      by_cases e : i = j
      · subst e; exact hc
      · exact hn i (by omega)
    have hv := nj_in (n := 512) (show j < 512 by omega) (by omega)
    have hvl := nj_in (n := 512) hl (by omega)
    have h48 : gX S 19 j = gX S 14 20 → gX S 21 j ≠ 0 → (gX S 23 j = 0 ∨ gX S 23 j = 4) → wX9_isStale_48 Q (wX9_isStale_2 Q 14 (r + 1)) 14 (nI l) (nI j) S := by
      intro a b c
      unfold wX9_isStale_48
      simp only [fn_14 hF, fk_14 hF, fr_14_16 hF, fn_27 hF, fk_27 hF, fl_27 hF, n_sX, k_sX, l_sX, x_sX, z_sX, r_sX, f_sX, n_sZ, k_sZ, l_sZ, x_sZ, z_sZ, r_sZ, f_sZ, n_sR, k_sR, l_sR, x_sR, z_sR, r_sR, f_sR, n_sF, k_sF, l_sF, x_sF, z_sF, r_sF, f_sF, Nat.reduceEqDiff, true_and, and_true, false_and, and_false, and_self, if_true, if_false, reduceIte, exists_eq_left, exists_eq_left', Option.some.injEq, forall_eq, forall_const, imp_self, reduceCtorEq, not_true_eq_false, not_false_eq_true, false_imp_iff, true_imp_iff, implies_true, nj_clamp (show j < 2147483648 by omega), nj_clamp (show l < 2147483648 by omega)]
      refine ⟨hv, hvl, fun d => hgo (fun e => ?_), fun d => h1 ⟨j, by omega, a, b, c, Int32.not_lt.mp d⟩⟩
      exact absurd e.2.2.2 (Int32.not_le.mpr d)
    unfold wX9_isStale_2
    simp only [fn_14 hF, fk_14 hF, fr_14_8 hF, fn_19 hF, fk_19 hF, fl_19 hF, fr_14_10 hF, fn_21 hF, fk_21 hF, fl_21 hF, fr_14_12 hF, fn_23 hF, fk_23 hF, fl_23 hF, n_sX, k_sX, l_sX, x_sX, z_sX, r_sX, f_sX, n_sZ, k_sZ, l_sZ, x_sZ, z_sZ, r_sZ, f_sZ, n_sR, k_sR, l_sR, x_sR, z_sR, r_sR, f_sR, n_sF, k_sF, l_sF, x_sF, z_sF, r_sF, f_sF, Nat.reduceEqDiff, true_and, and_true, false_and, and_false, and_self, if_true, if_false, reduceIte, exists_eq_left, exists_eq_left', Option.some.injEq, forall_eq, forall_const, imp_self, reduceCtorEq, not_true_eq_false, not_false_eq_true, false_imp_iff, true_imp_iff, implies_true, nj_clamp (show j < 2147483648 by omega), nj_le (show l < 2147483648 by omega) (show j < 2147483648 by omega)]
    refine ⟨fun a => absurd a (by omega), fun _ => ⟨hv, fun a => hgo (fun c => a c.1), fun a => ⟨hv, fun b => hgo (fun c => c.2.1 b), fun b => ⟨hv, fun c => h48 a b (Or.inl c), fun c => ⟨hv, fun d => hgo (fun e => ?_), fun d => h48 a b (Or.inr d)⟩⟩⟩⟩⟩
    rcases e.2.2.1 with x | x
    · exact c x
    · exact d x
theorem q_isStale {S : GS} {l : Nat} {Q : Int32 → GS → Prop} (hF : Fix S) (hl : l < 512) (h1 : (∃ j, j < l ∧ cSt S l j) → Q 1 S) (h0 : (∀ j, j < l → ¬ cSt S l j) → Q 0 S) : wX9_isStale S 14 (nI l) Q :=
  ⟨l + 1, q_isStale2 hF hl h1 h0 l 0 (by omega) (fun i hi => absurd hi (by omega))⟩
/-- the first taken line of shape s behind b, before n -/
theorem q_ofOpen7 {S : GS} {n b : Nat} {s : Int32} {Q : Int32 → GS → Prop} (hF : Fix S) (hn : gX S 14 19 = nI n) (hn5 : n ≤ 512) (h0 : (∀ j, b < j → j < n → gX S 21 j ≠ 0 → gX S 23 j ≠ s) → Q (-1) S) (h1 : ∀ j, b < j → j < n → gX S 21 j ≠ 0 → gX S 23 j = s → Q (nI j) S) : ∀ (r j : Nat), j + r = n → b < j → (∀ i, b < i → i < j → gX S 21 i ≠ 0 → gX S 23 i ≠ s) → wX9_ofOpenPause_7 Q 14 (r + 1) s (nI j) S := by
  intro r
  induction r with
  | zero =>
    intro j hj hb hno
    have e : j = n := by omega
    subst e
    unfold wX9_ofOpenPause_7
    rw [hn]
    exact ⟨fn_14 hF, fk_14 hF, fun _ => h0 hno, fun a => absurd ((nj_le (by omega) (by omega)).mpr (Nat.le_refl _)) a⟩
  | succ r ih =>
    intro j hj hb hno
    have hgo : (gX S 21 j ≠ 0 → gX S 23 j ≠ s) → wX9_ofOpenPause_36 Q (wX9_ofOpenPause_7 Q 14 (r + 1)) 14 s (nI j) S := by
      intro hc
      unfold wX9_ofOpenPause_36
      rw [nj_succ]
      refine ih (j + 1) (by omega) (by omega) (fun i hi hi2 => ?_)
      by_cases e : i = j
      · subst e; exact hc
      · exact hno i hi (by omega)
    have hv := nj_in (n := 512) (show j < 512 by omega) (by omega)
    unfold wX9_ofOpenPause_7
    simp only [fn_14 hF, fk_14 hF, fr_14_10 hF, fn_21 hF, fk_21 hF, fl_21 hF, fr_14_12 hF, fn_23 hF, fk_23 hF, fl_23 hF, n_sX, k_sX, l_sX, x_sX, z_sX, r_sX, f_sX, n_sZ, k_sZ, l_sZ, x_sZ, z_sZ, r_sZ, f_sZ, n_sR, k_sR, l_sR, x_sR, z_sR, r_sR, f_sR, n_sF, k_sF, l_sF, x_sF, z_sF, r_sF, f_sF, Nat.reduceEqDiff, true_and, and_true, false_and, and_false, and_self, if_true, if_false, reduceIte, exists_eq_left, exists_eq_left', Option.some.injEq, forall_eq, forall_const, imp_self, reduceCtorEq, not_true_eq_false, not_false_eq_true, false_imp_iff, true_imp_iff, implies_true, hn, nj_clamp (show j < 2147483648 by omega), nj_le (show n < 2147483648 by omega) (show j < 2147483648 by omega)]
    exact ⟨fun a => absurd a (by omega), fun _ => ⟨hv, fun a => hgo (fun c => absurd a c), fun a => ⟨hv, fun c => hgo (fun _ => c), fun c => h1 j hb (by omega) a c⟩⟩⟩
theorem q_ofOpen {S : GS} {n b : Nat} {s : Int32} {Q : Int32 → GS → Prop} (hF : Fix S) (hn : gX S 14 19 = nI n) (hn5 : n ≤ 512) (hb : gX S 14 30 = nI b) (hbn : b < n) (h0 : (∀ j, b < j → j < n → gX S 21 j ≠ 0 → gX S 23 j ≠ s) → Q (-1) S) (h1 : ∀ j, b < j → j < n → gX S 21 j ≠ 0 → gX S 23 j = s → Q (nI j) S) : wX9_ofOpenPause S 14 s Q := by
  refine ⟨fn_14 hF, fk_14 hF, n - b, ?_⟩
  rw [hb, nj_succ, show n - b = (n - b - 1) + 1 by omega]
  exact q_ofOpen7 hF hn hn5 h0 h1 (n - b - 1) (b + 1) (by omega) (by omega) (fun i hi hi2 => absurd hi (by omega))
/-- took, end and begin: too short? -/
def slw (tk te tb : Int32) : Prop := ¬ lg_cmp (Int32.toInt64 tk) ((1000 * (Int32.toInt64 (te - tb))) + 999) ≤ 0
theorem q_slow {S : GS} {l b : Nat} {Q : Int32 → GS → Prop} (hF : Fix S) (hl : l < 512) (hb : b < 512) (h1 : slw (gX S 29 l) (gX S 26 l) (gX S 26 b) → Q 1 S) (h0 : ¬ slw (gX S 29 l) (gX S 26 l) (gX S 26 b) → Q 0 S) : wX9_slow S 14 (nI l) (nI b) Q := by
  have hvl := nj_in (n := 512) hl (by omega)
  have hvb := nj_in (n := 512) hb (by omega)
  unfold wX9_slow wX9_slow_38
  simp only [fn_14 hF, fk_14 hF, fr_14_18 hF, fn_29 hF, fk_29 hF, fl_29 hF, fr_14_15 hF, fn_26 hF, fk_26 hF, fl_26 hF, n_sX, k_sX, l_sX, x_sX, z_sX, r_sX, f_sX, n_sZ, k_sZ, l_sZ, x_sZ, z_sZ, r_sZ, f_sZ, n_sR, k_sR, l_sR, x_sR, z_sR, r_sR, f_sR, n_sF, k_sF, l_sF, x_sF, z_sF, r_sF, f_sF, Nat.reduceEqDiff, true_and, and_true, false_and, and_false, and_self, if_true, if_false, reduceIte, exists_eq_left, exists_eq_left', Option.some.injEq, forall_eq, forall_const, imp_self, reduceCtorEq, not_true_eq_false, not_false_eq_true, false_imp_iff, true_imp_iff, implies_true, nj_clamp (show l < 2147483648 by omega), nj_clamp (show b < 2147483648 by omega), eq_self, true_or, or_true]
  exact ⟨hvl, hvl, hvb, fun a => h0 (fun c => c a), fun a => h1 a⟩
theorem q_owned4 {S : GS} {n : Nat} {w : Int32} {Q : Int32 → GS → Prop} (hF : Fix S) (hn : gX S 14 19 = nI n) (hn5 : n ≤ 512) : ∀ (r j m : Nat), j + r = n → (Q (nI (m + (cnt (gX S 22) w n - cnt (gX S 22) w j))) S) → cnt (gX S 22) w j ≤ cnt (gX S 22) w n → wX9_owned_4 Q 14 (r + 1) w (nI m) (nI j) S := by
  have hmono : ∀ a b, a ≤ b → cnt (gX S 22) w a ≤ cnt (gX S 22) w b := by
    intro a b hab
    induction hab with
    | refl => exact Nat.le_refl _
    | step _ ih => rw [cnt]; omega
  intro r
  induction r with
  | zero =>
    intro j m hj hQ _
    have e : j = n := by omega
    subst e
    unfold wX9_owned_4
    rw [hn]
    rw [Nat.sub_self, Nat.add_zero] at hQ
    exact ⟨fn_14 hF, fk_14 hF, fun _ => hQ, fun a => absurd ((nj_le (by omega) (by omega)).mpr (Nat.le_refl _)) a⟩
  | succ r ih =>
    intro j m hj hQ _
    have hm1 := hmono (j + 1) n (by omega)
    have ec : cnt (gX S 22) w (j + 1) = cnt (gX S 22) w j + if gX S 22 j = w then 1 else 0 := rfl
    have hv := nj_in (n := 512) (show j < 512 by omega) (by omega)
    unfold wX9_owned_4 wX9_owned_25
    simp only [fn_14 hF, fk_14 hF, fr_14_11 hF, fn_22 hF, fk_22 hF, fl_22 hF, n_sX, k_sX, l_sX, x_sX, z_sX, r_sX, f_sX, n_sZ, k_sZ, l_sZ, x_sZ, z_sZ, r_sZ, f_sZ, n_sR, k_sR, l_sR, x_sR, z_sR, r_sR, f_sR, n_sF, k_sF, l_sF, x_sF, z_sF, r_sF, f_sF, Nat.reduceEqDiff, true_and, and_true, false_and, and_false, and_self, if_true, if_false, reduceIte, exists_eq_left, exists_eq_left', Option.some.injEq, forall_eq, forall_const, imp_self, reduceCtorEq, not_true_eq_false, not_false_eq_true, false_imp_iff, true_imp_iff, implies_true, hn, nj_clamp (show j < 2147483648 by omega), nj_le (show n < 2147483648 by omega) (show j < 2147483648 by omega), nj_succ]
    refine ⟨fun a => absurd a (by omega), fun _ => ⟨hv, fun a => ?_, fun a => ?_⟩⟩
    · rw [if_neg a] at ec
      refine ih (j + 1) m (by omega) ?_ hm1
      rw [ec, Nat.add_zero]; exact hQ
    · rw [if_pos a] at ec
      refine ih (j + 1) (m + 1) (by omega) ?_ hm1
      have e2 : m + 1 + (cnt (gX S 22) w n - cnt (gX S 22) w (j + 1)) = m + (cnt (gX S 22) w n - cnt (gX S 22) w j) := by omega
      rw [e2]; exact hQ
theorem q_owned {S : GS} {n : Nat} {w : Int32} {Q : Int32 → GS → Prop} (hF : Fix S) (hn : gX S 14 19 = nI n) (hn5 : n ≤ 512) (hQ : Q (nI (cnt (gX S 22) w n)) S) : wX9_owned S 14 w Q := by
  refine ⟨n + 1, ?_⟩
  have := q_owned4 (Q := Q) (w := w) hF hn hn5 n 0 0 (by omega) (by rw [cnt, Nat.sub_zero, Nat.zero_add]; exact hQ) (by rw [cnt]; exact Nat.zero_le _)
  exact this
def pD (P x : Nat) (k j : Nat) : Prop := ((k = 34 ∨ k = 35 ∨ k = 36) ∧ j = P) ∨ (k = 14 ∧ j = 29) ∨ (k = 22 ∧ j = x)
/-- one problem more -/
def Dg (S S2 : GS) (P x : Nat) (w : Int32) (v fa : Int32) : Prop := Ag (pD P x) S S2 ∧ gX S2 34 P = w ∧ gX S2 35 P = v ∧ gX S2 36 P = fa ∧ gX S2 14 29 = nI (P + 1) ∧ gX S2 22 x = 2
theorem q_diagnose {S : GS} {P x : Nat} {w fa : Int32} {Q : GS → Prop} (hF : Fix S) (hP : gX S 14 29 = nI P) (hP5 : P < 512) (hx : x < 512) (hQ : ∀ S2, Dg S S2 P x w (nI x) fa → Q S2) : wX9_diagnose S 14 w (nI x) fa Q := by
  have hv := nj_in (n := 512) hP5 (by omega)
  have hvx := nj_in (n := 512) hx (by omega)
  have hcl := nj_clamp (show P < 2147483648 by omega)
  have hcx := nj_clamp (show x < 2147483648 by omega)
  refine ⟨fn_14 hF, fk_14 hF, 34, fr_14_26 hF, fn_34 hF, fk_34 hF, by rw [hP, fl_34 hF]; exact hv, fun S1 e1 => ?_⟩
  have hF1 : Fix S1 := by rw [e1]; exact hF.x _ _ _
  have hP1 : gX S1 14 29 = nI P := by rw [e1, x_sX, if_neg (by omega)]; exact hP
  rw [hP, hcl] at e1
  refine ⟨35, fr_14_27 hF1, fn_35 hF1, fk_35 hF1, by rw [hP1, fl_35 hF1]; exact hv, fun S2 e2 => ?_⟩
  have hF2 : Fix S2 := by rw [e2]; exact hF1.x _ _ _
  have hP2 : gX S2 14 29 = nI P := by rw [e2, x_sX, if_neg (by omega)]; exact hP1
  rw [hP1, hcl] at e2
  refine ⟨36, fr_14_28 hF2, fn_36 hF2, fk_36 hF2, by rw [hP2, fl_36 hF2]; exact hv, fun S3 e3 S4 e4 => ?_⟩
  have hF3 : Fix S3 := by rw [e3]; exact hF2.x _ _ _
  have hP3 : gX S3 14 29 = nI P := by rw [e3, x_sX, if_neg (by omega)]; exact hP2
  rw [hP2, hcl] at e3
  have hF4 : Fix S4 := by rw [e4]; exact hF3.x _ _ _
  rw [hP3, nj_succ] at e4
  refine ⟨22, fr_14_11 hF4, fn_22 hF4, fk_22 hF4, by rw [fl_22 hF4]; exact hvx, fun S5 e5 => hQ S5 ?_⟩
  rw [hcx] at e5
  refine ⟨?_, ?_, ?_, ?_, ?_, ?_⟩
  · rw [e5, e4, e3, e2, e1]
    exact (((((Ag.rf _ _).x _ _ _ (Or.inl ⟨by omega, rfl⟩)).x _ _ _ (Or.inl ⟨by omega, rfl⟩)).x _ _ _ (Or.inl ⟨by omega, rfl⟩)).x _ _ _ (Or.inr (Or.inl ⟨rfl, rfl⟩))).x _ _ _ (Or.inr (Or.inr ⟨rfl, rfl⟩))
  · rw [e5, x_sX, if_neg (by omega), e4, x_sX, if_neg (by omega), e3, x_sX, if_neg (by omega), e2, x_sX, if_neg (by omega), e1, x_sX, if_pos ⟨rfl, rfl⟩]
  · rw [e5, x_sX, if_neg (by omega), e4, x_sX, if_neg (by omega), e3, x_sX, if_neg (by omega), e2, x_sX, if_pos ⟨rfl, rfl⟩]
  · rw [e5, x_sX, if_neg (by omega), e4, x_sX, if_neg (by omega), e3, x_sX, if_pos ⟨rfl, rfl⟩]
  · rw [e5, x_sX, if_neg (by omega), e4, x_sX, if_pos ⟨rfl, rfl⟩]
  · rw [e5, x_sX, if_pos ⟨rfl, rfl⟩]
