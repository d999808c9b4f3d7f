/-! THE REFERENCE WRITES: numbers given, then poured into out. -/
def pG (k j : Nat) : Prop := k = 18 ∨ (k = 14 ∧ j = 7)
def Gi (S0 S : GS) (ns : List Int32) : Prop := Fix S0 ∧ Ag pG S0 S ∧ gX S 14 7 = nI ns.length ∧ ∀ i, i < ns.length → gX S 18 i = ns.getD i 0
theorem Gi.fix {S0 S : GS} {L : List Int32} (h : Gi S0 S L) : Fix S := h.1.ag h.2.1
theorem Gi.eq {S0 S : GS} {L L' : List Int32} (h : Gi S0 S L) (e : L = L') : Gi S0 S L' := e ▸ h
theorem q_give {S0 S : GS} {ns : List Int32} {x : Int32} {Q : GS → Prop} (h : Gi S0 S ns) (hl : ns.length < 16) (hQ : ∀ S2, Gi S0 S2 (ns ++ [x]) → Q S2) : wX9_give S 14 x Q := by
  have hF := h.fix
  obtain ⟨h0, ha, hm, hi⟩ := h
  unfold wX9_give
  simp only [fn_14 hF, fk_14 hF, fn_15 hF, fk_15 hF, fn_16 hF, fk_16 hF, fn_17 hF, fk_17 hF, fn_18 hF, fk_18 hF, fn_19 hF, fk_19 hF, fn_20 hF, fk_20 hF, fn_21 hF, fk_21 hF, fn_22 hF, fk_22 hF, fn_23 hF, fk_23 hF, fn_24 hF, fk_24 hF, fn_25 hF, fk_25 hF, fn_26 hF, fk_26 hF, fn_27 hF, fk_27 hF, fn_28 hF, fk_28 hF, fn_29 hF, fk_29 hF, fn_30 hF, fk_30 hF, fn_31 hF, fk_31 hF, fn_32 hF, fk_32 hF, fn_33 hF, fk_33 hF, fn_34 hF, fk_34 hF, fn_35 hF, fk_35 hF, fn_36 hF, fk_36 hF, fl_15 hF, fl_16 hF, fl_17 hF, fl_18 hF, fl_19 hF, fl_20 hF, fl_21 hF, fl_22 hF, fl_23 hF, fl_24 hF, fl_25 hF, fl_26 hF, fl_27 hF, fl_28 hF, fl_29 hF, fl_30 hF, fl_31 hF, fl_32 hF, fl_33 hF, fl_34 hF, fl_35 hF, fl_36 hF, fr_14_0 hF, fr_14_2 hF, fr_14_4 hF, fr_14_6 hF, fr_14_8 hF, fr_14_9 hF, fr_14_10 hF, fr_14_11 hF, fr_14_12 hF, fr_14_13 hF, fr_14_14 hF, fr_14_15 hF, fr_14_16 hF, fr_14_17 hF, fr_14_18 hF, fr_14_21 hF, fr_14_22 hF, fr_14_23 hF, fr_14_24 hF, fr_14_26 hF, fr_14_27 hF, fr_14_28 hF, n_sX, k_sX, l_sX, x_sX, z_sX, r_sX, f_sX, n_sZ, k_sZ, l_sZ, x_sZ, z_sZ, r_sZ, f_sZ, n_sR, k_sR, l_sR, x_sR, z_sR, r_sR, f_sR, n_sF, k_sF, l_sF, x_sF, z_sF, r_sF, f_sF, Nat.reduceEqDiff, true_and, and_true, false_and, and_false, and_self, if_true, if_false, reduceIte, exists_eq_left, exists_eq_left', Option.some.injEq, forall_eq, forall_const, imp_self, reduceCtorEq, not_true_eq_false, not_false_eq_true, false_imp_iff, true_imp_iff, implies_true, hm, nj_clamp (show ns.length < 2147483648 by omega), nj_succ]
  refine ⟨nj_in hl (by omega), hQ _ ⟨h0, ?_, ?_, ?_⟩⟩
  · exact (ha.x _ _ _ (Or.inl rfl)).x _ _ _ (Or.inr ⟨rfl, rfl⟩)
  · simp only [x_sX, and_self, if_true, List.length_append, List.length_cons, List.length_nil]
  · intro i hi2
    simp only [List.length_append, List.length_cons, List.length_nil] at hi2
    simp only [x_sX, n_sX, k_sX, l_sX, x_sX, z_sX, r_sX, f_sX, n_sZ, k_sZ, l_sZ, x_sZ, z_sZ, r_sZ, f_sZ, n_sR, k_sR, l_sR, x_sR, z_sR, r_sR, f_sR, n_sF, k_sF, l_sF, x_sF, z_sF, r_sF, f_sF, Nat.reduceEqDiff, true_and, and_true, false_and, and_false, and_self, if_true, if_false, reduceIte, exists_eq_left, exists_eq_left', Option.some.injEq, forall_eq, forall_const, imp_self, reduceCtorEq, not_true_eq_false, not_false_eq_true, false_imp_iff, true_imp_iff, implies_true]
    by_cases e : i = ns.length
    · subst e
      simp
    · rw [if_neg e, hi i (by omega), getD_snoc_l (by omega)]
def gsL (x : Int32) : List Int32 := if inM x then [x / 1024, 1] else [x, 0]
theorem gsL_len (x : Int32) : (gsL x).length = 2 := by unfold gsL; split <;> rfl
theorem q_giveSize {S0 S : GS} {ns : List Int32} {x : Int32} {Q : GS → Prop} (h : Gi S0 S ns) (hl : ns.length + 2 ≤ 16) (hQ : ∀ S2, Gi S0 S2 (ns ++ gsL x) → Q S2) : wX9_giveSize S 14 x Q := by
  have hK : inM x = false → wX9_giveSize_16 Q 14 x S := by
    intro hm
    unfold gsL at hQ
    rw [hm] at hQ
    simp only [Bool.false_eq_true, if_false] at hQ
    unfold wX9_giveSize_16 wX9_giveSize_17 wX9_giveSize_32 wX9_giveSize_45
    refine ⟨fun _ => ⟨fn_14 h.fix, fk_14 h.fix, q_give h (by omega) (fun S2 h2 _ => ⟨fun _ => ⟨fn_14 h2.fix, fk_14 h2.fix, q_give h2 (by simp; omega) (fun S3 h3 _ => hQ S3 (h3.eq (by simp)))⟩, fun a => absurd rfl a⟩)⟩, fun a => absurd rfl a⟩
  unfold wX9_giveSize
  refine ⟨fun a => hK ?_, fun a => ⟨fun b => hK ?_, fun b => ?_⟩⟩
  · simp [inM, a]
  · simp [inM, b]
  · have hm : inM x = true := by simp only [inM, decide_eq_true_eq]; exact ⟨a, b⟩
    unfold gsL at hQ
    rw [hm] at hQ
    simp only [if_true] at hQ
    unfold wX9_giveSize_17 wX9_giveSize_32 wX9_giveSize_45
    refine ⟨fun c => absurd c (by decide), fun _ => ⟨fn_14 h.fix, fk_14 h.fix, q_give h (by omega) (fun S2 h2 _ => ⟨fun c => absurd c (by decide), fun _ => ⟨fn_14 h2.fix, fk_14 h2.fix, q_give h2 (by simp; omega) (fun S3 h3 _ => hQ S3 (h3.eq (by simp)))⟩⟩)⟩⟩
def gpL (t : Int32) : List Int32 := [t / 1000, t - t / 1000 * 1000]
theorem q_giveParts {S0 S : GS} {ns : List Int32} {x : Int32} {Q : GS → Prop} (h : Gi S0 S ns) (hl : ns.length + 2 ≤ 16) (hQ : ∀ S2, Gi S0 S2 (ns ++ gpL x) → Q S2) : wX9_giveParts S 14 x Q :=
  ⟨fn_14 h.fix, fk_14 h.fix, q_give h (by omega) (fun S2 h2 _ => q_give h2 (by simp; omega) (fun S3 h3 _ => hQ S3 (h3.eq (by simp [gpL]))))⟩
def pO (k j : Nat) : Prop := k = 17 ∨ (k = 14 ∧ j = 5)
def Ou (S0 S : GS) (L : List Int32) : Prop := Fix S0 ∧ Ag pO S0 S ∧ gX S 14 5 = nI L.length ∧ L.length ≤ 80 ∧ ∀ i, i < L.length → gX S 17 i = L.getD i 0
theorem Ou.fix {S0 S : GS} {L : List Int32} (h : Ou S0 S L) : Fix S := h.1.ag h.2.1
theorem Ou.eq {S0 S : GS} {L L' : List Int32} (h : Ou S0 S L) (e : L = L') : Ou S0 S L' := e ▸ h
theorem q_put {S0 S : GS} {L : List Int32} {x : Int32} {Q : GS → Prop} (h : Ou S0 S L) (hl : L.length < 80) (hQ : ∀ S2, Ou S0 S2 (L ++ [x]) → Q S2) : wX9_put S 14 x Q := by
  have hF := h.fix
  obtain ⟨h0, ha, hm, _, hi⟩ := h
  unfold wX9_put
  simp only [fn_14 hF, fk_14 hF, fn_15 hF, fk_15 hF, fn_16 hF, fk_16 hF, fn_17 hF, fk_17 hF, fn_18 hF, fk_18 hF, fn_19 hF, fk_19 hF, fn_20 hF, fk_20 hF, fn_21 hF, fk_21 hF, fn_22 hF, fk_22 hF, fn_23 hF, fk_23 hF, fn_24 hF, fk_24 hF, fn_25 hF, fk_25 hF, fn_26 hF, fk_26 hF, fn_27 hF, fk_27 hF, fn_28 hF, fk_28 hF, fn_29 hF, fk_29 hF, fn_30 hF, fk_30 hF, fn_31 hF, fk_31 hF, fn_32 hF, fk_32 hF, fn_33 hF, fk_33 hF, fn_34 hF, fk_34 hF, fn_35 hF, fk_35 hF, fn_36 hF, fk_36 hF, fl_15 hF, fl_16 hF, fl_17 hF, fl_18 hF, fl_19 hF, fl_20 hF, fl_21 hF, fl_22 hF, fl_23 hF, fl_24 hF, fl_25 hF, fl_26 hF, fl_27 hF, fl_28 hF, fl_29 hF, fl_30 hF, fl_31 hF, fl_32 hF, fl_33 hF, fl_34 hF, fl_35 hF, fl_36 hF, fr_14_0 hF, fr_14_2 hF, fr_14_4 hF, fr_14_6 hF, fr_14_8 hF, fr_14_9 hF, fr_14_10 hF, fr_14_11 hF, fr_14_12 hF, fr_14_13 hF, fr_14_14 hF, fr_14_15 hF, fr_14_16 hF, fr_14_17 hF, fr_14_18 hF, fr_14_21 hF, fr_14_22 hF, fr_14_23 hF, fr_14_24 hF, fr_14_26 hF, fr_14_27 hF, fr_14_28 hF, n_sX, k_sX, l_sX, x_sX, z_sX, r_sX, f_sX, n_sZ, k_sZ, l_sZ, x_sZ, z_sZ, r_sZ, f_sZ, n_sR, k_sR, l_sR, x_sR, z_sR, r_sR, f_sR, n_sF, k_sF, l_sF, x_sF, z_sF, r_sF, f_sF, Nat.reduceEqDiff, true_and, and_true, false_and, and_false, and_self, if_true, if_false, reduceIte, exists_eq_left, exists_eq_left', Option.some.injEq, forall_eq, forall_const, imp_self, reduceCtorEq, not_true_eq_false, not_false_eq_true, false_imp_iff, true_imp_iff, implies_true, hm, nj_clamp (show L.length < 2147483648 by omega), nj_succ]
  refine ⟨nj_in hl (by omega), hQ _ ⟨h0, ?_, ?_, ?_, ?_⟩⟩
  · exact (ha.x _ _ _ (Or.inl rfl)).x _ _ _ (Or.inr ⟨rfl, rfl⟩)
  · simp only [x_sX, and_self, if_true, List.length_append, List.length_cons, List.length_nil]
  · simp only [List.length_append, List.length_cons, List.length_nil]; omega
  · intro i hi2
    simp only [List.length_append, List.length_cons, List.length_nil] at hi2
    simp only [x_sX, n_sX, k_sX, l_sX, x_sX, z_sX, r_sX, f_sX, n_sZ, k_sZ, l_sZ, x_sZ, z_sZ, r_sZ, f_sZ, n_sR, k_sR, l_sR, x_sR, z_sR, r_sR, f_sR, n_sF, k_sF, l_sF, x_sF, z_sF, r_sF, f_sF, Nat.reduceEqDiff, true_and, and_true, false_and, and_false, and_self, if_true, if_false, reduceIte, exists_eq_left, exists_eq_left', Option.some.injEq, forall_eq, forall_const, imp_self, reduceCtorEq, not_true_eq_false, not_false_eq_true, false_imp_iff, true_imp_iff, implies_true]
    by_cases e : i = L.length
    · subst e
      simp
    · rw [if_neg e, hi i (by omega), getD_snoc_l (by omega)]
/-- one digit put, the unit u' left -/
theorem q_pd {S0 S : GS} {L : List Int32} {f : Nat} {x u u' : Int32} {Q : GS → Prop} (hu : 0 < u.toInt) (hu' : u / 10 = u') (h : Ou S0 S L) (hl : L.length < 80) (hQ : ∀ S2, Ou S0 S2 (L ++ [dv x u]) → wX9_putDigits_30 Q 14 f x u' S2) : wX9_putDigits_30 Q 14 (f + 1) x u S := by
  have hu0 : ¬ u ≤ 0 := by intro a; have := Int32.le_iff_toInt_le.mp a; rw [t0] at this; omega
  have huz : ¬ u = 0 := by intro a; rw [a, t0] at hu; omega
  unfold wX9_putDigits_30
  rw [hu']
  exact ⟨fun a => absurd a hu0, fun _ => ⟨huz, fn_14 h.fix, fk_14 h.fix, q_put h hl (fun S2 h2 _ => hQ S2 h2)⟩⟩
theorem q_pd0 {S0 S : GS} {L : List Int32} {f : Nat} {x : Int32} {Q : GS → Prop} (h : Ou S0 S L) (hQ : ∀ S2, Ou S0 S2 L → Q S2) : wX9_putDigits_30 Q 14 (f + 1) x 0 S := by
  unfold wX9_putDigits_30
  exact ⟨fun _ => hQ S h, fun a => absurd (by decide) a⟩
theorem q_pd1 {S0 S : GS} {L : List Int32} {f : Nat} {x : Int32} {Q : GS → Prop} (h : Ou S0 S L) (hl : L.length + 1 ≤ 80) (hQ : ∀ S2, Ou S0 S2 (L ++ [dv x 1]) → Q S2) : wX9_putDigits_30 Q 14 (f + 2) x 1 S :=
  q_pd (u' := 0) (by decide) (by decide) h (by omega) (fun _ h2 => q_pd0 h2 hQ)
theorem q_pd10 {S0 S : GS} {L : List Int32} {f : Nat} {x : Int32} {Q : GS → Prop} (h : Ou S0 S L) (hl : L.length + 2 ≤ 80) (hQ : ∀ S2, Ou S0 S2 (L ++ [dv x 10, dv x 1]) → Q S2) : wX9_putDigits_30 Q 14 (f + 3) x 10 S :=
  q_pd (u' := 1) (by decide) (by decide) h (by omega) (fun _ h2 => q_pd1 h2 (by simp; omega) (fun S3 h3 => hQ S3 (h3.eq (by simp))))
theorem q_pd100 {S0 S : GS} {L : List Int32} {f : Nat} {x : Int32} {Q : GS → Prop} (h : Ou S0 S L) (hl : L.length + 3 ≤ 80) (hQ : ∀ S2, Ou S0 S2 (L ++ [dv x 100, dv x 10, dv x 1]) → Q S2) : wX9_putDigits_30 Q 14 (f + 4) x 100 S :=
  q_pd (u' := 10) (by decide) (by decide) h (by omega) (fun _ h2 => q_pd10 h2 (by simp; omega) (fun S3 h3 => hQ S3 (h3.eq (by simp))))
theorem q_pd1000 {S0 S : GS} {L : List Int32} {f : Nat} {x : Int32} {Q : GS → Prop} (h : Ou S0 S L) (hl : L.length + 4 ≤ 80) (hQ : ∀ S2, Ou S0 S2 (L ++ [dv x 1000, dv x 100, dv x 10, dv x 1]) → Q S2) : wX9_putDigits_30 Q 14 (f + 5) x 1000 S :=
  q_pd (u' := 100) (by decide) (by decide) h (by omega) (fun _ h2 => q_pd100 h2 (by simp; omega) (fun S3 h3 => hQ S3 (h3.eq (by simp))))
theorem q_pd10000 {S0 S : GS} {L : List Int32} {f : Nat} {x : Int32} {Q : GS → Prop} (h : Ou S0 S L) (hl : L.length + 5 ≤ 80) (hQ : ∀ S2, Ou S0 S2 (L ++ [dv x 10000, dv x 1000, dv x 100, dv x 10, dv x 1]) → Q S2) : wX9_putDigits_30 Q 14 (f + 6) x 10000 S :=
  q_pd (u' := 1000) (by decide) (by decide) h (by omega) (fun _ h2 => q_pd1000 h2 (by simp; omega) (fun S3 h3 => hQ S3 (h3.eq (by simp))))
theorem lt10 {x u : Int32} {k : Int} (hx : 0 ≤ x.toInt) (hu : 0 < u.toInt) (hk : u.toInt * 10 = k) : x / u < 10 ↔ x.toInt < k := by
  rw [Int32.lt_iff_toInt_lt, div_nn hx hu, t10, ← hk]
  rw [Int.ediv_lt_iff_lt_mul hu]
  rw [Int.mul_comm]
theorem du_pos {x u : Int32} (h : u.toInt ≤ x.toInt) : du x u = [dv x u] := by unfold du; rw [if_pos (Int32.le_iff_toInt_le.mpr h)]
theorem du_neg {x u : Int32} (h : x.toInt < u.toInt) : du x u = [] := by
  unfold du; rw [if_neg]; intro a; have := Int32.le_iff_toInt_le.mp a; omega
/-- one turn of the unit -/
theorem q_un {S : GS} {f : Nat} {x u u' l k k' : Int32} {Q : GS → Prop} (hlk : ¬ k < l) (hu : ¬ u = 0) (hu' : u * 10 = u') (hk' : k + 1 = k') (hQ : ¬ x / u < 10 → wX9_putDigits_5 Q 14 f x l u' k' S) (hE : x / u < 10 → wX9_putDigits_30 Q 14 9 x u S) : wX9_putDigits_5 Q 14 (f + 1) x l u k S := by
  unfold wX9_putDigits_5 wX9_putDigits_19
  rw [hu', hk']
  exact ⟨fun a => absurd a hlk, fun _ => ⟨hu, fun a => ⟨9, hE a⟩, fun a => hQ a⟩⟩
theorem q_putDigits1 {S0 S : GS} {L : List Int32} {x : Int32} {Q : GS → Prop} (hx : 0 ≤ x.toInt) (hx5 : x.toInt < 100000) (h : Ou S0 S L) (hl : L.length + (dgs x).length ≤ 80) (hQ : ∀ S2, Ou S0 S2 (L ++ dgs x) → Q S2) : wX9_putDigits S 14 x 1 Q := by
  refine ⟨6, q_un (u' := 10) (k' := 2) (by decide) (by decide) (by decide) (by decide) (fun a1 => q_un (u' := 100) (k' := 3) (by decide) (by decide) (by decide) (by decide) (fun a2 => q_un (u' := 1000) (k' := 4) (by decide) (by decide) (by decide) (by decide) (fun a3 => q_un (u' := 10000) (k' := 5) (by decide) (by decide) (by decide) (by decide) (fun a4 => q_un (u' := 100000) (k' := 6) (by decide) (by decide) (by decide) (by decide) (fun a5 => ?_) (fun a5 => ?_)) (fun a4 => ?_)) (fun a3 => ?_)) (fun a2 => ?_)) (fun a1 => ?_)⟩
  all_goals rw [lt10 (k := 10) hx (by decide) (by decide)] at a1
  · rw [lt10 (k := 100000) hx (by decide) (by decide)] at a5
    exact absurd hx5 a5
  · rw [lt10 (k := 100) hx (by decide) (by decide)] at a2
    rw [lt10 (k := 1000) hx (by decide) (by decide)] at a3
    rw [lt10 (k := 10000) hx (by decide) (by decide)] at a4
    have e : dgs x = [dv x 10000, dv x 1000, dv x 100, dv x 10, dv x 1] := by
      unfold dgs
      rw [du_pos (by rw [t10000]; omega), du_pos (by rw [t1000]; omega), du_pos (by rw [t100]; omega), du_pos (by rw [t10]; omega)]
      rfl
    rw [e] at hl hQ
    exact q_pd10000 h hl hQ
  · rw [lt10 (k := 100) hx (by decide) (by decide)] at a2
    rw [lt10 (k := 1000) hx (by decide) (by decide)] at a3
    rw [lt10 (k := 10000) hx (by decide) (by decide)] at a4
    have e : dgs x = [dv x 1000, dv x 100, dv x 10, dv x 1] := by
      unfold dgs
      rw [du_neg (by rw [t10000]; omega), du_pos (by rw [t1000]; omega), du_pos (by rw [t100]; omega), du_pos (by rw [t10]; omega)]
      rfl
    rw [e] at hl hQ
    exact q_pd1000 h hl hQ
  · rw [lt10 (k := 100) hx (by decide) (by decide)] at a2
    rw [lt10 (k := 1000) hx (by decide) (by decide)] at a3
    have e : dgs x = [dv x 100, dv x 10, dv x 1] := by
      unfold dgs
      rw [du_neg (by rw [t10000]; omega), du_neg (by rw [t1000]; omega), du_pos (by rw [t100]; omega), du_pos (by rw [t10]; omega)]
      rfl
    rw [e] at hl hQ
    exact q_pd100 h hl hQ
  · rw [lt10 (k := 100) hx (by decide) (by decide)] at a2
    have e : dgs x = [dv x 10, dv x 1] := by
      unfold dgs
      rw [du_neg (by rw [t10000]; omega), du_neg (by rw [t1000]; omega), du_neg (by rw [t100]; omega), du_pos (by rw [t10]; omega)]
      rfl
    rw [e] at hl hQ
    exact q_pd10 h hl hQ
  · have e : dgs x = [dv x 1] := by
      unfold dgs
      rw [du_neg (by rw [t10000]; omega), du_neg (by rw [t1000]; omega), du_neg (by rw [t100]; omega), du_neg (by rw [t10]; omega)]
      rfl
    rw [e] at hl hQ
    exact q_pd1 h hl hQ
theorem q_putDigits3 {S0 S : GS} {L : List Int32} {x : Int32} {Q : GS → Prop} (hx : 0 ≤ x.toInt) (hx3 : x.toInt < 1000) (h : Ou S0 S L) (hl : L.length + 3 ≤ 80) (hQ : ∀ S2, Ou S0 S2 (L ++ d3 x) → Q S2) : wX9_putDigits S 14 x 3 Q := by
  refine ⟨3, ?_⟩
  unfold wX9_putDigits_5 wX9_putDigits_19
  refine ⟨fun _ => ?_, fun a => absurd (by decide) a⟩
  unfold wX9_putDigits_5 wX9_putDigits_19
  refine ⟨fun _ => ?_, fun a => absurd (by decide) a⟩
  have e1 : (1 : Int32) * 10 * 10 = 100 := by decide
  have e2 : (1 : Int32) + 1 + 1 = 3 := by decide
  rw [e1, e2]
  refine q_un (u' := 1000) (k' := 4) (by decide) (by decide) (by decide) (by decide) (fun a => ?_) (fun _ => q_pd100 h hl hQ)
  rw [lt10 (k := 1000) hx (by decide) (by decide)] at a
  exact absurd hx3 a
/-- the poured text of a mould L with the numbers ns -/
def prL : List Int32 → List Int32 → List Int32
  | [], _ => []
  | x :: L, ns => if x < 200 then x :: prL L ns else if x = 400 then (if ns.getD 0 0 = 1 then 77 else 75) :: prL L ns.tail else (if x = 300 then d3 (ns.getD 0 0) else dgs (ns.getD 0 0)) ++ prL L ns.tail
/-- the numbers are there, and of a size that a text has -/
def okN : List Int32 → List Int32 → Prop
  | [], _ => True
  | x :: L, ns => if x < 200 then okN L ns else (0 < ns.length ∧ (x ≠ 400 → 0 ≤ (ns.getD 0 0).toInt ∧ (ns.getD 0 0).toInt < (if x = 300 then 1000 else 100000)) ∧ okN L ns.tail)
theorem getD_drop (ns : List Int32) (a i : Nat) : (ns.drop a).getD i 0 = ns.getD (a + i) 0 := by
  simp only [List.getD_eq_getElem?_getD, List.getElem?_drop]
theorem q_pour9 {S1 : GS} {L ns : List Int32} {Q : GS → Prop} (hF1 : Fix S1) (hL : gX S1 14 3 = nI L.length) (hL80 : L.length ≤ 80) (hLi : ∀ i, i < L.length → gX S1 16 i = L.getD i 0) (hn16 : ns.length ≤ 16) (hni : ∀ i, i < ns.length → gX S1 18 i = ns.getD i 0) : ∀ (R D O : List Int32) (a : Nat) (S : GS), L = D ++ R → a ≤ ns.length → okN R (ns.drop a) → Ou S1 S O → O.length + (prL R (ns.drop a)).length ≤ 80 → (∀ S2, Ou S1 S2 (O ++ prL R (ns.drop a)) → Q S2) → wX9_pour_9 Q 14 (R.length + 1) (nI a) (nI D.length) S := by
  intro R
  induction R with
  | nil =>
    intro D O a S eL _ _ h _ hQ
    have hF := h.fix
    have hLS : gX S 14 3 = nI L.length := by rw [h.2.1.X 14 3 (by unfold pO; omega)]; exact hL
    have eD : D.length = L.length := by rw [eL]; simp
    unfold wX9_pour_9
    rw [hLS, eD]
    exact ⟨fn_14 hF, fk_14 hF, fun _ => hQ S (h.eq (by simp [prL])), fun b => absurd ((nj_le (by omega) (by omega)).mpr (Nat.le_refl _)) b⟩
  | cons x R ih =>
    intro D O a S eL ha hok h hl hQ
    have hF := h.fix
    have hLS : gX S 14 3 = nI L.length := by rw [h.2.1.X 14 3 (by unfold pO; omega)]; exact hL
    have h16 : gX S 16 = gX S1 16 := h.2.1.row 16 (by intro j hj; unfold pO at hj; omega)
    have h18 : gX S 18 = gX S1 18 := h.2.1.row 18 (by intro j hj; unfold pO at hj; omega)
    have eD : D.length < L.length := by rw [eL]; simp
    have ex : gX S1 16 D.length = x := by rw [hLi _ eD, eL]; simp
    have hgo : ∀ (a' : Nat) (O' : List Int32) (S2 : GS), a' ≤ ns.length → okN R (ns.drop a') → Ou S1 S2 O' → O'.length + (prL R (ns.drop a')).length ≤ 80 → (∀ S3, Ou S1 S3 (O' ++ prL R (ns.drop a')) → Q S3) → wX9_pour_9 Q 14 (R.length + 1) (nI a') (nI (D.length + 1)) S2 := by
      intro a' O' S2 q1 q2 q3 q4 q5
      have := ih (D ++ [x]) O' a' S2 (by rw [eL]; simp) q1 q2 q3 q4 q5
      rw [List.length_append] at this
      exact this
    unfold okN at hok
    unfold prL at hl hQ
    unfold wX9_pour_9
    simp only [fn_14 hF, fk_14 hF, fr_14_2 hF, fn_16 hF, fk_16 hF, fl_16 hF, fr_14_6 hF, fn_18 hF, fk_18 hF, fl_18 hF, n_sX, k_sX, l_sX, x_sX, z_sX, r_sX, f_sX, n_sZ, k_sZ, l_sZ, x_sZ, z_sZ, r_sZ, f_sZ, n_sR, k_sR, l_sR, x_sR, z_sR, r_sR, f_sR, n_sF, k_sF, l_sF, x_sF, z_sF, r_sF, f_sF, Nat.reduceEqDiff, true_and, and_true, false_and, and_false, and_self, if_true, if_false, reduceIte, exists_eq_left, exists_eq_left', Option.some.injEq, forall_eq, forall_const, imp_self, reduceCtorEq, not_true_eq_false, not_false_eq_true, false_imp_iff, true_imp_iff, implies_true, hLS, h16, h18, nj_clamp (show D.length < 2147483648 by omega), nj_clamp (show a < 2147483648 by omega), ex, nj_le (show L.length < 2147483648 by omega) (show D.length < 2147483648 by omega)]
    refine ⟨fun b => absurd b (by omega), fun _ => ⟨nj_in (by omega) (by omega), fun hx => ?_, fun hx => ?_⟩⟩
    · have hx2 : ¬ x < 200 := Int32.not_lt.mpr hx
      rw [if_neg hx2] at hok hl hQ
      have hal : a < ns.length := by have := hok.1; rw [List.length_drop] at this; omega
      have ev : (ns.drop a).getD 0 0 = ns.getD a 0 := by rw [getD_drop, Nat.add_zero]
      have et : (ns.drop a).tail = ns.drop (a + 1) := by rw [List.tail_drop]
      rw [ev, et] at hok hl hQ
      rw [hni a hal]
      unfold wX9_pour_89 wX9_pour_64 wX9_pour_92 wX9_pour_95
      rw [nj_succ, nj_succ]
      refine ⟨fun h4 => ⟨nj_in (by omega) (by omega), fun h3 => ⟨fn_14 hF, fk_14 hF, ?_⟩, fun h3 => ⟨fn_14 hF, fk_14 hF, ?_⟩⟩, fun h4 => ⟨nj_in (by omega) (by omega), fun h1 => ⟨fn_14 hF, fk_14 hF, ?_⟩, fun h1 => ⟨fn_14 hF, fk_14 hF, ?_⟩⟩⟩
      · rw [if_neg h4, if_neg h3, List.length_append] at hl
        rw [if_neg h4, if_neg h3] at hQ
        have hb := hok.2.1 h4
        rw [if_neg h3] at hb
        refine q_putDigits1 hb.1 hb.2 h (by omega) (fun S2 h2 _ => hgo (a + 1) _ S2 (by omega) hok.2.2 h2 (by rw [List.length_append]; omega) ?_)
        rw [List.append_assoc]
        exact hQ
      · rw [if_neg h4, if_pos h3, List.length_append] at hl
        rw [if_neg h4, if_pos h3] at hQ
        have hb := hok.2.1 h4
        rw [if_pos h3] at hb
        have e3 : (d3 (ns.getD a 0)).length = 3 := rfl
        refine q_putDigits3 hb.1 hb.2 h (by omega) (fun S2 h2 _ => hgo (a + 1) _ S2 (by omega) hok.2.2 h2 (by rw [List.length_append]; omega) ?_)
        rw [List.append_assoc]
        exact hQ
      · rw [if_pos h4, if_neg h1, List.length_cons] at hl
        rw [if_pos h4, if_neg h1] at hQ
        refine q_put h (by omega) (fun S2 h2 _ => hgo (a + 1) _ S2 (by omega) hok.2.2 h2 (by simp only [List.length_append, List.length_cons, List.length_nil]; omega) ?_)
        rw [List.append_assoc]
        exact hQ
      · rw [if_pos h4, if_pos h1, List.length_cons] at hl
        rw [if_pos h4, if_pos h1] at hQ
        refine q_put h (by omega) (fun S2 h2 _ => hgo (a + 1) _ S2 (by omega) hok.2.2 h2 (by simp only [List.length_append, List.length_cons, List.length_nil]; omega) ?_)
        rw [List.append_assoc]
        exact hQ
    · have hx2 : x < 200 := Int32.not_le.mp hx
      rw [if_pos hx2] at hok hl hQ
      rw [List.length_cons] at hl
      unfold wX9_pour_95
      rw [nj_succ]
      refine q_put h (by omega) (fun S2 h2 _ => hgo a _ S2 ha hok h2 (by simp only [List.length_append, List.length_cons, List.length_nil]; omega) ?_)
      rw [List.append_assoc]
      exact hQ
theorem q_pour {S1 : GS} {L ns : List Int32} {Q : GS → Prop} (hF1 : Fix S1) (hL : gX S1 14 3 = nI L.length) (hL80 : L.length ≤ 80) (hLi : ∀ i, i < L.length → gX S1 16 i = L.getD i 0) (hn16 : ns.length ≤ 16) (hni : ∀ i, i < ns.length → gX S1 18 i = ns.getD i 0) (hok : okN L ns) (hl : (prL L ns).length ≤ 80) (hQ : ∀ S2, Ou S1 S2 (prL L ns) → Q S2) : wX9_pour S1 14 Q := by
  refine ⟨fn_14 hF1, fk_14 hF1, fun S2 e2 => ⟨L.length + 1, ?_⟩⟩
  have h2 : Ou S1 S2 [] := by
    subst e2
    refine ⟨hF1, (Ag.rf _ _).x _ _ _ (Or.inr ⟨rfl, rfl⟩), ?_, by decide, fun i hi => absurd hi (by simp)⟩
    simp only [x_sX, and_self, if_true]
    rfl
  exact q_pour9 hF1 hL hL80 hLi hn16 hni L [] [] 0 S2 rfl (Nat.zero_le _) hok h2 (by simpa using hl) (fun S3 h3 => hQ S3 (by simpa using h3))
/-- the numbers of a line -/
def nsL (s : Nat) (nm t a b c tk : Int32) : List Int32 := gpL t ++ ([nm] ++ ((if s = 1 ∨ s = 2 ∨ s = 3 then gsL a ++ gsL b else []) ++ ((if s = 1 then gsL c else []) ++ (if s = 1 ∨ s = 5 then gpL tk else []))))
def pW (k j : Nat) : Prop := k = 17 ∨ k = 18 ∨ (k = 14 ∧ (j = 5 ∨ j = 7))
/-- the text L is poured: S2 is S1 but for numbers and out -/
def Po (S1 S2 : GS) (L : List Int32) : Prop := Ag pW S1 S2 ∧ gX S2 14 5 = nI L.length ∧ L.length ≤ 80 ∧ ∀ i, i < L.length → gX S2 17 i = L.getD i 0
theorem q_pourNumbers {S1 : GS} {s : Nat} {nm t a b c tk : Int32} {L : List Int32} {Q : GS → Prop} (hF1 : Fix S1) (hs : s ≤ 6) (hL : gX S1 14 3 = nI L.length) (hL80 : L.length ≤ 80) (hLi : ∀ i, i < L.length → gX S1 16 i = L.getD i 0) (hok : okN L (nsL s nm t a b c tk)) (hl : (prL L (nsL s nm t a b c tk)).length ≤ 80) (hQ : ∀ S2, Po S1 S2 (prL L (nsL s nm t a b c tk)) → Q S2) : wX9_pourNumbers S1 14 (nI s) nm t a b c tk Q := by
  have h67 : ∀ S, Gi S1 S (nsL s nm t a b c tk) → wX9_pourNumbers_67 Q 14 S := by
    intro S h
    have hF := h.fix
    have hlen : (nsL s nm t a b c tk).length ≤ 16 := by
      simp only [nsL, List.length_append, gpL, List.length_cons, List.length_nil]
      have h1 : (if s = 1 ∨ s = 2 ∨ s = 3 then gsL a ++ gsL b else []).length ≤ 4 := by split <;> simp [gsL_len]
      have h2 : (if s = 1 then gsL c else []).length ≤ 2 := by split <;> simp [gsL_len]
      have h3 : (if s = 1 ∨ s = 5 then [tk / 1000, tk - tk / 1000 * 1000] else []).length ≤ 2 := by split <;> simp
      omega
    refine ⟨fn_14 hF, fk_14 hF, q_pour hF ?_ hL80 ?_ hlen h.2.2.2 hok hl (fun S2 h2 _ => hQ S2 ⟨?_, h2.2.2.1, h2.2.2.2.1, h2.2.2.2.2⟩)⟩
    · rw [h.2.1.X 14 3 (by unfold pG; omega)]; exact hL
    · intro i hi
      rw [h.2.1.X 16 i (by unfold pG; omega)]; exact hLi i hi
    · exact (h.2.1.mono (by intro k j; unfold pG pW; omega)).tr (h2.2.1.mono (by intro k j; unfold pO pW; omega))
  have e1 := sI_eq hs 1 (by decide)
  have e5 := sI_eq hs 5 (by decide)
  have h51 : ∀ S pre, Gi S1 S pre → pre.length ≤ 9 → pre ++ (if s = 1 ∨ s = 5 then gpL tk else []) = nsL s nm t a b c tk → wX9_pourNumbers_51 Q 14 (nI s) tk S := by
    intro S pre h hpl e
    have h61 : (s = 1 ∨ s = 5) → wX9_pourNumbers_61 Q 14 tk S := by
      intro hs5
      rw [if_pos hs5] at e
      exact ⟨fn_14 h.fix, fk_14 h.fix, q_giveParts h (by omega) (fun S2 h2 _ => h67 S2 (h2.eq e))⟩
    refine ⟨fun x => h61 (Or.inl (e1.mp x)), fun x => ⟨fun y => h67 S (h.eq ?_), fun y => h61 (Or.inr (e5.mp y))⟩⟩
    rw [if_neg, List.append_nil] at e
    · exact e
    · intro z
      rcases z with z | z
      · exact x (e1.mpr z)
      · exact y (e5.mpr z)
  have h39 : ∀ S pre, Gi S1 S pre → pre.length ≤ 7 → pre ++ ((if s = 1 then gsL c else []) ++ (if s = 1 ∨ s = 5 then gpL tk else [])) = nsL s nm t a b c tk → wX9_pourNumbers_39 Q 14 (nI s) c tk (nI (mSizes s)) S := by
    intro S pre h hpl e
    have em : nI (mSizes s) = 3 ↔ s = 1 := by
      have : s = 0 ∨ s = 1 ∨ s = 2 ∨ s = 3 ∨ s = 4 ∨ s = 5 ∨ s = 6 := by omega
      rcases this with x | x | x | x | x | x | x <;> subst x <;> decide
    refine ⟨fun x => h51 S pre h (by omega) ?_, fun x => ⟨fn_14 h.fix, fk_14 h.fix, q_giveSize h (by omega) (fun S2 h2 _ => h51 S2 _ h2 (by rw [List.length_append, gsL_len]; omega) ?_)⟩⟩
    · rw [if_neg (fun z => x (em.mpr z)), List.nil_append] at e
      exact e
    · rw [if_pos (em.mp x)] at e
      rw [List.append_assoc]
      exact e
  refine ⟨fn_14 hF1, fk_14 hF1, fun S21 e21 => ?_⟩
  have h21 : Gi S1 S21 [] := by
    subst e21
    refine ⟨hF1, (Ag.rf _ _).x _ _ _ (Or.inr ⟨rfl, rfl⟩), ?_, fun i hi => absurd hi (by simp)⟩
    simp only [x_sX, and_self, if_true]
    rfl
  refine q_giveParts h21 (by decide) (fun S24 h24 _ => q_give h24 (by simp [gpL]) (fun S28 h28 _ => q_sizesOf hs (fun _ => ?_)))
  have em : nI (mSizes s) < 2 ↔ ¬ (s = 1 ∨ s = 2 ∨ s = 3) := by
    have : s = 0 ∨ s = 1 ∨ s = 2 ∨ s = 3 ∨ s = 4 ∨ s = 5 ∨ s = 6 := by omega
    rcases this with x | x | x | x | x | x | x <;> subst x <;> decide
  refine ⟨fun x => h39 S28 _ h28 (by simp [gpL]) ?_, fun x => q_giveSize h28 (by simp [gpL]) (fun S36 h36 _ => q_giveSize h36 (by rw [List.length_append, gsL_len]; simp [gpL]) (fun S40 h40 _ => h39 S40 _ h40 (by simp [gsL_len, gpL]) ?_))⟩
  · unfold nsL
    rw [if_neg (em.mp x)]
    simp
  · unfold nsL
    rw [if_pos (Classical.not_not.mp (fun z => x (em.mpr z)))]
    simp
