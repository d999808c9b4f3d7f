/-! THE REFERENCE MAKES A MOULD. -/
def pM (k j : Nat) : Prop := k = 16 ∨ (k = 14 ∧ j = 3)
/-- S is S0 but for the mould, which is L -/
def Mo (S0 S : GS) (L : List Int32) : Prop := Fix S0 ∧ Ag pM S0 S ∧ gX S 14 3 = nI L.length ∧ L.length ≤ 80 ∧ ∀ i, i < L.length → gX S 16 i = L.getD i 0
theorem Mo.fix {S0 S : GS} {L : List Int32} (h : Mo S0 S L) : Fix S := h.1.ag h.2.1
theorem Mo.eq {S0 S : GS} {L L' : List Int32} (h : Mo S0 S L) (e : L = L') : Mo S0 S L' := e ▸ h
theorem q_el {S0 S : GS} {L : List Int32} {x : Int32} {Q : GS → Prop} (h : Mo S0 S L) (hl : L.length < 80) (hQ : ∀ S2, Mo S0 S2 (L ++ [x]) → Q S2) : wX9_element S 14 x Q := by
  have hF := h.fix
  obtain ⟨h0, ha, hm, _, hi⟩ := h
  unfold wX9_element
  simp only [fn_14 hF, fk_14 hF, fn_15 hF, fk_15 hF, fn_16 hF, fk_16 hF, fn_17 hF, fk_17 hF, fn_18 hF, fk_18 hF, fn_19 hF, fk_19 hF, fn_20 hF, fk_20 hF, fn_21 hF, fk_21 hF, fn_22 hF, fk_22 hF, fn_23 hF, fk_23 hF, fn_24 hF, fk_24 hF, fn_25 hF, fk_25 hF, fn_26 hF, fk_26 hF, fn_27 hF, fk_27 hF, fn_28 hF, fk_28 hF, fn_29 hF, fk_29 hF, fn_30 hF, fk_30 hF, fn_31 hF, fk_31 hF, fn_32 hF, fk_32 hF, fn_33 hF, fk_33 hF, fn_34 hF, fk_34 hF, fn_35 hF, fk_35 hF, fn_36 hF, fk_36 hF, fl_15 hF, fl_16 hF, fl_17 hF, fl_18 hF, fl_19 hF, fl_20 hF, fl_21 hF, fl_22 hF, fl_23 hF, fl_24 hF, fl_25 hF, fl_26 hF, fl_27 hF, fl_28 hF, fl_29 hF, fl_30 hF, fl_31 hF, fl_32 hF, fl_33 hF, fl_34 hF, fl_35 hF, fl_36 hF, fr_14_0 hF, fr_14_2 hF, fr_14_4 hF, fr_14_6 hF, fr_14_8 hF, fr_14_9 hF, fr_14_10 hF, fr_14_11 hF, fr_14_12 hF, fr_14_13 hF, fr_14_14 hF, fr_14_15 hF, fr_14_16 hF, fr_14_17 hF, fr_14_18 hF, fr_14_21 hF, fr_14_22 hF, fr_14_23 hF, fr_14_24 hF, fr_14_26 hF, fr_14_27 hF, fr_14_28 hF, n_sX, k_sX, l_sX, x_sX, z_sX, r_sX, f_sX, n_sZ, k_sZ, l_sZ, x_sZ, z_sZ, r_sZ, f_sZ, n_sR, k_sR, l_sR, x_sR, z_sR, r_sR, f_sR, n_sF, k_sF, l_sF, x_sF, z_sF, r_sF, f_sF, Nat.reduceEqDiff, true_and, and_true, false_and, and_false, and_self, if_true, if_false, reduceIte, exists_eq_left, exists_eq_left', Option.some.injEq, forall_eq, forall_const, imp_self, reduceCtorEq, not_true_eq_false, not_false_eq_true, false_imp_iff, true_imp_iff, implies_true, hm, nj_clamp (show L.length < 2147483648 by omega), nj_succ]
  refine ⟨nj_in hl (by omega), hQ _ ⟨h0, ?_, ?_, ?_, ?_⟩⟩
  · exact (ha.x _ _ _ (Or.inl rfl)).x _ _ _ (Or.inr ⟨rfl, rfl⟩)
  · simp only [x_sX, and_self, if_true, List.length_append, List.length_cons, List.length_nil]
  · simp only [List.length_append, List.length_cons, List.length_nil]; omega
  · intro i hi2
    simp only [List.length_append, List.length_cons, List.length_nil] at hi2
    simp only [x_sX, n_sX, k_sX, l_sX, x_sX, z_sX, r_sX, f_sX, n_sZ, k_sZ, l_sZ, x_sZ, z_sZ, r_sZ, f_sZ, n_sR, k_sR, l_sR, x_sR, z_sR, r_sR, f_sR, n_sF, k_sF, l_sF, x_sF, z_sF, r_sF, f_sF, Nat.reduceEqDiff, true_and, and_true, false_and, and_false, and_self, if_true, if_false, reduceIte, exists_eq_left, exists_eq_left', Option.some.injEq, forall_eq, forall_const, imp_self, reduceCtorEq, not_true_eq_false, not_false_eq_true, false_imp_iff, true_imp_iff, implies_true]
    by_cases e : i = L.length
    · subst e
      simp
    · rw [if_neg e, hi i (by omega)]
      simp only [List.getD_eq_getElem?_getD]
      rw [List.getElem?_append_left (by omega)]
def xs (m : Nat) : Int32 := if m = 0 then -8 else nI (8 * (m - 1))
theorem xs_dec : ∀ m, m < 8 → ¬ xs (m + 1) < 0 ∧ xs (m + 1) + (-8) = xs m := by decide
def by8 (w : Int64) (x3 : Int32) : Int32 := (Int64.toInt32 (UInt64.toInt64 ((Int64.toUInt64 w) >>> ((Int64.toUInt64 (Int32.toInt64 x3)) &&& Int64.toUInt64 63)))) &&& 255
def byL (w : Int64) : Nat → List Int32
  | 0 => []
  | m + 1 => (if by8 w (xs (m + 1)) = 0 then [] else [by8 w (xs (m + 1))]) ++ byL w m
theorem q_lit_3 {S0 : GS} {Q : GS → Prop} (w : Int64) : ∀ m, m ≤ 8 → ∀ (S : GS) (L : List Int32), Mo S0 S L → L.length + m ≤ 80 → (∀ S2, Mo S0 S2 (L ++ byL w m) → Q S2) → wX9_literal_3 Q 14 (m + 1) w (xs m) S := by
  intro m
  induction m with
  | zero =>
    intro _ S L h _ hQ
    unfold wX9_literal_3
    refine ⟨fun _ => hQ S (by simpa [byL] using h), fun hh => absurd (by decide) hh⟩
  | succ m ih =>
    intro hm S L h hl hQ
    have hF := h.fix
    have hd := xs_dec m (by omega)
    unfold wX9_literal_3
    refine ⟨fun hh => absurd hh hd.1, fun _ => ⟨fun hz => ?_, fun hz => ⟨fn_14 hF, fk_14 hF, ?_⟩⟩⟩
    · have hz : by8 w (xs (m + 1)) = 0 := hz
      unfold wX9_literal_28
      rw [hd.2]
      refine ih (by omega) S L h (by omega) (fun S2 h2 => hQ S2 ?_)
      simpa [byL, hz] using h2
    · have hz : ¬ by8 w (xs (m + 1)) = 0 := hz
      refine q_el h (by omega) (fun S3 h3 _ => ?_)
      unfold wX9_literal_28
      rw [hd.2]
      refine ih (by omega) S3 _ h3 ?_ (fun S2 h2 => hQ S2 ?_)
      · simp only [List.length_append, List.length_cons, List.length_nil]; omega
      · rw [byL, if_neg hz]
        rw [List.append_assoc] at h2
        exact h2
theorem q_lit {S0 S : GS} {L : List Int32} {w : Int64} {Q : GS → Prop} (bs : List Int32) (hb : byL w 8 = bs) (h : Mo S0 S L) (hl : L.length + 8 ≤ 80) (hQ : ∀ S2, Mo S0 S2 (L ++ bs) → Q S2) : wX9_literal S 14 w Q := by
  have e : (56 : Int32) = xs 8 := by decide
  refine ⟨9, ?_⟩
  rw [e]
  refine q_lit_3 w 8 (Nat.le_refl _) S L h hl ?_
  rw [hb]
  exact hQ
theorem q_sz {S0 S : GS} {L : List Int32} {Q : GS → Prop} (h : Mo S0 S L) (hl : L.length + 2 ≤ 80) (hQ : ∀ S2, Mo S0 S2 (L ++ mSz) → Q S2) : wX9_sizeElements S 14 Q := by
  have hF := h.fix
  refine ⟨fn_14 hF, fk_14 hF, q_el h (by omega) (fun S2 h2 _ => q_el h2 (by simp; omega) (fun S3 h3 _ => hQ S3 (h3.eq (by simp [mSz]))))⟩
theorem q_tk {S0 S : GS} {L : List Int32} {Q : GS → Prop} (h : Mo S0 S L) (hl : L.length + 16 ≤ 80) (hQ : ∀ S2, Mo S0 S2 (L ++ mTk) → Q S2) : wX9_tookElements S 14 Q := by
  have hF := h.fix
  refine ⟨fn_14 hF, fk_14 hF, q_el h (by omega) (fun S2 h2 _ => q_el h2 (by simp; omega) (fun S3 h3 _ => q_el h3 (by simp; omega) (fun S4 h4 _ => q_lit [109, 115] (by decide +kernel) h4 (by simp; omega) (fun S5 h5 _ => hQ S5 (h5.eq (by simp [mTk]))))))⟩
theorem q_ar {S0 S : GS} {L : List Int32} {Q : GS → Prop} (h : Mo S0 S L) (hl : L.length + 16 ≤ 80) (hQ : ∀ S2, Mo S0 S2 (L ++ mAr) → Q S2) : wX9_arrow S 14 Q := by
  have hF := h.fix
  refine ⟨fn_14 hF, fk_14 hF, q_sz h (by omega) (fun S2 h2 _ => q_lit [45, 62] (by decide +kernel) h2 (by simp [mSz]; omega) (fun S3 h3 _ => q_sz h3 (by simp [mSz]; omega) (fun S4 h4 _ => hQ S4 (h4.eq (by simp [mAr, mSz])))))⟩
theorem q_pe67 {S0 S : GS} {L : List Int32} {Q : GS → Prop} {w : Int64} (bs : List Int32) (hb : byL w 8 = bs) (h : Mo S0 S L) (hl : L.length + 16 ≤ 80) (hbl : bs.length ≤ 8) (hQ : ∀ S2, Mo S0 S2 (L ++ (bs ++ [41])) → Q S2) : wX9_pauseElements_67 Q 14 14 w S := by
  have hF := h.fix
  refine ⟨fn_14 hF, fk_14 hF, q_lit bs hb h (by omega) (fun S2 h2 _ => ⟨fn_14 h2.fix, fk_14 h2.fix, q_el h2 (by simp; omega) (fun S3 h3 _ => hQ S3 (h3.eq (by simp)))⟩)⟩
theorem q_pe32 {S0 S : GS} {L : List Int32} {Q : GS → Prop} {w : Int64} {c : Nat} (hc : c ≤ 2) (bs : List Int32) (hb : byL w 8 = bs) (h : Mo S0 S L) (hl : L.length + 40 ≤ 80) (hbl : bs.length ≤ 8) (hQ : ∀ S2, Mo S0 S2 (L ++ (bs ++ ([32, 40] ++ (mC c ++ [41])))) → Q S2) : wX9_pauseElements_32 Q 14 (nI c) 14 w S := by
  have hF := h.fix
  refine ⟨fn_14 hF, fk_14 hF, q_lit bs hb h (by omega) (fun S2 h2 _ => ⟨fn_14 h2.fix, fk_14 h2.fix, q_lit [32, 40] (by decide +kernel) h2 (by simp; omega) (fun S3 h3 _ => ?_)⟩)⟩
  have hc3 : c = 0 ∨ c = 1 ∨ c = 2 := by omega
  rcases hc3 with e | e | e <;> subst e
  · refine ⟨fun hh => absurd (by decide) hh, fun _ => ?_⟩
    exact q_pe67 [65, 108, 108, 111, 99] (by decide +kernel) h3 (by simp; omega) (by decide) (fun S4 h4 => hQ S4 (h4.eq (by simp [mC])))
  · refine ⟨fun _ => ⟨fun hh => absurd (by decide) hh, fun _ => ?_⟩, fun hh => absurd hh (by decide)⟩
    exact q_pe67 [77, 101, 116, 97] (by decide +kernel) h3 (by simp; omega) (by decide) (fun S4 h4 => hQ S4 (h4.eq (by simp [mC])))
  · refine ⟨fun _ => ⟨fun _ => ?_, fun hh => absurd hh (by decide)⟩, fun hh => absurd hh (by decide)⟩
    exact q_pe67 [85, 115, 101, 114] (by decide +kernel) h3 (by simp; omega) (by decide) (fun S4 h4 => hQ S4 (h4.eq (by simp [mC])))
theorem q_pauseElements {S0 S : GS} {L : List Int32} {Q : GS → Prop} {k c : Nat} (hk : k ≤ 2) (hc : c ≤ 2) (h : Mo S0 S L) (hl : L.length + 50 ≤ 80) (hQ : ∀ S2, Mo S0 S2 (L ++ mP k c) → Q S2) : wX9_pauseElements S 14 (nI k) (nI c) Q := by
  have hF := h.fix
  refine ⟨fn_14 hF, fk_14 hF, q_lit mW (by decide +kernel) h (by omega) (fun S2 h2 _ => ?_)⟩
  have hk3 : k = 0 ∨ k = 1 ∨ k = 2 := by omega
  rcases hk3 with e | e | e <;> subst e
  · refine ⟨fun hh => absurd (by decide) hh, fun _ => ?_⟩
    exact q_pe32 hc (mK 0) (by decide +kernel) h2 (by simp [mW]; omega) (by decide) (fun S4 h4 => hQ S4 (h4.eq (by simp [mP])))
  · refine ⟨fun _ => ⟨fun hh => absurd (by decide) hh, fun _ => ?_⟩, fun hh => absurd hh (by decide)⟩
    exact q_pe32 hc (mK 1) (by decide +kernel) h2 (by simp [mW]; omega) (by decide) (fun S4 h4 => hQ S4 (h4.eq (by simp [mP])))
  · refine ⟨fun _ => ⟨fun _ => ?_, fun hh => absurd hh (by decide)⟩, fun hh => absurd hh (by decide)⟩
    exact q_pe32 hc (mK 2) (by decide +kernel) h2 (by simp [mW]; omega) (by decide) (fun S4 h4 => hQ S4 (h4.eq (by simp [mP])))
def t164 (s : Nat) : List Int32 := if s = 6 then 32 :: mA else []
def t149 (s : Nat) : List Int32 := (if s = 5 then 32 :: mTk else []) ++ t164 s
def t137 (s : Nat) : List Int32 := (if s < 4 then [] else mM) ++ t149 s
def t123 (s : Nat) : List Int32 := (if s = 2 ∨ s = 3 then mAr else []) ++ t137 s
def t111 (s : Nat) : List Int32 := (if s = 3 then [79, 108, 100, 32] else []) ++ t123 s
def t99 (s : Nat) : List Int32 := (if s = 2 then [69, 100, 101, 110, 32] else []) ++ t111 s
def t63 (s : Nat) : List Int32 := (if s = 1 then mE else []) ++ t99 s
theorem sI_eq {s : Nat} (h : s ≤ 6) (k : Nat) (hk : k < 2147483648) : nI s = nI k ↔ s = k := nj_eq (by omega) hk
theorem q_mm164 {S0 S : GS} {L : List Int32} {Q : GS → Prop} {s : Nat} (hs : s ≤ 6) (h : Mo S0 S L) (hl : L.length + 8 ≤ 80) (hQ : ∀ S2, Mo S0 S2 (L ++ t164 s) → Q S2) : wX9_makeMould_164 Q 14 (nI s) S := by
  have e6 := sI_eq hs 6 (by decide)
  refine ⟨fun hh => ?_, fun hh => ⟨fn_14 h.fix, fk_14 h.fix, ?_⟩⟩
  · exact hQ S (h.eq (by rw [t164, if_neg (fun a => hh (e6.mpr a)), List.append_nil]))
  · exact q_lit (32 :: mA) (by decide +kernel) h (by omega) (fun S2 h2 _ => hQ S2 (h2.eq (by rw [t164, if_pos (e6.mp hh)])))
theorem q_mm149 {S0 S : GS} {L : List Int32} {Q : GS → Prop} {s : Nat} (hs : s ≤ 6) (h : Mo S0 S L) (hl : L.length + 25 ≤ 80) (hQ : ∀ S2, Mo S0 S2 (L ++ t149 s) → Q S2) : wX9_makeMould_149 Q 14 (nI s) S := by
  have e5 := sI_eq hs 5 (by decide)
  refine ⟨fun hh => ?_, fun hh => ⟨fn_14 h.fix, fk_14 h.fix, ?_⟩⟩
  · exact q_mm164 hs h (by omega) (fun S2 h2 => hQ S2 (h2.eq (by rw [t149, if_neg (fun a => hh (e5.mpr a)), List.nil_append])))
  · refine q_el h (by omega) (fun S2 h2 _ => q_tk h2 (by simp; omega) (fun S3 h3 _ => q_mm164 hs h3 (by simp [mTk]; omega) (fun S4 h4 => hQ S4 (h4.eq ?_))))
    rw [t149, if_pos (e5.mp hh)]
    simp
theorem q_mm137 {S0 S : GS} {L : List Int32} {Q : GS → Prop} {s : Nat} (hs : s ≤ 6) (h : Mo S0 S L) (hl : L.length + 30 ≤ 80) (hQ : ∀ S2, Mo S0 S2 (L ++ t137 s) → Q S2) : wX9_makeMould_137 Q 14 (nI s) S := by
  have e4 : nI s < 4 ↔ s < 4 := nj_lt (b := 4) (by omega) (by decide)
  refine ⟨fun hh => ?_, fun hh => ⟨fn_14 h.fix, fk_14 h.fix, ?_⟩⟩
  · exact q_mm149 hs h (by omega) (fun S2 h2 => hQ S2 (h2.eq (by rw [t137, if_pos (e4.mp hh), List.nil_append])))
  · refine q_lit mM (by decide +kernel) h (by omega) (fun S2 h2 _ => q_mm149 hs h2 (by simp [mM]; omega) (fun S3 h3 => hQ S3 (h3.eq ?_)))
    rw [t137, if_neg (fun a => hh (e4.mpr a))]
    simp
theorem q_mm123 {S0 S : GS} {L : List Int32} {Q : GS → Prop} {s : Nat} (hs : s ≤ 6) (h : Mo S0 S L) (hl : L.length + 40 ≤ 80) (hQ : ∀ S2, Mo S0 S2 (L ++ t123 s) → Q S2) : wX9_makeMould_123 Q 14 (nI s) S := by
  have e2 := sI_eq hs 2 (by decide)
  have e3 := sI_eq hs 3 (by decide)
  have h133 : (s = 2 ∨ s = 3) → wX9_makeMould_133 Q 14 (nI s) S := by
    intro hh
    refine ⟨fn_14 h.fix, fk_14 h.fix, q_ar h (by omega) (fun S2 h2 _ => q_mm137 hs h2 (by simp [mAr, mSz]; omega) (fun S3 h3 => hQ S3 (h3.eq ?_)))⟩
    rw [t123, if_pos hh]
    simp
  refine ⟨fun hh => h133 (Or.inl (e2.mp hh)), fun hh => ⟨fun hh3 => ?_, fun hh3 => h133 (Or.inr (e3.mp hh3))⟩⟩
  refine q_mm137 hs h (by omega) (fun S2 h2 => hQ S2 (h2.eq ?_))
  rw [t123, if_neg, List.nil_append]
  intro a
  rcases a with a | a
  · exact hh (e2.mpr a)
  · exact hh3 (e3.mpr a)
theorem q_mm111 {S0 S : GS} {L : List Int32} {Q : GS → Prop} {s : Nat} (hs : s ≤ 6) (h : Mo S0 S L) (hl : L.length + 45 ≤ 80) (hQ : ∀ S2, Mo S0 S2 (L ++ t111 s) → Q S2) : wX9_makeMould_111 Q 14 (nI s) S := by
  have e3 := sI_eq hs 3 (by decide)
  refine ⟨fun hh => ?_, fun hh => ⟨fn_14 h.fix, fk_14 h.fix, ?_⟩⟩
  · exact q_mm123 hs h (by omega) (fun S2 h2 => hQ S2 (h2.eq (by rw [t111, if_neg (fun a => hh (e3.mpr a)), List.nil_append])))
  · refine q_lit [79, 108, 100, 32] (by decide +kernel) h (by omega) (fun S2 h2 _ => q_mm123 hs h2 (by simp; omega) (fun S3 h3 => hQ S3 (h3.eq ?_)))
    rw [t111, if_pos (e3.mp hh)]
    simp
theorem q_mm99 {S0 S : GS} {L : List Int32} {Q : GS → Prop} {s : Nat} (hs : s ≤ 6) (h : Mo S0 S L) (hl : L.length + 50 ≤ 80 ∨ (s = 1 ∧ L.length ≤ 72)) (hQ : ∀ S2, Mo S0 S2 (L ++ t99 s) → Q S2) : wX9_makeMould_99 Q 14 (nI s) S := by
  rcases hl with hl | ⟨e1, hl⟩
  · have e2 := sI_eq hs 2 (by decide)
    refine ⟨fun hh => ?_, fun hh => ⟨fn_14 h.fix, fk_14 h.fix, ?_⟩⟩
    · exact q_mm111 hs h (by omega) (fun S2 h2 => hQ S2 (h2.eq (by rw [t99, if_neg (fun a => hh (e2.mpr a)), List.nil_append])))
    · refine q_lit [69, 100, 101, 110, 32] (by decide +kernel) h (by omega) (fun S2 h2 _ => q_mm111 hs h2 (by simp; omega) (fun S3 h3 => hQ S3 (h3.eq ?_)))
      rw [t99, if_pos (e2.mp hh)]
      simp
  · subst e1
    have hq : Q S := hQ S (h.eq (by simp [t99, t111, t123, t137, t149, t164]))
    unfold wX9_makeMould_99 wX9_makeMould_111 wX9_makeMould_123 wX9_makeMould_137 wX9_makeMould_149 wX9_makeMould_164 wX9_makeMould_177
    refine ⟨fun _ => ⟨fun _ => ⟨fun hh => absurd hh (by decide), fun _ => ⟨fun _ => ⟨fun _ => ⟨fun _ => ⟨fun _ => hq, fun hh => absurd hh (by decide)⟩, fun hh => absurd hh (by decide)⟩, fun hh => absurd (by decide) hh⟩, fun hh => absurd hh (by decide)⟩⟩, fun hh => absurd hh (by decide)⟩, fun hh => absurd hh (by decide)⟩
theorem q_mm63 {S0 S : GS} {L : List Int32} {Q : GS → Prop} {s : Nat} (hs : s ≤ 6) (h : Mo S0 S L) (hl : L.length ≤ 30 ∨ (s ≤ 1 ∧ L.length ≤ 32)) (hQ : ∀ S2, Mo S0 S2 (L ++ t63 s) → Q S2) : wX9_makeMould_63 Q 14 (nI s) S := by
  have e1 := sI_eq hs 1 (by decide)
  refine ⟨fun hh => ?_, fun hh => ⟨fn_14 h.fix, fk_14 h.fix, ?_⟩⟩
  · have hn : ¬ s = 1 := fun a => hh (e1.mpr a)
    have hq : ∀ S2, Mo S0 S2 (L ++ t99 s) → Q S2 := fun S2 h2 => hQ S2 (h2.eq (by rw [t63, if_neg hn, List.nil_append]))
    rcases hl with hl | ⟨hs1, hl⟩
    · exact q_mm99 hs h (Or.inl (by omega)) hq
    · have e0 : s = 0 := by omega
      subst e0
      have hq : Q S := hq S (h.eq (by simp [t99, t111, t123, t137, t149, t164]))
      unfold wX9_makeMould_99 wX9_makeMould_111 wX9_makeMould_123 wX9_makeMould_137 wX9_makeMould_149 wX9_makeMould_164 wX9_makeMould_177
      refine ⟨fun _ => ⟨fun _ => ⟨fun hh => absurd hh (by decide), fun _ => ⟨fun _ => ⟨fun _ => ⟨fun _ => ⟨fun _ => hq, fun hh => absurd hh (by decide)⟩, fun hh => absurd hh (by decide)⟩, fun hh => absurd (by decide) hh⟩, fun hh => absurd hh (by decide)⟩⟩, fun hh => absurd hh (by decide)⟩, fun hh => absurd hh (by decide)⟩
  · have e : s = 1 := e1.mp hh
    have hl : L.length ≤ 32 := by rcases hl with hl | hl <;> omega
    refine q_el h (by omega) (fun S2 h2 _ => q_ar h2 (by simp; omega) (fun S3 h3 _ => q_el h3 (by simp [mAr, mSz]; omega) (fun S4 h4 _ => q_sz h4 (by simp [mAr, mSz]; omega) (fun S5 h5 _ => q_lit [41, 32] (by decide +kernel) h5 (by simp [mAr, mSz]; omega) (fun S6 h6 _ => q_tk h6 (by simp [mAr, mSz]; omega) (fun S7 h7 _ => q_mm99 hs h7 (Or.inr ⟨e, by simp [mAr, mSz, mTk]; omega⟩) (fun S8 h8 => hQ S8 (h8.eq ?_))))))))
    rw [t63, if_pos e]
    simp [mE]
theorem mP_len (k c : Nat) : (mP k c).length ≤ 19 := by
  have hk : (mK k).length ≤ 5 := by unfold mK; split <;> decide
  have hc : (mC c).length ≤ 5 := by unfold mC; split <;> decide
  simp only [mP, List.length_append]
  have : mW.length = 6 := rfl
  simp only [List.length_cons, List.length_nil]
  omega
theorem q_makeMould {S0 : GS} {Q : GS → Prop} {s k c : Nat} (hF : Fix S0) (hs : s ≤ 6) (hk : k ≤ 2) (hc : c ≤ 2) (hQ : ∀ S2, Mo S0 S2 (mld s k c) → Q S2) : wX9_makeMould S0 14 (nI s) (nI k) (nI c) Q := by
  refine ⟨fn_14 hF, fk_14 hF, fun S1 e1 => ?_⟩
  have h1 : Mo S0 S1 [] := by
    subst e1
    refine ⟨hF, (Ag.rf _ _).x _ _ _ (Or.inr ⟨rfl, rfl⟩), ?_, by decide, fun i hi => absurd hi (by simp)⟩
    simp only [x_sX, and_self, if_true]
    rfl
  refine q_el h1 (by decide) (fun S2 h2 _ => q_el h2 (by decide) (fun S3 h3 _ => q_el h3 (by decide) (fun S4 h4 _ => q_el h4 (by decide) (fun S5 h5 _ => q_lit [115, 93, 71, 67, 40] (by decide +kernel) h5 (by decide) (fun S6 h6 _ => q_el h6 (by decide) (fun S7 h7 _ => q_lit [41, 32] (by decide +kernel) h7 (by decide) (fun S8 h8 _ => ?_)))))))
  have h8 : Mo S0 S8 mH := h8
  have e2 : (1 : Int32) < nI s ↔ 1 < s := nj_lt (a := 1) (by decide) (by omega)
  refine ⟨fun hh => ?_, fun hh => ?_⟩
  · have hs1 := e2.mp hh
    refine q_mm63 hs h8 (Or.inl (by decide)) (fun S9 h9 => hQ S9 (h9.eq ?_))
    have : s = 2 ∨ s = 3 ∨ s = 4 ∨ s = 5 ∨ s = 6 := by omega
    rcases this with e | e | e | e | e <;> subst e <;> rfl
  · have hs1 : s ≤ 1 := by
      have : ¬ 1 < s := fun a => hh (e2.mpr a)
      omega
    have hl := mP_len k c
    refine q_pauseElements hk hc h8 (by decide) (fun S9 h9 _ => q_mm63 hs h9 (Or.inr ⟨hs1, ?_⟩) (fun S10 h10 => hQ S10 (h10.eq ?_)))
    · have : mH.length = 12 := rfl
      simp only [List.length_append, this]
      omega
    · have : s = 0 ∨ s = 1 := by omega
      rcases this with e | e <;> subst e
      · simp [mld, mT, t63, t99, t111, t123, t137, t149, t164]
      · simp [mld, mT, t63, t99, t111, t123, t137, t149, t164]
