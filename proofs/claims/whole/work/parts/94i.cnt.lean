/-! DIAGNOSTIC, THE SPAN, THE PAUSES. -/
theorem diagnostic_ok {S : GS} {cap n E P lg pl : Nat} {oP oM : Option Nat} {dP : Int32 × Int32} {x y : Int32} (h : Inw S cap n E P lg pl oP oM dP) (hcap : cap < 48) : wX8_diagnostic S 0 x y (fun r S1 => ∀ S1', Oa S1 S1' → wX9_diagnostic S1' 14 x y (fun b S2 => b = r ∧ Rq S1' S2 0 cap)) (fun X S1 => X = "java/lang/IndexOutOfBoundsException" ∧ ∀ S1', Oa S1 S1' → wX9_diagnostic S1' 14 x y (fun _ S2 => Rq S1' S2 1 cap)) := by
  obtain ⟨⟨hF, hcl⟩, i2, i3, i4, i5, i6, i7⟩ := id h
  have hP : P ≤ 96 := by have := i3.1; have := i3.2.2.1; omega
  have v2 : (2 : Int32).toInt = 2 := by decide
  have v12 : (12 : Int32).toInt = 12 := by decide
  obtain ⟨d29, d83, dk⟩ := i5
  have bad31 : ∀ S1', Oa S S1' → wX9_diagnostic_31 (fun _ S2 => Rq S1' S2 1 cap) 14 x y 14 S1' := by
    intro S1' ha
    have h1 := h.oa (by omega) ha
    have f1 := h1.1.1
    refine ⟨fn_14 f1, fk_14 f1, fun S3 e3 => ?_⟩
    have t3 : gX S3 14 32 = 1 := by rw [e3, x_sX, if_pos ⟨rfl, rfl⟩]
    rw [t3]
    refine ⟨by rw [e3]; exact fn_14 f1, by rw [e3]; exact fk_14 f1, fun z => absurd z (by decide), fun _ => ?_⟩
    rw [e3]
    exact rq_thr h1 hcap (by decide)
  have bad : ((x < 0 ∨ nI P ≤ x ∨ 12 ≤ x) ∨ ¬ (0 ≤ y.toInt ∧ y.toInt ≤ 2)) → ∀ S1', Oa S S1' → wX9_diagnostic S1' 14 x y (fun _ S2 => Rq S1' S2 1 cap) := by
    intro hb S1' ha
    have h1 := h.oa (by omega) ha
    have f1 := h1.1.1
    have d1 : gX S1' 14 29 = nI P := h1.2.2.2.2.1.1
    refine ⟨fun _ => bad31 S1' ha, fun z => ⟨fun _ => bad31 S1' ha, fun z2 => ⟨fn_14 f1, fk_14 f1, ?_⟩⟩⟩
    rw [d1]
    refine ⟨fun _ => bad31 S1' ha, fun z3 => q_tells (fun r => ?_) (fun r _ => ⟨fun _ => bad31 S1' ha, fun w => absurd rfl w⟩)⟩
    exfalso
    rw [v2] at r
    rcases hb with (w | w | w) | w
    · exact z w
    · exact z3 w
    · exact z2 w
    · exact w r
  unfold wX8_diagnostic wX8_diagnostic_20
  refine ⟨fn_0 hF, fk_0 hF, 8, fr_0_4 hF, fn_8 hF, fk_8 hF, ?_⟩
  -- has
  have hasno : (x < 0 ∨ nI P ≤ x ∨ 12 ≤ x) → ∀ Q : Int32 → GS → Prop, Q 0 S → wX0_has S 8 x Q := by
    intro hb Q hq
    refine ⟨fun _ => ⟨Or.inl rfl, hq⟩, fun z => ⟨fn_8 hF, fk_8 hF, ?_⟩⟩
    rw [d83]
    refine ⟨fun _ => ⟨Or.inl rfl, hq⟩, fun z2 => ⟨fun _ => ⟨Or.inl rfl, hq⟩, fun z3 => ?_⟩⟩
    exfalso
    rcases hb with w | w | w
    · exact z w
    · exact z2 w
    · exact z3 w
  have hasyes : ¬ (x < 0 ∨ nI P ≤ x ∨ 12 ≤ x) → ∀ Q : Int32 → GS → Prop, Q 1 S → wX0_has S 8 x Q := by
    intro hb Q hq
    refine ⟨fun w => absurd (Or.inl w) hb, fun z => ⟨fn_8 hF, fk_8 hF, ?_⟩⟩
    rw [d83]
    exact ⟨fun w => absurd (Or.inr (Or.inl w)) hb, fun z2 => ⟨fun w => absurd (Or.inr (Or.inr w)) hb, fun _ => ⟨Or.inr rfl, hq⟩⟩⟩
  by_cases hb : x < 0 ∨ nI P ≤ x ∨ 12 ≤ x
  · exact hasno hb _ (fun _ => ⟨fun _ => ⟨rfl, bad (Or.inl hb)⟩, fun w => absurd rfl w⟩)
  · refine hasyes hb _ (fun _ => ⟨fun w => absurd w (by decide), fun _ => ⟨fun z => ⟨rfl, bad (Or.inr (fun w => ?_))⟩, fun z => ⟨fun z2 => ⟨8, fr_0_4 hF, fn_8 hF, fk_8 hF, fn_8 hF, fk_8 hF, hasyes hb _ (fun _ => ⟨fun _ => ?_, fun w => absurd w (by decide)⟩)⟩, fun z2 => ⟨rfl, bad (Or.inr (fun w => ?_))⟩⟩⟩⟩)
    · have := le_of_lt32 z; rw [t0] at this; omega
    · have hx0 : 0 ≤ x.toInt := by have := le_32 (Int32.not_lt.mp (fun w => hb (Or.inl w))); rw [t0] at this; exact this
      have hx1 : x.toInt < P := by
        have := le_of_lt32 (Int32.not_le.mp (fun w => hb (Or.inr (Or.inl w))))
        rw [nj_int (by omega)] at this; exact this
      have hx2 : x.toInt < 12 := by
        have := le_of_lt32 (Int32.not_le.mp (fun w => hb (Or.inr (Or.inr w))))
        rw [v12] at this; exact this
      have hy0 : 0 ≤ y.toInt := by have := le_32 (Int32.not_lt.mp z); rw [t0] at this; exact this
      have hy2 : y.toInt ≤ 2 := by have := le_32 z2; rw [v2] at this; exact this
      obtain ⟨k, hk, hkP, ek⟩ : ∃ k : Nat, k < 12 ∧ k < P ∧ x = nI k := ⟨x.toInt.toNat, by omega, by omega, nj_of hx0⟩
      subst ek
      obtain ⟨a9, a10, a11⟩ := dk k hk hkP
      have hix : nI P - 1 - nI k = nI (P - 1 - k) := by
        have : nI P - nI 1 = nI (P - 1) := nj_sub (by omega)
        have e1 : (1 : Int32) = nI 1 := by decide
        rw [e1, this, nj_sub (by omega)]
      -- the reference gives the same
      have ref : ∀ (v : Int32), (y = 0 → v = gX S 34 (P - 1 - k)) → (y = 1 → v = gX S 35 (P - 1 - k) + 1) → (¬ y = 0 → ¬ y = 1 → v = gX S 36 (P - 1 - k)) → ∀ S1', Oa S S1' → wX9_diagnostic S1' 14 (nI k) y (fun b S2 => b = v ∧ Rq S1' S2 0 cap) := by
        intro v y0 y1 y2 S1' ha
        have h1 := h.oa (by omega) ha
        have f1 := h1.1.1
        have d1 : gX S1' 14 29 = nI P := h1.2.2.2.2.1.1
        refine ⟨fun w => absurd w (nj_nneg (by omega)), fun _ => ⟨fun w => absurd (Or.inr (Or.inr w)) hb, fun _ => ⟨fn_14 f1, fk_14 f1, ?_⟩⟩⟩
        rw [d1]
        refine ⟨fun w => absurd (Or.inr (Or.inl w)) hb, fun _ => q_tells (fun r _ => ⟨fun w => absurd w (by decide), fun _ => ⟨fn_14 f1, fk_14 f1, fun S3 e3 => ?_⟩⟩) (fun r => ?_)⟩
        · have t3 : gX S3 14 32 = 0 := by rw [e3, x_sX, if_pos ⟨rfl, rfl⟩]
          have f3 : Fix S3 := by rw [e3]; exact f1.x _ _ _
          have d3 : gX S3 14 29 = nI P := by rw [e3, x_sX, if_neg (by omega)]; exact d1
          have x3 : ∀ a j, a ≠ 14 → gX S3 a j = gX S a j := fun a j hj => by rw [e3]; exact thr_X ha 0 a j hj
          have hR : Rq S1' S3 0 cap := by rw [e3]; exact rq_thr h1 hcap (by decide)
          have hv := nj_in (n := 512) (show P - 1 - k < 512 by omega) (by omega)
          unfold wX9_diagnostic_88
          rw [t3, d3, hix]
          refine ⟨fn_14 f3, fk_14 f3, fun _ => ⟨fun w => ⟨fun w1 => ⟨36, fr_14_28 f3, fn_36 f3, fk_36 f3, by rw [fl_36 f3]; exact hv, ?_⟩, fun w1 => ⟨35, fr_14_27 f3, fn_35 f3, fk_35 f3, by rw [fl_35 f3]; exact hv, ?_⟩⟩, fun w => ⟨34, fr_14_26 f3, fn_34 f3, fk_34 f3, by rw [fl_34 f3]; exact hv, ?_⟩⟩, fun w => absurd rfl w⟩
          · rw [nj_clamp (by omega), x3 36 _ (by omega)]; exact ⟨(y2 w w1).symm, hR⟩
          · rw [nj_clamp (by omega), x3 35 _ (by omega)]; exact ⟨(y1 w1).symm, hR⟩
          · rw [nj_clamp (by omega), x3 34 _ (by omega)]; exact ⟨(y0 w).symm, hR⟩
        · exfalso
          apply r
          rw [v2]
          exact ⟨hy0, hy2⟩
      have hv := nj_in (n := 12) hk (by omega)
      unfold wX0_fact_43
      refine ⟨fun w => ⟨fun w1 => ⟨11, fr_8_2 hF, fn_11 hF, fk_11 hF, by rw [fl_11 hF]; exact hv, fun _ => ?_⟩, fun w1 => ⟨10, fr_8_1 hF, fn_10 hF, fk_10 hF, by rw [fl_10 hF]; exact hv, fun _ => ?_⟩⟩, fun w => ⟨9, fr_8_0 hF, fn_9 hF, fk_9 hF, by rw [fl_9 hF]; exact hv, fun _ => ?_⟩⟩
      · rw [nj_clamp (by omega)]
        exact ref _ (fun u => absurd u w) (fun u => absurd u w1) (fun _ _ => a11)
      · rw [nj_clamp (by omega)]
        exact ref _ (fun u => absurd u w) (fun _ => a10) (fun _ u => absurd w1 u)
      · rw [nj_clamp (by omega)]
        exact ref _ (fun _ => a9) (fun u => by rw [w] at u; exact absurd u (by decide)) (fun u => absurd w u)
    · have := le_of_lt32 (Int32.not_le.mp z2); rw [v2] at this; omega
/-- the reference's span -/
theorem q_span9 {S : GS} {n lg : Nat} {Q : Int64 → GS → Prop} (hF : Fix S) (hn : gX S 14 19 = nI n) (hn5 : n ≤ 512) (h4 : I4 S n lg) (hQ : Q (spn S n).1 S) : wX9_span S 14 Q := by
  have loop : ∀ (r j : Nat), j + r = n → ∀ x3 : Int32, (x3 = match (spn S j).2 with | none => -1 | some b => nI b) → wX9_span_7 Q 14 (r + 1) (spn S j).1 x3 (nI j) S := by
    intro r
    induction r with
    | zero =>
      intro j hj x3 _
      have ej : j = n := by omega
      subst ej
      unfold wX9_span_7
      rw [hn]
      exact ⟨fn_14 hF, fk_14 hF, fun _ => hQ, fun z => absurd ((nj_le (by omega) (by omega)).mpr (Nat.le_refl _)) z⟩
    | succ r ih =>
      intro j hj x3 hx3
      have hv := nj_in (n := 512) (show j < 512 by omega) (by omega)
      have hc := nj_clamp (show j < 2147483648 by omega)
      have hgo := ih (j + 1) (by omega)
      unfold wX9_span_7 wX9_span_65 wX9_span_68
      rw [hn, nj_succ]
      refine ⟨fn_14 hF, fk_14 hF, fun z => absurd ((nj_le (by omega) (by omega)).mp z) (by omega), fun _ => ⟨20, fr_14_9 hF, fn_20 hF, fk_20 hF, by rw [fl_20 hF]; exact hv, ?_⟩⟩
      rw [hc]
      refine ⟨fun z => ?_, fun z => ?_⟩
      · have e : spn S (j + 1) = spn S j := by rw [spn, if_pos z]
        rw [e] at hgo
        exact hgo x3 hx3
      · cases hb : (spn S j).2 with
        | none =>
          rw [hb] at hx3
          have e : spn S (j + 1) = ((spn S j).1, some j) := by rw [spn, if_neg z, hb]
          rw [e] at hgo
          exact ⟨fun _ => hgo _ rfl, fun w => absurd hx3 w⟩
        | some b =>
          rw [hb] at hx3
          simp only at hx3
          have hbj := spn_lt S j b hb
          have hvb := nj_in (n := 512) (show b < 512 by omega) (by omega)
          have hcb := nj_clamp (show b < 2147483648 by omega)
          subst hx3
          refine ⟨fun w => absurd w (nI_ne (by omega)), fun _ => ⟨19, fr_14_8 hF, fn_19 hF, fk_19 hF, by rw [fl_19 hF]; exact hvb, by rw [fl_19 hF]; exact hv, ?_⟩⟩
          rw [hcb]
          refine ⟨fun w => ?_, fun w => ⟨26, fr_14_15 hF, fn_26 hF, fk_26 hF, by rw [fl_26 hF]; exact hv, by rw [fl_26 hF]; exact hvb, ?_⟩⟩
          · have e : spn S (j + 1) = ((spn S j).1, some j) := by rw [spn, if_neg z, hb]; simp only; rw [if_neg w]
            rw [e] at hgo
            exact hgo _ rfl
          · have e : spn S (j + 1) = ((spn S j).1 + (gX S 26 j - gX S 26 b).toInt64, some j) := by rw [spn, if_neg z, hb]; simp only; rw [if_pos w]
            rw [e] at hgo
            exact hgo _ rfl
  refine ⟨n + 1, ?_⟩
  have z0 : (0 : Int32) = nI 0 := by decide
  rw [z0]
  exact loop n 0 (by omega) (-1) rfl
theorem q_pauses {S : GS} {n E : Nat} {Q : Int32 → GS → Prop} (hF : Fix S) (hE : gX S 14 25 = nI E) (hE40 : E ≤ 40) (hn : n ≤ 512) (hv : Evc S n E) (hQ : Q (nI (cntP (gX S 23) (gX S 31) E)) S) : wX9_pauses S 14 Q := by
  have loop : ∀ (r j : Nat), j + r = E → wX9_pauses_4 Q 14 (r + 1) (nI (cntP (gX S 23) (gX S 31) j)) (nI j) S := by
    intro r
    induction r with
    | zero =>
      intro j hj
      have ej : j = E := by omega
      subst ej
      unfold wX9_pauses_4
      rw [hE]
      exact ⟨fn_14 hF, fk_14 hF, fun _ => hQ, fun z => absurd ((nj_le (by omega) (by omega)).mpr (Nat.le_refl _)) z⟩
    | succ r ih =>
      intro j hj
      obtain ⟨q, b, e, e1, e2, hb, he, h30, h31, hk, h9, hp9, hip⟩ := hv j (by omega)
      have hgo := ih (j + 1) (by omega)
      rw [cntP] at hgo
      unfold wX9_pauses_4 wX9_pauses_23
      rw [hE, nj_succ]
      refine ⟨fn_14 hF, fk_14 hF, fun z => absurd ((nj_le (by omega) (by omega)).mp z) (by omega), fun _ => q_isPause9 hF (by omega) h31 (by omega) (fun z _ => ⟨fun y => absurd y (by decide), fun _ => ?_⟩) (fun z _ => ⟨fun _ => ?_, fun y => absurd rfl y⟩)⟩
      · rw [if_pos (hip.mpr z)] at hgo
        rw [nj_succ]; exact hgo
      · rw [if_neg (fun w => z (hip.mp w))] at hgo; exact hgo
  refine ⟨E + 1, ?_⟩
  have z0 : (0 : Int32) = nI 0 := by decide
  rw [z0]
  exact loop E 0 (by omega)
