/-! THE REFERENCE'S EVENTS. -/
theorem q_isPause9 {S : GS} {i e : Nat} {Q : Int32 → GS → Prop} (hF : Fix S) (hi : i < 40) (h31 : gX S 31 i = nI e) (he : e < 512) (h1 : gX S 23 e = 1 → Q 1 S) (h0 : gX S 23 e ≠ 1 → Q 0 S) : wX9_isPause S 14 (nI i) Q := by
  unfold wX9_isPause wX9_isPause_20
  refine ⟨fn_14 hF, fk_14 hF, 31, fr_14_22 hF, fn_31 hF, fk_31 hF, by rw [fl_31 hF]; exact nj_in hi (by omega), 23, fr_14_12 hF, fn_23 hF, fk_23 hF, ?_⟩
  rw [nj_clamp (by omega), h31, nj_clamp (by omega), fl_23 hF]
  exact ⟨nj_in he (by omega), fun z => ⟨Or.inl rfl, h0 z⟩, fun z => ⟨Or.inr rfl, h1 z⟩⟩
theorem lgc {a b : Int64} : lg_cmp a b ≤ 0 ↔ ¬ b < a := by
  rw [lg_cmp_le, Int64.not_lt]
theorem q_tookOf {S : GS} {i b e : Nat} {Q : Int32 → GS → Prop} (hF : Fix S) (hi : i < 40) (h30 : gX S 30 i = nI b) (h31 : gX S 31 i = nI e) (hb : b < 512) (he : e < 512) (hQ : Q (tkO S b e) S) : wX9_tookOf S 14 (nI i) Q := by
  unfold wX9_tookOf wX9_tookOf_65
  refine ⟨fn_14 hF, fk_14 hF, 31, fr_14_22 hF, fn_31 hF, fk_31 hF, by rw [fl_31 hF]; exact nj_in hi (by omega), 23, fr_14_12 hF, fn_23 hF, fk_23 hF, ?_⟩
  rw [nj_clamp (by omega), h31, nj_clamp (by omega), fl_23 hF]
  unfold tkO at hQ
  refine ⟨nj_in he (by omega), fun z => ⟨26, fr_14_15 hF, fn_26 hF, fk_26 hF, by rw [fl_26 hF]; exact nj_in he (by omega), 30, fr_14_21 hF, fn_30 hF, fk_30 hF, by rw [fl_30 hF]; exact nj_in hi (by omega), ?_⟩, fun z => ⟨29, fr_14_18 hF, fn_29 hF, fk_29 hF, by rw [fl_29 hF]; exact nj_in he (by omega), ?_⟩⟩
  · rw [h30, nj_clamp (by omega), fl_26 hF]
    rw [if_pos z] at hQ
    refine ⟨nj_in hb (by omega), fun y => ?_, fun y => ?_⟩
    · rw [if_neg (lgc.mp y)] at hQ; exact hQ
    · rw [if_pos (Classical.byContradiction (fun w => y (lgc.mpr w)))] at hQ; exact hQ
  · rw [if_neg z] at hQ; exact hQ
theorem q_sizeOf {S : GS} {x : Int32} {j : Nat} {Q : Int32 → GS → Prop} (hF : Fix S) (hx : okD x) (hj : j < 3) (hQ : Q (szo (gX S 28) x j) S) : wX9_sizeOf S 14 x (nI j) Q := by
  unfold szo at hQ
  refine ⟨fun z => ?_, fun z => ?_⟩
  · rw [if_neg z] at hQ
    rcases hx with y | ⟨i, hi, y⟩
    · exact absurd y z
    · subst y
      rw [mul3]
      refine ⟨fn_14 hF, fk_14 hF, 28, fr_14_17 hF, fn_28 hF, fk_28 hF, by rw [fl_28 hF]; exact nj_in (by omega) (by omega), ?_⟩
      rw [nj_clamp (by omega)]
      rw [nj_clamp (by omega)] at hQ
      exact hQ
  · rw [if_pos z] at hQ; exact hQ
theorem q_linesOf {S : GS} {i : Nat} {Q : Int32 → GS → Prop} (hF : Fix S) (hi : i < 40) (hQ : Q (nI (2 + one (gX S 32 i) + one (gX S 33 i))) S) : wX9_linesOf S 14 (nI i) Q := by
  have hv := nj_in (n := 40) hi (by omega)
  have h16 : ∀ t1 : Int32, t1 = nI (one (gX S 32 i)) → wX9_linesOf_16 Q 14 (nI i) 2 t1 S := by
    intro t1 ht
    refine ⟨fn_14 hF, fk_14 hF, 33, fr_14_24 hF, fn_33 hF, fk_33 hF, by rw [fl_33 hF]; exact hv, ?_⟩
    rw [nj_clamp (by omega), ht]
    have e2 : (2 : Int32) + nI (one (gX S 32 i)) = nI (2 + one (gX S 32 i)) := nj_add 2 _
    unfold wX9_linesOf_32
    rw [e2]
    refine ⟨fun z => ?_, fun z => ?_⟩
    · have : one (gX S 33 i) = 1 := by unfold one; rw [if_neg z]
      rw [this] at hQ
      have e3 : nI (2 + one (gX S 32 i)) + 1 = nI (2 + one (gX S 32 i) + 1) := nj_add _ 1
      rw [e3]; exact hQ
    · have : one (gX S 33 i) = 0 := by unfold one; rw [if_pos z]
      rw [this] at hQ
      have e3 : nI (2 + one (gX S 32 i)) + 0 = nI (2 + one (gX S 32 i) + 0) := nj_add _ 0
      rw [e3]; exact hQ
  refine ⟨fn_14 hF, fk_14 hF, 32, fr_14_23 hF, fn_32 hF, fk_32 hF, by rw [fl_32 hF]; exact hv, ?_⟩
  rw [nj_clamp (by omega)]
  refine ⟨fun z => h16 1 ?_, fun z => h16 0 ?_⟩
  · unfold one; rw [if_neg z]; decide
  · unfold one; rw [if_pos z]; decide
theorem q_isEvent {S : GS} {E : Nat} {x : Int32} {Q : Int32 → GS → Prop} (hF : Fix S) (hE : gX S 14 25 = nI E) (hE5 : E < 512) (h1 : ∀ i, i < E → x = nI i → Q 1 S) (h0 : (x < 0 ∨ nI E ≤ x) → Q 0 S) : wX9_isEvent S 14 x Q := by
  unfold wX9_isEvent wX9_isEvent_16 wX9_isEvent_17
  refine ⟨fun z => ⟨Or.inl rfl, h0 (Or.inl z)⟩, fun z => ⟨fn_14 hF, fk_14 hF, ?_⟩⟩
  rw [hE]
  refine ⟨fun y => ⟨Or.inl rfl, h0 (Or.inr y)⟩, fun y => ⟨Or.inr rfl, ?_⟩⟩
  have hx0 : 0 ≤ x.toInt := by have := le_32 (Int32.not_lt.mp z); rw [t0] at this; exact this
  have hlt := le_of_lt32 (Int32.not_le.mp y)
  rw [nj_int (by omega)] at hlt
  exact h1 x.toInt.toNat (by omega) (nj_of hx0)
/-- the class's get -/
theorem q_getE {S : GS} {E : Nat} {x : Int32} {Q : Option Nat → GS → Prop} (hF : Fix S) (hE : gX S 6 1 = nI E) (hE40 : E ≤ 40) (h1 : ∀ i, i < E → x = nI i → Q (gR S 7 i) S) (h0 : (x < 0 ∨ nI E ≤ x) → Q none S) : wX3_get S 6 x Q := by
  unfold wX3_get wX3_get_30 wX3_get_31
  refine ⟨fun z => h0 (Or.inl z), fun z => ⟨fn_6 hF, fk_6 hF, ?_⟩⟩
  rw [hE]
  refine ⟨fun y => h0 (Or.inr y), fun y => ⟨7, fr_6_0 hF, fn_7 hF, fk_7 hF, ?_⟩⟩
  have hx0 : 0 ≤ x.toInt := by have := le_32 (Int32.not_lt.mp z); rw [t0] at this; exact this
  have hlt := le_of_lt32 (Int32.not_le.mp y)
  rw [nj_int (by omega)] at hlt
  have ex := nj_of hx0
  rw [fl_7 hF]
  have hi : x.toInt.toNat < E := by omega
  generalize x.toInt.toNat = i at *
  subst ex
  rw [nj_clamp (by omega)]
  exact ⟨fun w => absurd ((nj_le (by omega) (by omega)).mp w) (by omega), fun _ => ⟨nj_in (by omega) (by omega), h1 i hi rfl⟩⟩
/-- the facts of event i, by number -/
def fct (S : GS) (q : Nat) (w : Nat) : Int32 := gX S q (([4, 1, 3, 5, 2, 6, 7, 8, 9, 10, 11, 12, 13, 14] : List Nat).getD w 14)
theorem q_fact {S : GS} {q w : Nat} {Q : Int32 → GS → Prop} (hp : evP S q) (hw : w < 14) (hQ : Q (fct S q w) S) : wX2_fact S q (nI w) Q := by
  have a := hp.2.1
  have b := hp.2.2
  unfold wX2_fact
  have : w = 0 ∨ w = 1 ∨ w = 2 ∨ w = 3 ∨ w = 4 ∨ w = 5 ∨ w = 6 ∨ w = 7 ∨ w = 8 ∨ w = 9 ∨ w = 10 ∨ w = 11 ∨ w = 12 ∨ w = 13 := by omega
  rcases this with z | z | z | z | z | z | z | z | z | z | z | z | z | z <;> subst z
  · exact ⟨fun _ => ⟨a, b, hQ⟩, fun z => absurd z (by decide), fun z => absurd z (by decide), fun z => absurd z (by decide), fun z => absurd z (by decide), fun z => absurd z (by decide), fun z => absurd z (by decide), fun z => absurd z (by decide), fun z => absurd z (by decide), fun z => absurd z (by decide), fun z => absurd z (by decide), fun z => absurd z (by decide), fun z => absurd z (by decide), fun z _ _ _ _ _ _ _ _ _ _ _ _ => absurd (by decide) z⟩
  · exact ⟨fun z => absurd z (by decide), fun _ => ⟨a, b, hQ⟩, fun z => absurd z (by decide), fun z => absurd z (by decide), fun z => absurd z (by decide), fun z => absurd z (by decide), fun z => absurd z (by decide), fun z => absurd z (by decide), fun z => absurd z (by decide), fun z => absurd z (by decide), fun z => absurd z (by decide), fun z => absurd z (by decide), fun z => absurd z (by decide), fun _ z _ _ _ _ _ _ _ _ _ _ _ => absurd (by decide) z⟩
  · exact ⟨fun z => absurd z (by decide), fun z => absurd z (by decide), fun _ => ⟨a, b, hQ⟩, fun z => absurd z (by decide), fun z => absurd z (by decide), fun z => absurd z (by decide), fun z => absurd z (by decide), fun z => absurd z (by decide), fun z => absurd z (by decide), fun z => absurd z (by decide), fun z => absurd z (by decide), fun z => absurd z (by decide), fun z => absurd z (by decide), fun _ _ z _ _ _ _ _ _ _ _ _ _ => absurd (by decide) z⟩
  · exact ⟨fun z => absurd z (by decide), fun z => absurd z (by decide), fun z => absurd z (by decide), fun _ => ⟨a, b, hQ⟩, fun z => absurd z (by decide), fun z => absurd z (by decide), fun z => absurd z (by decide), fun z => absurd z (by decide), fun z => absurd z (by decide), fun z => absurd z (by decide), fun z => absurd z (by decide), fun z => absurd z (by decide), fun z => absurd z (by decide), fun _ _ _ z _ _ _ _ _ _ _ _ _ => absurd (by decide) z⟩
  · exact ⟨fun z => absurd z (by decide), fun z => absurd z (by decide), fun z => absurd z (by decide), fun z => absurd z (by decide), fun _ => ⟨a, b, hQ⟩, fun z => absurd z (by decide), fun z => absurd z (by decide), fun z => absurd z (by decide), fun z => absurd z (by decide), fun z => absurd z (by decide), fun z => absurd z (by decide), fun z => absurd z (by decide), fun z => absurd z (by decide), fun _ _ _ _ z _ _ _ _ _ _ _ _ => absurd (by decide) z⟩
  · exact ⟨fun z => absurd z (by decide), fun z => absurd z (by decide), fun z => absurd z (by decide), fun z => absurd z (by decide), fun z => absurd z (by decide), fun _ => ⟨a, b, hQ⟩, fun z => absurd z (by decide), fun z => absurd z (by decide), fun z => absurd z (by decide), fun z => absurd z (by decide), fun z => absurd z (by decide), fun z => absurd z (by decide), fun z => absurd z (by decide), fun _ _ _ _ _ z _ _ _ _ _ _ _ => absurd (by decide) z⟩
  · exact ⟨fun z => absurd z (by decide), fun z => absurd z (by decide), fun z => absurd z (by decide), fun z => absurd z (by decide), fun z => absurd z (by decide), fun z => absurd z (by decide), fun _ => ⟨a, b, hQ⟩, fun z => absurd z (by decide), fun z => absurd z (by decide), fun z => absurd z (by decide), fun z => absurd z (by decide), fun z => absurd z (by decide), fun z => absurd z (by decide), fun _ _ _ _ _ _ z _ _ _ _ _ _ => absurd (by decide) z⟩
  · exact ⟨fun z => absurd z (by decide), fun z => absurd z (by decide), fun z => absurd z (by decide), fun z => absurd z (by decide), fun z => absurd z (by decide), fun z => absurd z (by decide), fun z => absurd z (by decide), fun _ => ⟨a, b, hQ⟩, fun z => absurd z (by decide), fun z => absurd z (by decide), fun z => absurd z (by decide), fun z => absurd z (by decide), fun z => absurd z (by decide), fun _ _ _ _ _ _ _ z _ _ _ _ _ => absurd (by decide) z⟩
  · exact ⟨fun z => absurd z (by decide), fun z => absurd z (by decide), fun z => absurd z (by decide), fun z => absurd z (by decide), fun z => absurd z (by decide), fun z => absurd z (by decide), fun z => absurd z (by decide), fun z => absurd z (by decide), fun _ => ⟨a, b, hQ⟩, fun z => absurd z (by decide), fun z => absurd z (by decide), fun z => absurd z (by decide), fun z => absurd z (by decide), fun _ _ _ _ _ _ _ _ z _ _ _ _ => absurd (by decide) z⟩
  · exact ⟨fun z => absurd z (by decide), fun z => absurd z (by decide), fun z => absurd z (by decide), fun z => absurd z (by decide), fun z => absurd z (by decide), fun z => absurd z (by decide), fun z => absurd z (by decide), fun z => absurd z (by decide), fun z => absurd z (by decide), fun _ => ⟨a, b, hQ⟩, fun z => absurd z (by decide), fun z => absurd z (by decide), fun z => absurd z (by decide), fun _ _ _ _ _ _ _ _ _ z _ _ _ => absurd (by decide) z⟩
  · exact ⟨fun z => absurd z (by decide), fun z => absurd z (by decide), fun z => absurd z (by decide), fun z => absurd z (by decide), fun z => absurd z (by decide), fun z => absurd z (by decide), fun z => absurd z (by decide), fun z => absurd z (by decide), fun z => absurd z (by decide), fun z => absurd z (by decide), fun _ => ⟨a, b, hQ⟩, fun z => absurd z (by decide), fun z => absurd z (by decide), fun _ _ _ _ _ _ _ _ _ _ z _ _ => absurd (by decide) z⟩
  · exact ⟨fun z => absurd z (by decide), fun z => absurd z (by decide), fun z => absurd z (by decide), fun z => absurd z (by decide), fun z => absurd z (by decide), fun z => absurd z (by decide), fun z => absurd z (by decide), fun z => absurd z (by decide), fun z => absurd z (by decide), fun z => absurd z (by decide), fun z => absurd z (by decide), fun _ => ⟨a, b, hQ⟩, fun z => absurd z (by decide), fun _ _ _ _ _ _ _ _ _ _ _ z _ => absurd (by decide) z⟩
  · exact ⟨fun z => absurd z (by decide), fun z => absurd z (by decide), fun z => absurd z (by decide), fun z => absurd z (by decide), fun z => absurd z (by decide), fun z => absurd z (by decide), fun z => absurd z (by decide), fun z => absurd z (by decide), fun z => absurd z (by decide), fun z => absurd z (by decide), fun z => absurd z (by decide), fun z => absurd z (by decide), fun _ => ⟨a, b, hQ⟩, fun _ _ _ _ _ _ _ _ _ _ _ _ z => absurd (by decide) z⟩
  · exact ⟨fun z => absurd z (by decide), fun z => absurd z (by decide), fun z => absurd z (by decide), fun z => absurd z (by decide), fun z => absurd z (by decide), fun z => absurd z (by decide), fun z => absurd z (by decide), fun z => absurd z (by decide), fun z => absurd z (by decide), fun z => absurd z (by decide), fun z => absurd z (by decide), fun z => absurd z (by decide), fun z => absurd z (by decide), fun _ _ _ _ _ _ _ _ _ _ _ _ _ => ⟨a, b, hQ⟩⟩
