def wX8_kindWord (S : GS) (x0 : Int32) (Q : Nat → GS → Prop) : Prop :=
  (x0 = 1 → Q 14 S) ∧ (x0 = 2 → Q 15 S) ∧ (¬ x0 = 1 → ¬ x0 = 2 → Q 16 S)
set_option maxHeartbeats 4000000 in
set_option maxRecDepth 100000 in
theorem tX8_kindWord (l : Launch) (S : GS) (x0 : Int32) (Q : Nat → GS → Prop) (h : wX8_kindWord S x0 Q) : CZ l yX8_kindWord wsX8_kindWord 0 S (gA [vI x0]) (fun r S9 => ∃ x, r = some (vS x) ∧ Q x S9) := by
  refine CZ.ofW (cc := cX8_kindWord) (maxL := 1) (ret := (some (.object "java/lang/String"))) RX8 (by decide) rfl rfl (fun _ _ _ => Nat.le_of_ble_eq_true rfl) ?_
  intro p e s m args below meth c D Y za zv ad A ls hAe hx hb hr hml hts hown hlocks hK hZ hA hG hl
  obtain ⟨S0, hS0⟩ : ∃ z : GS, z = S := ⟨_, rfl⟩
  rw [← hS0] at hAe
  rw [← hS0]
  have hl : lv_has ls 1 [(0, .int x0)] := hl
  have hsh : gSh S S0 := by rw [hS0]; exact gSh.rf S
  obtain ⟨H, eH⟩ : ∃ z : Heap, z = s.heap := ⟨_, rfl⟩
  obtain ⟨locs, eL⟩ : ∃ z : List Loc, z = [] := ⟨_, rfl⟩
  have hG : gS D Y ad A s.heap S H locs := by rw [eH, eL]; exact hG
  suffices hgoal : W p l e (rmD 0) s m args below meth c H locs 0 0 (MQ below (gE D Y za ad S0 s.heap.size (fun r S9 => ∃ x, r = some (vS x) ∧ Q x S9)) args s 0 0 A) (F0 m 0 ls []) by rw [eH, eL] at hgoal; exact hgoal
  unfold wX8_kindWord at h
  refine lv_iload_n hx hb dX8_kindWord_0 rfl (lv_at hl 0 rfl) ?_
  by_cases q_1_0 : x0 = 1
  · have h := h.1 q_1_0
    refine lv_lookup (tgt := 28) (off := 27) hx hb dX8_kindWord_1 (by decide) (by rw [q_1_0]; decide) (by decide) ?_
    refine r_ldcwS hx hb hown (hZ.2.2.2.1 14 (by decide)) dX8_kindWord_28 ?_
    exact W.aret (v := .ref (za 14)) hx hb hr (Or.inl ⟨_, rfl⟩) (Or.inr ⟨_, rfl⟩) (fun t ht hW => r_end (r := some (vS 14)) hAe hG hsh ⟨_, rfl, h⟩ rfl ht) hG.2.2.2.2 dX8_kindWord_31
  by_cases q_1_1 : x0 = 2
  · have h := h.2.1 q_1_1
    refine lv_lookup (tgt := 32) (off := 31) hx hb dX8_kindWord_1 (by decide) (by rw [q_1_1]; decide) (by decide) ?_
    refine r_ldcwS hx hb hown (hZ.2.2.2.1 15 (by decide)) dX8_kindWord_32 ?_
    exact W.aret (v := .ref (za 15)) hx hb hr (Or.inl ⟨_, rfl⟩) (Or.inr ⟨_, rfl⟩) (fun t ht hW => r_end (r := some (vS 15)) hAe hG hsh ⟨_, rfl, h⟩ rfl ht) hG.2.2.2.2 dX8_kindWord_35
  have h := h.2.2 q_1_0 q_1_1
  refine lv_lookup (tgt := 36) (off := 35) hx hb dX8_kindWord_1 (by decide) (by refine (lv_osw q_1_0 (by decide)).trans ?_; refine (lv_osw q_1_1 (by decide)).trans ?_; rfl) (by decide) ?_
  refine r_ldcwS hx hb hown (hZ.2.2.2.1 16 (by decide)) dX8_kindWord_36 ?_
  exact W.aret (v := .ref (za 16)) hx hb hr (Or.inl ⟨_, rfl⟩) (Or.inr ⟨_, rfl⟩) (fun t ht hW => r_end (r := some (vS 16)) hAe hG hsh ⟨_, rfl, h⟩ rfl ht) hG.2.2.2.2 dX8_kindWord_39
def wX8_causeWord (S : GS) (x0 : Int32) (Q : Nat → GS → Prop) : Prop :=
  (x0 = 1 → Q 17 S) ∧ (x0 = 2 → Q 18 S) ∧ (¬ x0 = 1 → ¬ x0 = 2 → Q 19 S)
set_option maxHeartbeats 4000000 in
set_option maxRecDepth 100000 in
theorem tX8_causeWord (l : Launch) (S : GS) (x0 : Int32) (Q : Nat → GS → Prop) (h : wX8_causeWord S x0 Q) : CZ l yX8_causeWord wsX8_causeWord 0 S (gA [vI x0]) (fun r S9 => ∃ x, r = some (vS x) ∧ Q x S9) := by
  refine CZ.ofW (cc := cX8_causeWord) (maxL := 1) (ret := (some (.object "java/lang/String"))) RX8 (by decide) rfl rfl (fun _ _ _ => Nat.le_of_ble_eq_true rfl) ?_
  intro p e s m args below meth c D Y za zv ad A ls hAe hx hb hr hml hts hown hlocks hK hZ hA hG hl
  obtain ⟨S0, hS0⟩ : ∃ z : GS, z = S := ⟨_, rfl⟩
  rw [← hS0] at hAe
  rw [← hS0]
  have hl : lv_has ls 1 [(0, .int x0)] := hl
  have hsh : gSh S S0 := by rw [hS0]; exact gSh.rf S
  obtain ⟨H, eH⟩ : ∃ z : Heap, z = s.heap := ⟨_, rfl⟩
  obtain ⟨locs, eL⟩ : ∃ z : List Loc, z = [] := ⟨_, rfl⟩
  have hG : gS D Y ad A s.heap S H locs := by rw [eH, eL]; exact hG
  suffices hgoal : W p l e (rmD 0) s m args below meth c H locs 0 0 (MQ below (gE D Y za ad S0 s.heap.size (fun r S9 => ∃ x, r = some (vS x) ∧ Q x S9)) args s 0 0 A) (F0 m 0 ls []) by rw [eH, eL] at hgoal; exact hgoal
  unfold wX8_causeWord at h
  refine lv_iload_n hx hb dX8_causeWord_0 rfl (lv_at hl 0 rfl) ?_
  by_cases q_1_0 : x0 = 1
  · have h := h.1 q_1_0
    refine lv_lookup (tgt := 28) (off := 27) hx hb dX8_causeWord_1 (by decide) (by rw [q_1_0]; decide) (by decide) ?_
    refine r_ldcwS hx hb hown (hZ.2.2.2.1 17 (by decide)) dX8_causeWord_28 ?_
    exact W.aret (v := .ref (za 17)) hx hb hr (Or.inl ⟨_, rfl⟩) (Or.inr ⟨_, rfl⟩) (fun t ht hW => r_end (r := some (vS 17)) hAe hG hsh ⟨_, rfl, h⟩ rfl ht) hG.2.2.2.2 dX8_causeWord_31
  by_cases q_1_1 : x0 = 2
  · have h := h.2.1 q_1_1
    refine lv_lookup (tgt := 32) (off := 31) hx hb dX8_causeWord_1 (by decide) (by rw [q_1_1]; decide) (by decide) ?_
    refine r_ldcwS hx hb hown (hZ.2.2.2.1 18 (by decide)) dX8_causeWord_32 ?_
    exact W.aret (v := .ref (za 18)) hx hb hr (Or.inl ⟨_, rfl⟩) (Or.inr ⟨_, rfl⟩) (fun t ht hW => r_end (r := some (vS 18)) hAe hG hsh ⟨_, rfl, h⟩ rfl ht) hG.2.2.2.2 dX8_causeWord_35
  have h := h.2.2 q_1_0 q_1_1
  refine lv_lookup (tgt := 36) (off := 35) hx hb dX8_causeWord_1 (by decide) (by refine (lv_osw q_1_0 (by decide)).trans ?_; refine (lv_osw q_1_1 (by decide)).trans ?_; rfl) (by decide) ?_
  refine r_ldcwS hx hb hown (hZ.2.2.2.1 19 (by decide)) dX8_causeWord_36 ?_
  exact W.aret (v := .ref (za 19)) hx hb hr (Or.inl ⟨_, rfl⟩) (Or.inr ⟨_, rfl⟩) (fun t ht hW => r_end (r := some (vS 19)) hAe hG hsh ⟨_, rfl, h⟩ rfl ht) hG.2.2.2.2 dX8_causeWord_39
