def wX6_init (S : GS) (k0 : Nat) (Q : GS → Prop) : Prop :=
  k0 < gN S ∧ gK S k0 = 6 ∧ closed S ∧ ∀ S4 : GS, S4 = nwS S 10 72 → ∀ S9 : GS, S9 = sR S4 k0 0 (some (gN S)) → Q S9
set_option maxHeartbeats 4000000 in
set_option maxRecDepth 100000 in
theorem tX6_init (l : Launch) (S : GS) (k0 : Nat) (Q : GS → Prop) (h : wX6_init S k0 Q) : CA l yX6_init wsX6_init 1 1 72 S (gA [vR (some k0)]) (fun r S9 => r = none ∧ Q S9) := by
  refine CA.ofW (cc := cX6_init) (maxL := 1) (ret := none) RX6 (by decide) rfl rfl (fun _ _ _ => Nat.le_of_ble_eq_true rfl) ?_
  intro p e s m args below meth c D Y za zv ad A ls hAe hmn hx hb hr hml hts hown hlocks hK hZ hA hG hl
  obtain ⟨S0, hS0⟩ : ∃ z : GS, z = S := ⟨_, rfl⟩
  rw [← hS0] at hAe
  rw [← hS0]
  obtain ⟨ad0, ead⟩ : ∃ z : Nat → Nat, z = ad := ⟨_, rfl⟩
  rw [← ead] at hAe
  rw [← ead]
  have had0 : ∀ k, k < gN S0 → ad k = ad0 k := fun k _ => by rw [ead]
  have hin6 : ∀ w ∈ wsX60, w ∈ wsX6_init := by decide +kernel
  have lk_9 := hts (.fieldLink RX6 9 "PauseLog$Text" "row" "[C") (by decide +kernel)
  have hl : lv_has ls 1 [(0, .ref (ad k0))] := hl
  have hsh : gExt S S0 := by rw [hS0]; exact gExt.rf S
  obtain ⟨H, eH⟩ : ∃ z : Heap, z = s.heap := ⟨_, rfl⟩
  obtain ⟨locs, eL⟩ : ∃ z : List Loc, z = [] := ⟨_, rfl⟩
  have hG : gS D Y ad A s.heap S H locs := by rw [eH, eL]; exact hG
  suffices hgoal : W p l e (rmA 1 1 72) s m args below meth c H locs 0 0 (MQ below (gEA D Y za ad0 S0 s.heap.size (fun r S9 => r = none ∧ Q S9)) args s 1 72 A) (F0 m 0 ls []) by rw [eH, eL] at hgoal; exact hgoal
  unfold wX6_init at h
  refine lv_aload_n hx hb dX6_init_0 rfl (lv_at hl 0 rfl) ?_
  refine W.objInit hx hb hown (hts (.methodLink RX6 3 objectInit) (by decide +kernel)) (hts (.instanceMethod objectInit) (by decide +kernel)) (hts (.code objectInit ⟨#[0xb1]⟩ 1 none) (by decide +kernel)) rfl (by rw [hml]; exact hl.1) rfl dX6_init_1 (Nat.le_of_ble_eq_true rfl) (Nat.le_of_ble_eq_true rfl) ?_
  refine W.eq (g2 := F0 m 4 ls []) rfl ?_
  refine lv_aload_n hx hb dX6_init_4 rfl (lv_at hl 0 rfl) ?_
  refine lv_bipush (v := 72) hx hb dX6_init_5 (by decide) ?_
  obtain ⟨hk1, hq2, h⟩ := h
  obtain ⟨hcd3, h⟩ := h
  refine r_newa (atype := .char) (ty := .char) (N' := 72) (n := 72) (a0 := (72, .inl (fun _ => 0))) hx hb (hts (.arrayClass .char) (by decide +kernel)) rfl hK hG hA hcd3 0 10 rfl (fun _ _ h => h) (fun _ => rfl) (fun _ => rfl) (by decide) (by decide) (by show 72 * 2 ≤ 536870912; omega) (by decide) (by decide) dX6_init_7 (fun ad H had hG => ?_)
  have hl : lv_has ls 1 [(0, .ref (ad k0))] := by rw [had k0 hk1]; exact hl
  refine W.eq (g2 := F0 m 9 ls [.ref (ad (gN S)), .ref (ad k0)]) (by rw [had k0 hk1] <;> rfl) ?_
  refine W.widen (k := 1) (n := 72) (by decide) (by decide) ?_
  obtain ⟨S4, eS_S4⟩ : ∃ z : GS, z = nwS S 10 72 := ⟨_, rfl⟩
  have h := h S4 eS_S4
  rw [← eS_S4] at hG
  have hx_S4 : gExt S4 S := by rw [eS_S4]; exact gExt.nw _ _ _
  have had0 := fun k (hk : k < gN S0) => (had k (Nat.lt_of_lt_of_le hk hsh.1)).trans (had0 k hk)
  have hsh := hx_S4.tr hsh
  have hk5 : gN S < gN S4 := by rw [eS_S4]; exact Nat.lt_succ_self _
  have hq6 : gK S4 (gN S) = 10 := by rw [eS_S4]; exact va_up_self _ _ _
  have hk7 := hx_S4.lt hk1
  have hq8 := hx_S4.kd hk1 hq2
  refine r_putF (ci := 6) (C := RX6) (T := TX6) (N := 2) hx hb hts hin6 tyX6 tyX6_ok nmX6 hown hK hG hk7 (cell_6 hq8) rfl 0 (by decide) lk_9 (fun _ h9 => h9) rfl hmn rfl rfl rfl (Nat.le_of_ble_eq_true rfl) (S' := sR S4 k0 0 (some (gN S))) rfl (pu_6_0 hq8 (some (gN S))) dX6_init_9 (fun H locs hG => ?_)
  obtain ⟨S9, eS_S9⟩ : ∃ z : GS, z = sR S4 k0 0 (some (gN S)) := ⟨_, rfl⟩
  have h := h S9 eS_S9
  rw [← eS_S9] at hG
  have hs_S9 : gSh S9 S4 := by rw [eS_S9]; exact gSh.r _ _ _ _
  have hsh := (gExt.ofSh hs_S9).tr hsh
  have hk10 := hs_S9.lt hk7
  have hq11 := hs_S9.kd hq8
  have hk12 := hs_S9.lt hk5
  have hq13 := hs_S9.kd hq6
  exact W.widen (k := 1) (n := 72) (by decide) (by decide) (W.vret hx hb hr (fun t ht hW => r_endA (r := none) hAe hG hsh had0 ⟨rfl, h⟩ rfl ht) hG.2.2.2.2 dX6_init_12)
def wX0_init (S : GS) (k0 : Nat) (Q : GS → Prop) : Prop :=
  k0 < gN S ∧ gK S k0 = 0 ∧ closed S ∧ ∀ S4 : GS, S4 = nwS S 11 12 → ∀ S9 : GS, S9 = sR S4 k0 0 (some (gN S)) → closed S9 ∧ ∀ S15 : GS, S15 = nwS S9 11 12 → ∀ S22 : GS, S22 = sR S15 k0 1 (some (gN S9)) → closed S22 ∧ ∀ S30 : GS, S30 = nwS S22 11 12 → ∀ S39 : GS, S39 = sR S30 k0 2 (some (gN S22)) → Q S39
set_option maxHeartbeats 4000000 in
set_option maxRecDepth 100000 in
theorem tX0_init (l : Launch) (S : GS) (k0 : Nat) (Q : GS → Prop) (h : wX0_init S k0 Q) : CA l yX0_init wsX0_init 1 3 36 S (gA [vR (some k0)]) (fun r S9 => r = none ∧ Q S9) := by
  refine CA.ofW (cc := cX0_init) (maxL := 1) (ret := none) RX0 (by decide) rfl rfl (fun _ _ _ => Nat.le_of_ble_eq_true rfl) ?_
  intro p e s m args below meth c D Y za zv ad A ls hAe hmn hx hb hr hml hts hown hlocks hK hZ hA hG hl
  obtain ⟨S0, hS0⟩ : ∃ z : GS, z = S := ⟨_, rfl⟩
  rw [← hS0] at hAe
  rw [← hS0]
  obtain ⟨ad0, ead⟩ : ∃ z : Nat → Nat, z = ad := ⟨_, rfl⟩
  rw [← ead] at hAe
  rw [← ead]
  have had0 : ∀ k, k < gN S0 → ad k = ad0 k := fun k _ => by rw [ead]
  have hin0 : ∀ w ∈ wsX00, w ∈ wsX0_init := by decide +kernel
  have lk_9 := hts (.fieldLink RX0 9 "PauseLog$Diagnostics" "numbers" "[I") (by decide +kernel)
  have lk_15 := hts (.fieldLink RX0 15 "PauseLog$Diagnostics" "lineNumbers" "[I") (by decide +kernel)
  have lk_18 := hts (.fieldLink RX0 18 "PauseLog$Diagnostics" "faults" "[I") (by decide +kernel)
  have hl : lv_has ls 1 [(0, .ref (ad k0))] := hl
  have hsh : gExt S S0 := by rw [hS0]; exact gExt.rf S
  obtain ⟨H, eH⟩ : ∃ z : Heap, z = s.heap := ⟨_, rfl⟩
  obtain ⟨locs, eL⟩ : ∃ z : List Loc, z = [] := ⟨_, rfl⟩
  have hG : gS D Y ad A s.heap S H locs := by rw [eH, eL]; exact hG
  suffices hgoal : W p l e (rmA 1 3 36) s m args below meth c H locs 0 0 (MQ below (gEA D Y za ad0 S0 s.heap.size (fun r S9 => r = none ∧ Q S9)) args s 3 36 A) (F0 m 0 ls []) by rw [eH, eL] at hgoal; exact hgoal
  unfold wX0_init at h
  refine lv_aload_n hx hb dX0_init_0 rfl (lv_at hl 0 rfl) ?_
  refine W.objInit hx hb hown (hts (.methodLink RX0 3 objectInit) (by decide +kernel)) (hts (.instanceMethod objectInit) (by decide +kernel)) (hts (.code objectInit ⟨#[0xb1]⟩ 1 none) (by decide +kernel)) rfl (by rw [hml]; exact hl.1) rfl dX0_init_1 (Nat.le_of_ble_eq_true rfl) (Nat.le_of_ble_eq_true rfl) ?_
  refine W.eq (g2 := F0 m 4 ls []) rfl ?_
  refine lv_aload_n hx hb dX0_init_4 rfl (lv_at hl 0 rfl) ?_
  refine lv_bipush (v := 12) hx hb dX0_init_5 (by decide) ?_
  obtain ⟨hk1, hq2, h⟩ := h
  obtain ⟨hcd3, h⟩ := h
  refine r_newa (atype := .int) (ty := .int) (N' := 12) (n := 12) (a0 := (12, .inl (fun _ => 0))) hx hb (hts (.arrayClass .int) (by decide +kernel)) rfl hK hG hA hcd3 1 11 rfl (fun _ _ h => h) (fun _ => rfl) (fun _ => rfl) (by decide) (by decide) (by show 12 * 4 ≤ 536870912; omega) (by decide) (by decide) dX0_init_7 (fun ad H had hG => ?_)
  have hl : lv_has ls 1 [(0, .ref (ad k0))] := by rw [had k0 hk1]; exact hl
  refine W.eq (g2 := F0 m 9 ls [.ref (ad (gN S)), .ref (ad k0)]) (by rw [had k0 hk1] <;> rfl) ?_
  refine W.widen (k := 1) (n := 12) (by decide) (by decide) ?_
  obtain ⟨S4, eS_S4⟩ : ∃ z : GS, z = nwS S 11 12 := ⟨_, rfl⟩
  have h := h S4 eS_S4
  rw [← eS_S4] at hG
  have hx_S4 : gExt S4 S := by rw [eS_S4]; exact gExt.nw _ _ _
  have had0 := fun k (hk : k < gN S0) => (had k (Nat.lt_of_lt_of_le hk hsh.1)).trans (had0 k hk)
  have hsh := hx_S4.tr hsh
  have hk5 : gN S < gN S4 := by rw [eS_S4]; exact Nat.lt_succ_self _
  have hq6 : gK S4 (gN S) = 11 := by rw [eS_S4]; exact va_up_self _ _ _
  have hk7 := hx_S4.lt hk1
  have hq8 := hx_S4.kd hk1 hq2
  refine r_putF (ci := 0) (C := RX0) (T := TX0) (N := 5) hx hb hts hin0 tyX0 tyX0_ok nmX0 hown hK hG hk7 (cell_0 hq8) rfl 0 (by decide) lk_9 (fun _ h9 => h9) rfl hmn rfl rfl rfl (Nat.le_of_ble_eq_true rfl) (S' := sR S4 k0 0 (some (gN S))) rfl (pu_0_0 hq8 (some (gN S))) dX0_init_9 (fun H locs hG => ?_)
  obtain ⟨S9, eS_S9⟩ : ∃ z : GS, z = sR S4 k0 0 (some (gN S)) := ⟨_, rfl⟩
  have h := h S9 eS_S9
  rw [← eS_S9] at hG
  have hs_S9 : gSh S9 S4 := by rw [eS_S9]; exact gSh.r _ _ _ _
  have hsh := (gExt.ofSh hs_S9).tr hsh
  have hk10 := hs_S9.lt hk7
  have hq11 := hs_S9.kd hq8
  have hk12 := hs_S9.lt hk5
  have hq13 := hs_S9.kd hq6
  refine lv_aload_n hx hb dX0_init_12 rfl (lv_at hl 0 rfl) ?_
  refine lv_bipush (v := 12) hx hb dX0_init_13 (by decide) ?_
  obtain ⟨hcd14, h⟩ := h
  refine r_newa (atype := .int) (ty := .int) (N' := 12) (n := 12) (a0 := (12, .inl (fun _ => 0))) hx hb (hts (.arrayClass .int) (by decide +kernel)) rfl hK hG hA hcd14 1 11 rfl (fun _ _ h => h) (fun _ => rfl) (fun _ => rfl) (by decide) (by decide) (by show 12 * 4 ≤ 536870912; omega) (by decide) (by decide) dX0_init_15 (fun ad H had hG => ?_)
  have hl : lv_has ls 1 [(0, .ref (ad k0))] := by rw [had k0 hk10]; exact hl
  refine W.eq (g2 := F0 m 17 ls [.ref (ad (gN S9)), .ref (ad k0)]) (by rw [had k0 hk10] <;> rfl) ?_
  refine W.widen (k := 2) (n := 24) (by decide) (by decide) ?_
  obtain ⟨S15, eS_S15⟩ : ∃ z : GS, z = nwS S9 11 12 := ⟨_, rfl⟩
  have h := h S15 eS_S15
  rw [← eS_S15] at hG
  have hx_S15 : gExt S15 S9 := by rw [eS_S15]; exact gExt.nw _ _ _
  have had0 := fun k (hk : k < gN S0) => (had k (Nat.lt_of_lt_of_le hk hsh.1)).trans (had0 k hk)
  have hsh := hx_S15.tr hsh
  have hk16 : gN S9 < gN S15 := by rw [eS_S15]; exact Nat.lt_succ_self _
  have hq17 : gK S15 (gN S9) = 11 := by rw [eS_S15]; exact va_up_self _ _ _
  have hk18 := hx_S15.lt hk10
  have hq19 := hx_S15.kd hk10 hq11
  have hk20 := hx_S15.lt hk12
  have hq21 := hx_S15.kd hk12 hq13
  refine r_putF (ci := 0) (C := RX0) (T := TX0) (N := 5) hx hb hts hin0 tyX0 tyX0_ok nmX0 hown hK hG hk18 (cell_0 hq19) rfl 1 (by decide) lk_15 (fun _ h9 => h9) rfl hmn rfl rfl rfl (Nat.le_of_ble_eq_true rfl) (S' := sR S15 k0 1 (some (gN S9))) rfl (pu_0_1 hq19 (some (gN S9))) dX0_init_17 (fun H locs hG => ?_)
  obtain ⟨S22, eS_S22⟩ : ∃ z : GS, z = sR S15 k0 1 (some (gN S9)) := ⟨_, rfl⟩
  have h := h S22 eS_S22
  rw [← eS_S22] at hG
  have hs_S22 : gSh S22 S15 := by rw [eS_S22]; exact gSh.r _ _ _ _
  have hsh := (gExt.ofSh hs_S22).tr hsh
  have hk23 := hs_S22.lt hk18
  have hq24 := hs_S22.kd hq19
  have hk25 := hs_S22.lt hk20
  have hq26 := hs_S22.kd hq21
  have hk27 := hs_S22.lt hk16
  have hq28 := hs_S22.kd hq17
  refine lv_aload_n hx hb dX0_init_20 rfl (lv_at hl 0 rfl) ?_
  refine lv_bipush (v := 12) hx hb dX0_init_21 (by decide) ?_
  obtain ⟨hcd29, h⟩ := h
  refine r_newa (atype := .int) (ty := .int) (N' := 12) (n := 12) (a0 := (12, .inl (fun _ => 0))) hx hb (hts (.arrayClass .int) (by decide +kernel)) rfl hK hG hA hcd29 1 11 rfl (fun _ _ h => h) (fun _ => rfl) (fun _ => rfl) (by decide) (by decide) (by show 12 * 4 ≤ 536870912; omega) (by decide) (by decide) dX0_init_23 (fun ad H had hG => ?_)
  have hl : lv_has ls 1 [(0, .ref (ad k0))] := by rw [had k0 hk23]; exact hl
  refine W.eq (g2 := F0 m 25 ls [.ref (ad (gN S22)), .ref (ad k0)]) (by rw [had k0 hk23] <;> rfl) ?_
  refine W.widen (k := 3) (n := 36) (by decide) (by decide) ?_
  obtain ⟨S30, eS_S30⟩ : ∃ z : GS, z = nwS S22 11 12 := ⟨_, rfl⟩
  have h := h S30 eS_S30
  rw [← eS_S30] at hG
  have hx_S30 : gExt S30 S22 := by rw [eS_S30]; exact gExt.nw _ _ _
  have had0 := fun k (hk : k < gN S0) => (had k (Nat.lt_of_lt_of_le hk hsh.1)).trans (had0 k hk)
  have hsh := hx_S30.tr hsh
  have hk31 : gN S22 < gN S30 := by rw [eS_S30]; exact Nat.lt_succ_self _
  have hq32 : gK S30 (gN S22) = 11 := by rw [eS_S30]; exact va_up_self _ _ _
  have hk33 := hx_S30.lt hk23
  have hq34 := hx_S30.kd hk23 hq24
  have hk35 := hx_S30.lt hk25
  have hq36 := hx_S30.kd hk25 hq26
  have hk37 := hx_S30.lt hk27
  have hq38 := hx_S30.kd hk27 hq28
  refine r_putF (ci := 0) (C := RX0) (T := TX0) (N := 5) hx hb hts hin0 tyX0 tyX0_ok nmX0 hown hK hG hk33 (cell_0 hq34) rfl 2 (by decide) lk_18 (fun _ h9 => h9) rfl hmn rfl rfl rfl (Nat.le_of_ble_eq_true rfl) (S' := sR S30 k0 2 (some (gN S22))) rfl (pu_0_2 hq34 (some (gN S22))) dX0_init_25 (fun H locs hG => ?_)
  obtain ⟨S39, eS_S39⟩ : ∃ z : GS, z = sR S30 k0 2 (some (gN S22)) := ⟨_, rfl⟩
  have h := h S39 eS_S39
  rw [← eS_S39] at hG
  have hs_S39 : gSh S39 S30 := by rw [eS_S39]; exact gSh.r _ _ _ _
  have hsh := (gExt.ofSh hs_S39).tr hsh
  have hk40 := hs_S39.lt hk33
  have hq41 := hs_S39.kd hq34
  have hk42 := hs_S39.lt hk35
  have hq43 := hs_S39.kd hq36
  have hk44 := hs_S39.lt hk37
  have hq45 := hs_S39.kd hq38
  have hk46 := hs_S39.lt hk31
  have hq47 := hs_S39.kd hq32
  exact W.widen (k := 3) (n := 36) (by decide) (by decide) (W.vret hx hb hr (fun t ht hW => r_endA (r := none) hAe hG hsh had0 ⟨rfl, h⟩ rfl ht) hG.2.2.2.2 dX0_init_28)
def wX8_begin_79 (Q : Int32 → GS → Prop) (k0 : Nat) (x1 : Nat) (S : GS) : Prop :=
  x1 < gN S ∧ gK S x1 = 1 ∧ k0 < gN S ∧ gK S k0 = 8 ∧ ∀ S5 : GS, S5 = sX S k0 9 (gX S x1 3) → Q 0 S5
def wX8_begin_43 (Q : Int32 → GS → Prop) (k0 : Nat) (x1 : Nat) (x2 : Int32) (t0 : Option Nat) (S : GS) : Prop :=
  (t0 = none → k0 < gN S ∧ gK S k0 = 8 ∧ x1 < gN S ∧ gK S x1 = 1 ∧ closed S ∧ ∀ S17 : GS, S17 = nwS S 2 0 → wX2_init S17 (gN S) x1 (gX S17 k0 10) (fun S24 => gSh S24 S17 → (x2 = 0 → ∀ S32 : GS, S32 = sR S24 k0 7 (some (gN S)) → wX8_begin_79 Q k0 x1 S32) ∧ (¬ x2 = 0 → ∀ S39 : GS, S39 = sR S24 k0 8 (some (gN S)) → wX8_begin_79 Q k0 x1 S39))) ∧ (∀ q10 : Nat, t0 = some q10 → Q (-4) S)
def wX8_begin_13 (Q : Int32 → GS → Prop) (k0 : Nat) (x1 : Nat) (t0 : Int32) (S : GS) : Prop :=
  x1 < gN S ∧ gK S x1 = 1 ∧ k0 < gN S ∧ gK S k0 = 8 ∧ ((gX S k0 9) < (gX S x1 3) → (t0 = 0 → wX8_begin_43 Q k0 x1 t0 (gR S k0 7) S) ∧ (¬ t0 = 0 → wX8_begin_43 Q k0 x1 t0 (gR S k0 8) S)) ∧ (¬ (gX S k0 9) < (gX S x1 3) → Q (-3) S)
def wX8_begin (S : GS) (k0 : Nat) (x1 : Nat) (Q : Int32 → GS → Prop) : Prop :=
  x1 < gN S ∧ gK S x1 = 1 ∧ (¬ (gX S x1 0) = 4 → wX8_begin_13 Q k0 x1 0 S) ∧ ((gX S x1 0) = 4 → wX8_begin_13 Q k0 x1 1 S)
set_option maxHeartbeats 4000000 in
set_option maxRecDepth 100000 in
theorem tX8_begin (l : Launch) (S : GS) (k0 : Nat) (x1 : Nat) (Q : Int32 → GS → Prop) (h : wX8_begin S k0 x1 Q) : CA l yX8_begin wsX8_begin 2 1 15 S (gA [vR (some k0), vR (some x1)]) (fun r S9 => ∃ x, r = some (vI x) ∧ Q x S9) := by
  refine CA.ofW (cc := cX8_begin) (maxL := 4) (ret := (some .int)) RX8 (by decide) rfl rfl (fun _ _ _ => Nat.le_of_ble_eq_true rfl) ?_
  intro p e s m args below meth c D Y za zv ad A ls hAe hmn hx hb hr hml hts hown hlocks hK hZ hA hG hl
  obtain ⟨S0, hS0⟩ : ∃ z : GS, z = S := ⟨_, rfl⟩
  rw [← hS0] at hAe
  rw [← hS0]
  obtain ⟨ad0, ead⟩ : ∃ z : Nat → Nat, z = ad := ⟨_, rfl⟩
  rw [← ead] at hAe
  rw [← ead]
  have had0 : ∀ k, k < gN S0 → ad k = ad0 k := fun k _ => by rw [ead]
  have hin1 : ∀ w ∈ wsX10, w ∈ wsX8_begin := by decide +kernel
  have hin2 : ∀ w ∈ wsX20, w ∈ wsX8_begin := by decide +kernel
  have hin8 : ∀ w ∈ wsX80, w ∈ wsX8_begin := by decide +kernel
  have lk_264 := hts (.fieldLink RX8 264 "PauseLog$Entry" "shape" "I") (by decide +kernel)
  have lk_79 := hts (.fieldLink RX8 79 "PauseLog$Entry" "id" "I") (by decide +kernel)
  have lk_54 := hts (.fieldLink RX8 54 "PauseLog" "greatestId" "I") (by decide +kernel)
  have lk_148 := hts (.fieldLink RX8 148 "PauseLog" "openMark" "LPauseLog$Event;") (by decide +kernel)
  have lk_140 := hts (.fieldLink RX8 140 "PauseLog" "openPause" "LPauseLog$Event;") (by decide +kernel)
  have lk_110 := hts (.fieldLink RX8 110 "PauseLog" "lines" "I") (by decide +kernel)
  have b_79 : ∀  (x1 : Nat) (S : GS) (ad : Nat → Nat) (H : Heap) (locs : List Loc) (ls : Array Slot), wX8_begin_79 Q k0 x1 S → gExt S S0 → (∀ k, k < gN S0 → ad k = ad0 k) → gS D Y ad A s.heap S H locs → lv_has ls 4 [(0, .ref (ad k0)), (1, .ref (ad x1))] → W p l e (rmA 2 1 15) s m args below meth c H locs 1 15 (MQ below (gEA D Y za ad0 S0 s.heap.size (fun r S9 => ∃ x, r = some (vI x) ∧ Q x S9)) args s 1 15 A) (F0 m 79 ls []) := by
    intro  x1 S ad H locs ls h hsh had0 hG hl
    unfold wX8_begin_79 at h
    refine lv_aload_n hx hb dX8_begin_79 rfl (lv_at hl 0 rfl) ?_
    refine lv_aload_n hx hb dX8_begin_80 rfl (lv_at hl 1 rfl) ?_
    obtain ⟨hk1, hq2, h⟩ := h
    refine g_get (ci := 1) (C := RX1) (T := TX1) (N := 9) hx hb hts hin1 hown hK hG hk1 (cell_1 hq2) rfl 3 (by decide) lk_79 (fun _ h9 => h9) (v := .int (gX S x1 3)) rfl dX8_begin_81 ?_
    obtain ⟨hk3, hq4, h⟩ := h
    refine r_put (ci := 8) (C := RX8) (T := TX8) (N := 12) hx hb hts hin8 tyX8 tyX8_ok nmX8 hown hK hG hk3 (cell_8 hq4) rfl 9 (by decide) lk_54 (fun _ h9 => h9) rfl rfl rfl (Nat.le_of_ble_eq_true rfl) (S' := sX S k0 9 (gX S x1 3)) rfl (pu_8_9 hq4 (gX S x1 3)) dX8_begin_84 (fun H locs hG => ?_)
    obtain ⟨S5, eS_S5⟩ : ∃ z : GS, z = sX S k0 9 (gX S x1 3) := ⟨_, rfl⟩
    have h := h S5 eS_S5
    rw [← eS_S5] at hG
    have hs_S5 : gSh S5 S := by rw [eS_S5]; exact gSh.x _ _ _ _
    have hsh := (gExt.ofSh hs_S5).tr hsh
    have hk6 := hs_S5.lt hk1
    have hq7 := hs_S5.kd hq2
    have hk8 := hs_S5.lt hk3
    have hq9 := hs_S5.kd hq4
    refine lv_iconst (v := 0) hx hb dX8_begin_87 (by decide) ?_
    exact W.widen (k := 1) (n := 15) (by decide) (by decide) (W.iret (v := 0) hx hb hr (fun t ht hW => r_endA (r := some (vI 0)) hAe hG hsh had0 ⟨_, rfl, h⟩ rfl ht) hG.2.2.2.2 dX8_begin_88)
  have b_43 : ∀  (x1 : Nat) (x2 : Int32) (t0 : Option Nat) (S : GS) (ad : Nat → Nat) (H : Heap) (locs : List Loc) (ls : Array Slot), wX8_begin_43 Q k0 x1 x2 t0 S → gExt S S0 → (∀ k, k < gN S0 → ad k = ad0 k) → gS D Y ad A s.heap S H locs → lv_has ls 4 [(0, .ref (ad k0)), (1, .ref (ad x1)), (2, .int x2)] → W p l e (rmA 2 1 15) s m args below meth c H locs 0 0 (MQ below (gEA D Y za ad0 S0 s.heap.size (fun r S9 => ∃ x, r = some (vI x) ∧ Q x S9)) args s 1 15 A) (F0 m 43 ls [rv ad t0]) := by
    intro  x1 x2 t0 S ad H locs ls h hsh had0 hG hl
    unfold wX8_begin_43 at h
    cases e11 : t0 with
    | none =>
      have h := h.1 e11
      refine W.eq (g2 := F0 m 43 ls [.null]) (by first | rfl | rw [e11]; rfl) ?_
      refine lv_ifnullN (tgt := 49) hx hb dX8_begin_43 (by decide) ?_
      obtain ⟨hk12, hq13, h⟩ := h
      obtain ⟨hk14, hq15, h⟩ := h
      obtain ⟨hcd16, h⟩ := h
      refine r_new (ci := 2) (C := RX2) (T := TX2) (N := 15) (fs := [.int 0, .int 0, .int 0, .int 0, .int 0, .int 0, .int 0, .int 0, .int 0, .int 0, .int 0, .int 0, .int 0, .int 0, .int 0]) hx hb hts hin2 tyX2 tyX2_ok hown (hts (.classLink RX8 165 RX2) (by decide +kernel)) (hts (.instantiable RX2 15) (by decide +kernel)) (hts (.initialized RX2) (by decide +kernel)) hK hG hA hcd16 rfl (fun j hj => match j, hj with | 0, _ => rfl | 1, _ => rfl | 2, _ => rfl | 3, _ => rfl | 4, _ => rfl | 5, _ => rfl | 6, _ => rfl | 7, _ => rfl | 8, _ => rfl | 9, _ => rfl | 10, _ => rfl | 11, _ => rfl | 12, _ => rfl | 13, _ => rfl | 14, _ => rfl | j + 15, hj => absurd hj (by omega)) (fun _ => rfl) (by decide) (by decide) dX8_begin_49 (fun ad H had hG => ?_)
      have hl : lv_has ls 4 [(0, .ref (ad k0)), (1, .ref (ad x1)), (2, .int x2)] := by rw [had k0 hk12, had x1 hk14]; exact hl
      refine W.eq (g2 := F0 m 52 ls [.ref (ad (gN S))]) (by rfl) ?_
      refine W.widen (k := 1) (n := 15) (by decide) (by decide) ?_
      obtain ⟨S17, eS_S17⟩ : ∃ z : GS, z = nwS S 2 0 := ⟨_, rfl⟩
      have h := h S17 eS_S17
      rw [← eS_S17] at hG
      have hx_S17 : gExt S17 S := by rw [eS_S17]; exact gExt.nw _ _ _
      have had0 := fun k (hk : k < gN S0) => (had k (Nat.lt_of_lt_of_le hk hsh.1)).trans (had0 k hk)
      have hsh := hx_S17.tr hsh
      have hk18 : gN S < gN S17 := by rw [eS_S17]; exact Nat.lt_succ_self _
      have hq19 : gK S17 (gN S) = 2 := by rw [eS_S17]; exact va_up_self _ _ _
      have hk20 := hx_S17.lt hk12
      have hq21 := hx_S17.kd hk12 hq13
      have hk22 := hx_S17.lt hk14
      have hq23 := hx_S17.kd hk14 hq15
      refine lv_dup hx hb dX8_begin_52 rfl ?_
      refine lv_aload_n hx hb dX8_begin_53 rfl (lv_at hl 1 rfl) ?_
      refine lv_aload_n hx hb dX8_begin_54 rfl (lv_at hl 0 rfl) ?_
      refine g_get (ci := 8) (C := RX8) (T := TX8) (N := 12) hx hb hts hin8 hown hK hG hk20 (cell_8 hq21) rfl 10 (by decide) lk_110 (fun _ h9 => h9) (v := .int (gX S17 k0 10)) rfl dX8_begin_55 ?_
      refine r_callI (za := za) (k := gN S) (As := [vR (some x1), vI (gX S17 k0 10)]) (rest := [.ref (ad (gN S))]) (tX2_init l S17 (gN S) x1 (gX S17 k0 10) _ h) ⟨hx, hb, hml, hown, hts⟩ (cwI 2 hts gX8_begin_X2_init rfl rfl rfl (hts (.initialized RX2) (by decide +kernel)) (hts (.methodLink RX8 279 yX2_init) (by decide +kernel)) (hts (.instanceMethod yX2_init) (by decide +kernel)) rfl (by decide +kernel) ⟨by decide, by decide⟩) hK hG hA rfl hl.1 rfl (Nat.le_of_ble_eq_true rfl) ⟨by decide, by decide⟩ dX8_begin_58 (fun r_9 S24 H locs hp hs_S24 hG => ?_)
      obtain ⟨rfl, h⟩ := hp
      have h := h hs_S24
      refine W.eq (g2 := F0 m 61 ls [.ref (ad (gN S))]) rfl ?_
      have hsh := (gExt.ofSh hs_S24).tr hsh
      have hk26 := hs_S24.lt hk20
      have hq27 := hs_S24.kd hq21
      have hk28 := hs_S24.lt hk22
      have hq29 := hs_S24.kd hq23
      have hk30 := hs_S24.lt hk18
      have hq31 := hs_S24.kd hq19
      refine lv_astore_n (lv' := [(3, .ref (ad (gN S))), (0, .ref (ad k0)), (1, .ref (ad x1)), (2, .int x2)]) hx hb dX8_begin_61 rfl hl (by decide) rfl (fun ls hl => ?_)
      refine lv_iload_n hx hb dX8_begin_62 rfl (lv_at hl 3 rfl) ?_
      refine lv_if_eq (tgt := 74) hx hb dX8_begin_63 (by decide) (fun c_63 => ?_) (fun c_63 => ?_)
      · have h := h.1 c_63
        refine lv_aload_n hx hb dX8_begin_74 rfl (lv_at hl 1 rfl) ?_
        refine lv_aload_n hx hb dX8_begin_75 rfl (lv_at hl 0 rfl) ?_
        refine r_put (ci := 8) (C := RX8) (T := TX8) (N := 12) hx hb hts hin8 tyX8 tyX8_ok nmX8 hown hK hG hk26 (cell_8 hq27) rfl 7 (by decide) lk_140 (fun _ h9 => h9) rfl rfl rfl (Nat.le_of_ble_eq_true rfl) (S' := sR S24 k0 7 (some (gN S))) rfl (pu_8_7 hq27 (some (gN S))) dX8_begin_76 (fun H locs hG => ?_)
        obtain ⟨S32, eS_S32⟩ : ∃ z : GS, z = sR S24 k0 7 (some (gN S)) := ⟨_, rfl⟩
        have h := h S32 eS_S32
        rw [← eS_S32] at hG
        have hs_S32 : gSh S32 S24 := by rw [eS_S32]; exact gSh.r _ _ _ _
        have hsh := (gExt.ofSh hs_S32).tr hsh
        have hk33 := hs_S32.lt hk26
        have hq34 := hs_S32.kd hq27
        have hk35 := hs_S32.lt hk28
        have hq36 := hs_S32.kd hq29
        have hk37 := hs_S32.lt hk30
        have hq38 := hs_S32.kd hq31
        exact b_79 x1 S32 ad H locs ls h hsh had0 hG (lv_sub hl [1, 2] rfl)
      · have h := h.2 c_63
        refine lv_aload_n hx hb dX8_begin_66 rfl (lv_at hl 1 rfl) ?_
        refine lv_aload_n hx hb dX8_begin_67 rfl (lv_at hl 0 rfl) ?_
        refine r_put (ci := 8) (C := RX8) (T := TX8) (N := 12) hx hb hts hin8 tyX8 tyX8_ok nmX8 hown hK hG hk26 (cell_8 hq27) rfl 8 (by decide) lk_148 (fun _ h9 => h9) rfl rfl rfl (Nat.le_of_ble_eq_true rfl) (S' := sR S24 k0 8 (some (gN S))) rfl (pu_8_8 hq27 (some (gN S))) dX8_begin_68 (fun H locs hG => ?_)
        obtain ⟨S39, eS_S39⟩ : ∃ z : GS, z = sR S24 k0 8 (some (gN S)) := ⟨_, rfl⟩
        have h := h S39 eS_S39
        rw [← eS_S39] at hG
        have hs_S39 : gSh S39 S24 := by rw [eS_S39]; exact gSh.r _ _ _ _
        have hsh := (gExt.ofSh hs_S39).tr hsh
        have hk40 := hs_S39.lt hk26
        have hq41 := hs_S39.kd hq27
        have hk42 := hs_S39.lt hk28
        have hq43 := hs_S39.kd hq29
        have hk44 := hs_S39.lt hk30
        have hq45 := hs_S39.kd hq31
        refine lv_goto (tgt := 79) hx hb dX8_begin_71 (by decide) ?_
        exact b_79 x1 S39 ad H locs ls h hsh had0 hG (lv_sub hl [1, 2] rfl)
    | some q10 =>
      have h := h.2 q10 e11
      refine W.eq (g2 := F0 m 43 ls [.ref (ad q10)]) (by first | rfl | rw [e11]; rfl) ?_
      refine lv_ifnull hx hb dX8_begin_43 ?_
      refine lv_bipush (v := (-4)) hx hb dX8_begin_46 (by decide) ?_
      exact W.widen (k := 1) (n := 15) (by decide) (by decide) (W.iret (v := (-4)) hx hb hr (fun t ht hW => r_endA (r := some (vI (-4))) hAe hG hsh had0 ⟨_, rfl, h⟩ rfl ht) hG.2.2.2.2 dX8_begin_48)
  have b_13 : ∀  (x1 : Nat) (t0 : Int32) (S : GS) (ad : Nat → Nat) (H : Heap) (locs : List Loc) (ls : Array Slot), wX8_begin_13 Q k0 x1 t0 S → gExt S S0 → (∀ k, k < gN S0 → ad k = ad0 k) → gS D Y ad A s.heap S H locs → lv_has ls 4 [(0, .ref (ad k0)), (1, .ref (ad x1))] → W p l e (rmA 2 1 15) s m args below meth c H locs 0 0 (MQ below (gEA D Y za ad0 S0 s.heap.size (fun r S9 => ∃ x, r = some (vI x) ∧ Q x S9)) args s 1 15 A) (F0 m 13 ls [.int t0]) := by
    intro  x1 t0 S ad H locs ls h hsh had0 hG hl
    unfold wX8_begin_13 at h
    refine lv_istore_n (lv' := [(2, .int t0), (0, .ref (ad k0)), (1, .ref (ad x1))]) hx hb dX8_begin_13 rfl hl (by decide) rfl (fun ls hl => ?_)
    refine lv_aload_n hx hb dX8_begin_14 rfl (lv_at hl 2 rfl) ?_
    obtain ⟨hk46, hq47, h⟩ := h
    refine g_get (ci := 1) (C := RX1) (T := TX1) (N := 9) hx hb hts hin1 hown hK hG hk46 (cell_1 hq47) rfl 3 (by decide) lk_79 (fun _ h9 => h9) (v := .int (gX S x1 3)) rfl dX8_begin_15 ?_
    refine lv_aload_n hx hb dX8_begin_18 rfl (lv_at hl 1 rfl) ?_
    obtain ⟨hk48, hq49, h⟩ := h
    refine g_get (ci := 8) (C := RX8) (T := TX8) (N := 12) hx hb hts hin8 hown hK hG hk48 (cell_8 hq49) rfl 9 (by decide) lk_54 (fun _ h9 => h9) (v := .int (gX S k0 9)) rfl dX8_begin_19 ?_
    refine lv_icmp_gt (tgt := 28) hx hb dX8_begin_22 (by decide) (fun c_22 => ?_) (fun c_22 => ?_)
    · have h := h.1 c_22
      refine lv_iload_n hx hb dX8_begin_28 rfl (lv_at hl 0 rfl) ?_
      refine lv_if_eq (tgt := 39) hx hb dX8_begin_29 (by decide) (fun c_29 => ?_) (fun c_29 => ?_)
      · have h := h.1 c_29
        refine lv_aload_n hx hb dX8_begin_39 rfl (lv_at hl 1 rfl) ?_
        refine g_get (ci := 8) (C := RX8) (T := TX8) (N := 12) hx hb hts hin8 hown hK hG hk48 (cell_8 hq49) rfl 7 (by decide) lk_140 (fun _ h9 => h9) (v := rv ad (gR S k0 7)) rfl dX8_begin_40 ?_
        exact b_43 x1 t0 (gR S k0 7) S ad H locs ls h hsh had0 hG (lv_sub hl [1, 2, 0] rfl)
      · have h := h.2 c_29
        refine lv_aload_n hx hb dX8_begin_32 rfl (lv_at hl 1 rfl) ?_
        refine g_get (ci := 8) (C := RX8) (T := TX8) (N := 12) hx hb hts hin8 hown hK hG hk48 (cell_8 hq49) rfl 8 (by decide) lk_148 (fun _ h9 => h9) (v := rv ad (gR S k0 8)) rfl dX8_begin_33 ?_
        refine lv_goto (tgt := 43) hx hb dX8_begin_36 (by decide) ?_
        exact b_43 x1 t0 (gR S k0 8) S ad H locs ls h hsh had0 hG (lv_sub hl [1, 2, 0] rfl)
    · have h := h.2 c_22
      refine lv_bipush (v := (-3)) hx hb dX8_begin_25 (by decide) ?_
      exact W.widen (k := 1) (n := 15) (by decide) (by decide) (W.iret (v := (-3)) hx hb hr (fun t ht hW => r_endA (r := some (vI (-3))) hAe hG hsh had0 ⟨_, rfl, h⟩ rfl ht) hG.2.2.2.2 dX8_begin_27)
  have hl : lv_has ls 4 [(0, .ref (ad k0)), (1, .ref (ad x1))] := hl
  have hsh : gExt S S0 := by rw [hS0]; exact gExt.rf S
  obtain ⟨H, eH⟩ : ∃ z : Heap, z = s.heap := ⟨_, rfl⟩
  obtain ⟨locs, eL⟩ : ∃ z : List Loc, z = [] := ⟨_, rfl⟩
  have hG : gS D Y ad A s.heap S H locs := by rw [eH, eL]; exact hG
  suffices hgoal : W p l e (rmA 2 1 15) s m args below meth c H locs 0 0 (MQ below (gEA D Y za ad0 S0 s.heap.size (fun r S9 => ∃ x, r = some (vI x) ∧ Q x S9)) args s 1 15 A) (F0 m 0 ls []) by rw [eH, eL] at hgoal; exact hgoal
  unfold wX8_begin at h
  refine lv_aload_n hx hb dX8_begin_0 rfl (lv_at hl 1 rfl) ?_
  obtain ⟨hk50, hq51, h⟩ := h
  refine g_get (ci := 1) (C := RX1) (T := TX1) (N := 9) hx hb hts hin1 hown hK hG hk50 (cell_1 hq51) rfl 0 (by decide) lk_264 (fun _ h9 => h9) (v := .int (gX S x1 0)) rfl dX8_begin_1 ?_
  refine lv_iconst (v := 4) hx hb dX8_begin_4 (by decide) ?_
  refine lv_icmp_ne (tgt := 12) hx hb dX8_begin_5 (by decide) (fun c_5 => ?_) (fun c_5 => ?_)
  · have h := h.1 c_5
    refine lv_iconst (v := 0) hx hb dX8_begin_12 (by decide) ?_
    exact b_13 x1 0 S ad H locs ls h hsh had0 hG (lv_sub hl [0, 1] rfl)
  · have h := h.2 c_5
    refine lv_iconst (v := 1) hx hb dX8_begin_8 (by decide) ?_
    refine lv_goto (tgt := 13) hx hb dX8_begin_9 (by decide) ?_
    exact b_13 x1 1 S ad H locs ls h hsh had0 hG (lv_sub hl [0, 1] rfl)
def wX8_answerTo_68 (Q : Int32 → GS → Prop) (k0 : Nat) (x1 : Nat) (S : GS) : Prop :=
  k0 < gN S ∧ gK S k0 = 8 ∧ x1 < gN S ∧ gK S x1 = 1 ∧ wX8_begin S k0 x1 (fun u6 S5 => gExt S5 S → Q u6 S5)
def wX8_answerTo_74 (Q : Int32 → GS → Prop) (k0 : Nat) (x1 : Nat) (S : GS) : Prop :=
  k0 < gN S ∧ gK S k0 = 8 ∧ wX8_addPart S k0 x1 (fun u14 S13 => gSh S13 S → Q u14 S13)
def wX8_answerTo (S : GS) (k0 : Nat) (x1 : Nat) (Q : Int32 → GS → Prop) : Prop :=
  k0 < gN S ∧ gK S k0 = 8 ∧ x1 < gN S ∧ gK S x1 = 1 ∧ ∃ q21 : Nat, gR S k0 5 = some q21 ∧ q21 < gN S ∧ gK S q21 = 7 ∧ wX7_isBack S q21 (gX S x1 4) (fun u26 S25 => gSh S25 S → (u26 = 0 → ∃ q33 : Nat, gR S25 k0 5 = some q33 ∧ q33 < gN S25 ∧ gK S25 q33 = 7 ∧ wX7_see S25 q33 (gX S25 x1 4) (fun S37 => gSh S37 S25 → ((gX S37 x1 0) = 0 → wX8_answerTo_68 Q k0 x1 S37) ∧ ((gX S37 x1 0) = 1 → wX8_endPause S37 k0 x1 (fun u48 S47 => gSh S47 S37 → Q u48 S47)) ∧ ((gX S37 x1 0) = 2 → wX8_answerTo_74 Q k0 x1 S37) ∧ ((gX S37 x1 0) = 3 → wX8_answerTo_74 Q k0 x1 S37) ∧ ((gX S37 x1 0) = 4 → wX8_answerTo_68 Q k0 x1 S37) ∧ (¬ (gX S37 x1 0) = 0 → ¬ (gX S37 x1 0) = 1 → ¬ (gX S37 x1 0) = 2 → ¬ (gX S37 x1 0) = 3 → ¬ (gX S37 x1 0) = 4 → wX8_endMark S37 k0 x1 (fun u58 S57 => gSh S57 S37 → Q u58 S57)))) ∧ (¬ u26 = 0 → Q (-2) S25))
set_option maxHeartbeats 4000000 in
set_option maxRecDepth 100000 in
theorem tX8_answerTo (l : Launch) (S : GS) (k0 : Nat) (x1 : Nat) (Q : Int32 → GS → Prop) (h : wX8_answerTo S k0 x1 Q) : CA l yX8_answerTo wsX8_answerTo 3 1 15 S (gA [vR (some k0), vR (some x1)]) (fun r S9 => ∃ x, r = some (vI x) ∧ Q x S9) := by
  refine CA.ofW (cc := cX8_answerTo) (maxL := 2) (ret := (some .int)) RX8 (by decide) rfl rfl (fun _ _ _ => Nat.le_of_ble_eq_true rfl) ?_
  intro p e s m args below meth c D Y za zv ad A ls hAe hmn hx hb hr hml hts hown hlocks hK hZ hA hG hl
  obtain ⟨S0, hS0⟩ : ∃ z : GS, z = S := ⟨_, rfl⟩
  rw [← hS0] at hAe
  rw [← hS0]
  obtain ⟨ad0, ead⟩ : ∃ z : Nat → Nat, z = ad := ⟨_, rfl⟩
  rw [← ead] at hAe
  rw [← ead]
  have had0 : ∀ k, k < gN S0 → ad k = ad0 k := fun k _ => by rw [ead]
  have hin1 : ∀ w ∈ wsX10, w ∈ wsX8_answerTo := by decide +kernel
  have hin8 : ∀ w ∈ wsX80, w ∈ wsX8_answerTo := by decide +kernel
  have lk_43 := hts (.fieldLink RX8 43 "PauseLog" "times" "LPauseLog$Times;") (by decide +kernel)
  have lk_82 := hts (.fieldLink RX8 82 "PauseLog$Entry" "time" "I") (by decide +kernel)
  have lk_264 := hts (.fieldLink RX8 264 "PauseLog$Entry" "shape" "I") (by decide +kernel)
  have b_68 : ∀  (x1 : Nat) (S : GS) (ad : Nat → Nat) (H : Heap) (locs : List Loc) (ls : Array Slot), wX8_answerTo_68 Q k0 x1 S → gExt S S0 → (∀ k, k < gN S0 → ad k = ad0 k) → gS D Y ad A s.heap S H locs → lv_has ls 2 [(0, .ref (ad k0)), (1, .ref (ad x1))] → W p l e (rmA 3 1 15) s m args below meth c H locs 0 0 (MQ below (gEA D Y za ad0 S0 s.heap.size (fun r S9 => ∃ x, r = some (vI x) ∧ Q x S9)) args s 1 15 A) (F0 m 68 ls []) := by
    intro  x1 S ad H locs ls h hsh had0 hG hl
    unfold wX8_answerTo_68 at h
    refine lv_aload_n hx hb dX8_answerTo_68 rfl (lv_at hl 0 rfl) ?_
    refine lv_aload_n hx hb dX8_answerTo_69 rfl (lv_at hl 1 rfl) ?_
    obtain ⟨hk1, hq2, h⟩ := h
    obtain ⟨hk3, hq4, h⟩ := h
    refine a_callV (As := [.ref (ad x1)]) (rest := []) (tX8_begin l S k0 x1 _ h) rfl ⟨hx, hb, hml, hown, hts⟩ (cwV 1 hts gX8_answerTo_X8_begin rfl rfl rfl (by decide +kernel) ⟨by decide, by decide⟩) hK hZ hG hA (va_recv hK hG.1 (ci := 8) (q := (RX8, TX8, 12)) rfl (wl_get hk1 (cell_8 hq2))) rfl hl.1 rfl (Nat.le_of_ble_eq_true rfl) ⟨by decide, by decide⟩ dX8_answerTo_70 (fun r_9 S5 ad H locs hp hx_S5 had hG => ?_)
    obtain ⟨u6, rfl, h⟩ := hp
    have h := h hx_S5
    have hl : lv_has ls 2 [(0, .ref (ad k0)), (1, .ref (ad x1))] := by rw [had k0 hk1, had x1 hk3]; exact hl
    refine W.eq (g2 := F0 m 73 ls [.int u6]) (by rfl) ?_
    refine W.widen (k := 1) (n := 15) (by decide) (by decide) ?_
    have had0 := fun k (hk : k < gN S0) => (had k (Nat.lt_of_lt_of_le hk hsh.1)).trans (had0 k hk)
    have hsh := hx_S5.tr hsh
    have hk7 := hx_S5.lt hk1
    have hq8 := hx_S5.kd hk1 hq2
    have hk9 := hx_S5.lt hk3
    have hq10 := hx_S5.kd hk3 hq4
    exact W.widen (k := 1) (n := 15) (by decide) (by decide) (W.iret (v := u6) hx hb hr (fun t ht hW => r_endA (r := some (vI u6)) hAe hG hsh had0 ⟨_, rfl, h⟩ rfl ht) hG.2.2.2.2 dX8_answerTo_73)
  have b_74 : ∀  (x1 : Nat) (S : GS) (ad : Nat → Nat) (H : Heap) (locs : List Loc) (ls : Array Slot), wX8_answerTo_74 Q k0 x1 S → gExt S S0 → (∀ k, k < gN S0 → ad k = ad0 k) → gS D Y ad A s.heap S H locs → lv_has ls 2 [(0, .ref (ad k0)), (1, .ref (ad x1))] → W p l e (rmA 3 1 15) s m args below meth c H locs 0 0 (MQ below (gEA D Y za ad0 S0 s.heap.size (fun r S9 => ∃ x, r = some (vI x) ∧ Q x S9)) args s 1 15 A) (F0 m 74 ls []) := by
    intro  x1 S ad H locs ls h hsh had0 hG hl
    unfold wX8_answerTo_74 at h
    refine lv_aload_n hx hb dX8_answerTo_74 rfl (lv_at hl 0 rfl) ?_
    refine lv_aload_n hx hb dX8_answerTo_75 rfl (lv_at hl 1 rfl) ?_
    obtain ⟨hk11, hq12, h⟩ := h
    refine r_callV (za := za) (k := k0) (ci := 8) (C := RX8) (T := TX8) (N := 12) (As := [vR (some x1)]) (rest := []) (tX8_addPart l S k0 x1 _ h) ⟨hx, hb, hml, hown, hts⟩ (cwV 1 hts gX8_answerTo_X8_addPart rfl rfl rfl (by decide +kernel) ⟨by decide, by decide⟩) hK hG hA hk11 (cell_8 hq12) rfl rfl hl.1 rfl (Nat.le_of_ble_eq_true rfl) ⟨by decide, by decide⟩ dX8_answerTo_76 (fun r_9 S13 H locs hp hs_S13 hG => ?_)
    obtain ⟨u14, rfl, h⟩ := hp
    have h := h hs_S13
    refine W.eq (g2 := F0 m 79 ls [.int u14]) rfl ?_
    have hsh := (gExt.ofSh hs_S13).tr hsh
    have hk15 := hs_S13.lt hk11
    have hq16 := hs_S13.kd hq12
    exact W.widen (k := 1) (n := 15) (by decide) (by decide) (W.iret (v := u14) hx hb hr (fun t ht hW => r_endA (r := some (vI u14)) hAe hG hsh had0 ⟨_, rfl, h⟩ rfl ht) hG.2.2.2.2 dX8_answerTo_79)
  have hl : lv_has ls 2 [(0, .ref (ad k0)), (1, .ref (ad x1))] := hl
  have hsh : gExt S S0 := by rw [hS0]; exact gExt.rf S
  obtain ⟨H, eH⟩ : ∃ z : Heap, z = s.heap := ⟨_, rfl⟩
  obtain ⟨locs, eL⟩ : ∃ z : List Loc, z = [] := ⟨_, rfl⟩
  have hG : gS D Y ad A s.heap S H locs := by rw [eH, eL]; exact hG
  suffices hgoal : W p l e (rmA 3 1 15) s m args below meth c H locs 0 0 (MQ below (gEA D Y za ad0 S0 s.heap.size (fun r S9 => ∃ x, r = some (vI x) ∧ Q x S9)) args s 1 15 A) (F0 m 0 ls []) by rw [eH, eL] at hgoal; exact hgoal
  unfold wX8_answerTo at h
  refine lv_aload_n hx hb dX8_answerTo_0 rfl (lv_at hl 0 rfl) ?_
  obtain ⟨hk17, hq18, h⟩ := h
  refine g_get (ci := 8) (C := RX8) (T := TX8) (N := 12) hx hb hts hin8 hown hK hG hk17 (cell_8 hq18) rfl 5 (by decide) lk_43 (fun _ h9 => h9) (v := rv ad (gR S k0 5)) rfl dX8_answerTo_1 ?_
  refine lv_aload_n hx hb dX8_answerTo_4 rfl (lv_at hl 1 rfl) ?_
  obtain ⟨hk19, hq20, h⟩ := h
  refine g_get (ci := 1) (C := RX1) (T := TX1) (N := 9) hx hb hts hin1 hown hK hG hk19 (cell_1 hq20) rfl 4 (by decide) lk_82 (fun _ h9 => h9) (v := .int (gX S x1 4)) rfl dX8_answerTo_5 ?_
  obtain ⟨q21, e22, h⟩ := h
  refine W.eq (g2 := F0 m 8 ls [.int (gX S x1 4), .ref (ad q21)]) (by rw [e22]; rfl) ?_
  obtain ⟨hk23, hq24, h⟩ := h
  refine r_callV (za := za) (k := q21) (ci := 7) (C := RX7) (T := TX7) (N := 3) (As := [vI (gX S x1 4)]) (rest := []) (tX7_isBack l S q21 (gX S x1 4) _ h) ⟨hx, hb, hml, hown, hts⟩ (cwV 1 hts gX8_answerTo_X7_isBack rfl rfl rfl (by decide +kernel) ⟨by decide, by decide⟩) hK hG hA hk23 (cell_7 hq24) rfl rfl hl.1 rfl (Nat.le_of_ble_eq_true rfl) ⟨by decide, by decide⟩ dX8_answerTo_8 (fun r_9 S25 H locs hp hs_S25 hG => ?_)
  obtain ⟨u26, rfl, h⟩ := hp
  have h := h hs_S25
  refine W.eq (g2 := F0 m 11 ls [.int u26]) rfl ?_
  have hsh := (gExt.ofSh hs_S25).tr hsh
  have hk27 := hs_S25.lt hk17
  have hq28 := hs_S25.kd hq18
  have hk29 := hs_S25.lt hk19
  have hq30 := hs_S25.kd hq20
  have hk31 := hs_S25.lt hk23
  have hq32 := hs_S25.kd hq24
  refine lv_if_eq (tgt := 17) hx hb dX8_answerTo_11 (by decide) (fun c_11 => ?_) (fun c_11 => ?_)
  · have h := h.1 c_11
    refine lv_aload_n hx hb dX8_answerTo_17 rfl (lv_at hl 0 rfl) ?_
    refine g_get (ci := 8) (C := RX8) (T := TX8) (N := 12) hx hb hts hin8 hown hK hG hk27 (cell_8 hq28) rfl 5 (by decide) lk_43 (fun _ h9 => h9) (v := rv ad (gR S25 k0 5)) rfl dX8_answerTo_18 ?_
    refine lv_aload_n hx hb dX8_answerTo_21 rfl (lv_at hl 1 rfl) ?_
    refine g_get (ci := 1) (C := RX1) (T := TX1) (N := 9) hx hb hts hin1 hown hK hG hk29 (cell_1 hq30) rfl 4 (by decide) lk_82 (fun _ h9 => h9) (v := .int (gX S25 x1 4)) rfl dX8_answerTo_22 ?_
    obtain ⟨q33, e34, h⟩ := h
    refine W.eq (g2 := F0 m 25 ls [.int (gX S25 x1 4), .ref (ad q33)]) (by rw [e34]; rfl) ?_
    obtain ⟨hk35, hq36, h⟩ := h
    refine r_callV (za := za) (k := q33) (ci := 7) (C := RX7) (T := TX7) (N := 3) (As := [vI (gX S25 x1 4)]) (rest := []) (tX7_see l S25 q33 (gX S25 x1 4) _ h) ⟨hx, hb, hml, hown, hts⟩ (cwV 1 hts gX8_answerTo_X7_see rfl rfl rfl (by decide +kernel) ⟨by decide, by decide⟩) hK hG hA hk35 (cell_7 hq36) rfl rfl hl.1 rfl (Nat.le_of_ble_eq_true rfl) ⟨by decide, by decide⟩ dX8_answerTo_25 (fun r_9 S37 H locs hp hs_S37 hG => ?_)
    obtain ⟨rfl, h⟩ := hp
    have h := h hs_S37
    refine W.eq (g2 := F0 m 28 ls []) rfl ?_
    have hsh := (gExt.ofSh hs_S37).tr hsh
    have hk39 := hs_S37.lt hk27
    have hq40 := hs_S37.kd hq28
    have hk41 := hs_S37.lt hk29
    have hq42 := hs_S37.kd hq30
    have hk43 := hs_S37.lt hk31
    have hq44 := hs_S37.kd hq32
    have hk45 := hs_S37.lt hk35
    have hq46 := hs_S37.kd hq36
    refine lv_aload_n hx hb dX8_answerTo_28 rfl (lv_at hl 1 rfl) ?_
    refine g_get (ci := 1) (C := RX1) (T := TX1) (N := 9) hx hb hts hin1 hown hK hG hk41 (cell_1 hq42) rfl 0 (by decide) lk_264 (fun _ h9 => h9) (v := .int (gX S37 x1 0)) rfl dX8_answerTo_29 ?_
    by_cases q_32_0 : (gX S37 x1 0) = 0
    · have h := h.1 q_32_0
      refine lv_tableIn (tgt := 68) hx hb dX8_answerTo_32 (by rw [q_32_0]; decide) (by rw [q_32_0]; decide) (by rw [q_32_0]; rfl) (by decide) ?_
      exact b_68 x1 S37 ad H locs ls h hsh had0 hG (lv_sub hl [0, 1] rfl)
    by_cases q_32_1 : (gX S37 x1 0) = 1
    · have h := h.2.1 q_32_1
      refine lv_tableIn (tgt := 80) hx hb dX8_answerTo_32 (by rw [q_32_1]; decide) (by rw [q_32_1]; decide) (by rw [q_32_1]; rfl) (by decide) ?_
      refine lv_aload_n hx hb dX8_answerTo_80 rfl (lv_at hl 0 rfl) ?_
      refine lv_aload_n hx hb dX8_answerTo_81 rfl (lv_at hl 1 rfl) ?_
      refine r_callV (za := za) (k := k0) (ci := 8) (C := RX8) (T := TX8) (N := 12) (As := [vR (some x1)]) (rest := []) (tX8_endPause l S37 k0 x1 _ h) ⟨hx, hb, hml, hown, hts⟩ (cwV 1 hts gX8_answerTo_X8_endPause rfl rfl rfl (by decide +kernel) ⟨by decide, by decide⟩) hK hG hA hk39 (cell_8 hq40) rfl rfl hl.1 rfl (Nat.le_of_ble_eq_true rfl) ⟨by decide, by decide⟩ dX8_answerTo_82 (fun r_9 S47 H locs hp hs_S47 hG => ?_)
      obtain ⟨u48, rfl, h⟩ := hp
      have h := h hs_S47
      refine W.eq (g2 := F0 m 85 ls [.int u48]) rfl ?_
      have hsh := (gExt.ofSh hs_S47).tr hsh
      have hk49 := hs_S47.lt hk39
      have hq50 := hs_S47.kd hq40
      have hk51 := hs_S47.lt hk41
      have hq52 := hs_S47.kd hq42
      have hk53 := hs_S47.lt hk43
      have hq54 := hs_S47.kd hq44
      have hk55 := hs_S47.lt hk45
      have hq56 := hs_S47.kd hq46
      exact W.widen (k := 1) (n := 15) (by decide) (by decide) (W.iret (v := u48) hx hb hr (fun t ht hW => r_endA (r := some (vI u48)) hAe hG hsh had0 ⟨_, rfl, h⟩ rfl ht) hG.2.2.2.2 dX8_answerTo_85)
    by_cases q_32_2 : (gX S37 x1 0) = 2
    · have h := h.2.2.1 q_32_2
      refine lv_tableIn (tgt := 74) hx hb dX8_answerTo_32 (by rw [q_32_2]; decide) (by rw [q_32_2]; decide) (by rw [q_32_2]; rfl) (by decide) ?_
      exact b_74 x1 S37 ad H locs ls h hsh had0 hG (lv_sub hl [0, 1] rfl)
    by_cases q_32_3 : (gX S37 x1 0) = 3
    · have h := h.2.2.2.1 q_32_3
      refine lv_tableIn (tgt := 74) hx hb dX8_answerTo_32 (by rw [q_32_3]; decide) (by rw [q_32_3]; decide) (by rw [q_32_3]; rfl) (by decide) ?_
      exact b_74 x1 S37 ad H locs ls h hsh had0 hG (lv_sub hl [0, 1] rfl)
    by_cases q_32_4 : (gX S37 x1 0) = 4
    · have h := h.2.2.2.2.1 q_32_4
      refine lv_tableIn (tgt := 68) hx hb dX8_answerTo_32 (by rw [q_32_4]; decide) (by rw [q_32_4]; decide) (by rw [q_32_4]; rfl) (by decide) ?_
      exact b_68 x1 S37 ad H locs ls h hsh had0 hG (lv_sub hl [0, 1] rfl)
    have h := h.2.2.2.2.2 q_32_0 q_32_1 q_32_2 q_32_3 q_32_4
    refine lv_tableOut (tgt := 86) hx hb dX8_answerTo_32 (tab0 (N := 4) (fun k hk => match k, hk with | 0, _ => q_32_0 | 1, _ => q_32_1 | 2, _ => q_32_2 | 3, _ => q_32_3 | 4, _ => q_32_4 | k + 5, hk => absurd hk (by omega)) (by decide)) (by decide) ?_
    refine lv_aload_n hx hb dX8_answerTo_86 rfl (lv_at hl 0 rfl) ?_
    refine lv_aload_n hx hb dX8_answerTo_87 rfl (lv_at hl 1 rfl) ?_
    refine r_callV (za := za) (k := k0) (ci := 8) (C := RX8) (T := TX8) (N := 12) (As := [vR (some x1)]) (rest := []) (tX8_endMark l S37 k0 x1 _ h) ⟨hx, hb, hml, hown, hts⟩ (cwV 1 hts gX8_answerTo_X8_endMark rfl rfl rfl (by decide +kernel) ⟨by decide, by decide⟩) hK hG hA hk39 (cell_8 hq40) rfl rfl hl.1 rfl (Nat.le_of_ble_eq_true rfl) ⟨by decide, by decide⟩ dX8_answerTo_88 (fun r_9 S57 H locs hp hs_S57 hG => ?_)
    obtain ⟨u58, rfl, h⟩ := hp
    have h := h hs_S57
    refine W.eq (g2 := F0 m 91 ls [.int u58]) rfl ?_
    have hsh := (gExt.ofSh hs_S57).tr hsh
    have hk59 := hs_S57.lt hk39
    have hq60 := hs_S57.kd hq40
    have hk61 := hs_S57.lt hk41
    have hq62 := hs_S57.kd hq42
    have hk63 := hs_S57.lt hk43
    have hq64 := hs_S57.kd hq44
    have hk65 := hs_S57.lt hk45
    have hq66 := hs_S57.kd hq46
    exact W.widen (k := 1) (n := 15) (by decide) (by decide) (W.iret (v := u58) hx hb hr (fun t ht hW => r_endA (r := some (vI u58)) hAe hG hsh had0 ⟨_, rfl, h⟩ rfl ht) hG.2.2.2.2 dX8_answerTo_91)
  · have h := h.2 c_11
    refine lv_bipush (v := (-2)) hx hb dX8_answerTo_14 (by decide) ?_
    exact W.widen (k := 1) (n := 15) (by decide) (by decide) (W.iret (v := (-2)) hx hb hr (fun t ht hW => r_endA (r := some (vI (-2))) hAe hG hsh had0 ⟨_, rfl, h⟩ rfl ht) hG.2.2.2.2 dX8_answerTo_16)
def wX8_line_97 (Q : Int32 → GS → Prop) (k0 : Nat) (x3 : Int32) (S : GS) : Prop :=
  Q x3 S
def wX8_line_93 (Q : Int32 → GS → Prop) (k0 : Nat) (x3 : Int32) (t0 : Option Nat) (t1 : Int32) (t2 : Int32) (t3 : Int32) (S : GS) : Prop :=
  ∃ q1 : Nat, t0 = some q1 ∧ q1 < gN S ∧ gK S q1 = 0 ∧ wX0_add S q1 t1 t2 t3 1 (fun S5 => gSh S5 S → wX8_line_97 Q k0 x3 S5)
def wX8_line_66 (Q : Int32 → GS → Prop) (k0 : Nat) (x1 : Nat) (x2 : Int32) (t0 : Int32) (S : GS) : Prop :=
  ((0 : Int32) ≤ t0 → wX8_line_97 Q k0 t0 S) ∧ (¬ (0 : Int32) ≤ t0 → k0 < gN S ∧ gK S k0 = 8 ∧ (x2 = 0 → x1 < gN S ∧ gK S x1 = 4 ∧ wX8_line_93 Q k0 t0 (gR S k0 4) (-t0) (gX S k0 10) (gX S x1 2) S) ∧ (¬ x2 = 0 → wX8_line_93 Q k0 t0 (gR S k0 4) (-t0) (gX S k0 10) 0 S))
def wX8_line (S : GS) (k0 : Nat) (Q : Int32 → GS → Prop) : Prop :=
  k0 < gN S ∧ gK S k0 = 8 ∧ ∀ S15 : GS, S15 = sX S k0 10 ((gX S k0 10) + 1) → closed S15 ∧ ∀ S19 : GS, S19 = nwS S15 4 0 → ∃ q24 : Nat, gR S19 k0 0 = some q24 ∧ wX4_init S19 (gN S15) q24 (fun S26 => gSh S26 S19 → ∃ q32 : Nat, gR S26 k0 2 = some q32 ∧ wX4_readHead S26 (gN S15) q32 (fun S34 => gSh S34 S26 → ∃ q40 : Nat, gR S34 k0 2 = some q40 ∧ wX4_readMessage S34 (gN S15) q40 (fun S42 => gSh S42 S34 → wX4_hasReadAll S42 (gN S15)  (fun u49 S48 => gSh S48 S42 → ∃ q54 : Nat, gR S48 k0 0 = some q54 ∧ q54 < gN S48 ∧ gK S48 q54 = 6 ∧ wX6_clear S48 q54  (fun S58 => gSh S58 S48 → (u49 = 0 → wX8_line_66 Q k0 (gN S15) u49 (-1) S58) ∧ (¬ u49 = 0 → ∃ q66 : Nat, gR S58 k0 2 = some q66 ∧ wX8_answerTo S58 k0 q66 (fun u69 S68 => gExt S68 S58 → wX8_line_66 Q k0 (gN S15) u49 u69 S68)))))))
set_option maxHeartbeats 4000000 in
set_option maxRecDepth 100000 in
theorem tX8_line (l : Launch) (S : GS) (k0 : Nat) (Q : Int32 → GS → Prop) (h : wX8_line S k0 Q) : CA l yX8_line wsX8_line 9 2 18 S (gA [vR (some k0)]) (fun r S9 => ∃ x, r = some (vI x) ∧ Q x S9) := by
  refine CA.ofW (cc := cX8_line) (maxL := 4) (ret := (some .int)) RX8 (by decide) rfl rfl (fun _ _ _ => Nat.le_of_ble_eq_true rfl) ?_
  intro p e s m args below meth c D Y za zv ad A ls hAe hmn hx hb hr hml hts hown hlocks hK hZ hA hG hl
  obtain ⟨S0, hS0⟩ : ∃ z : GS, z = S := ⟨_, rfl⟩
  rw [← hS0] at hAe
  rw [← hS0]
  obtain ⟨ad0, ead⟩ : ∃ z : Nat → Nat, z = ad := ⟨_, rfl⟩
  rw [← ead] at hAe
  rw [← ead]
  have had0 : ∀ k, k < gN S0 → ad k = ad0 k := fun k _ => by rw [ead]
  have hin4 : ∀ w ∈ wsX40, w ∈ wsX8_line := by decide +kernel
  have hin8 : ∀ w ∈ wsX80, w ∈ wsX8_line := by decide +kernel
  have lk_110 := hts (.fieldLink RX8 110 "PauseLog" "lines" "I") (by decide +kernel)
  have lk_10 := hts (.fieldLink RX8 10 "PauseLog" "pad" "LPauseLog$Text;") (by decide +kernel)
  have lk_22 := hts (.fieldLink RX8 22 "PauseLog" "entry" "LPauseLog$Entry;") (by decide +kernel)
  have lk_36 := hts (.fieldLink RX8 36 "PauseLog" "diagnostics" "LPauseLog$Diagnostics;") (by decide +kernel)
  have lk_134 := hts (.fieldLink RX8 134 "PauseLog$Reader" "at" "I") (by decide +kernel)
  have b_97 : ∀  (x3 : Int32) (S : GS) (ad : Nat → Nat) (H : Heap) (locs : List Loc) (ls : Array Slot), wX8_line_97 Q k0 x3 S → gExt S S0 → (∀ k, k < gN S0 → ad k = ad0 k) → gS D Y ad A s.heap S H locs → lv_has ls 4 [(3, .int x3)] → W p l e (rmA 9 2 18) s m args below meth c H locs 2 18 (MQ below (gEA D Y za ad0 S0 s.heap.size (fun r S9 => ∃ x, r = some (vI x) ∧ Q x S9)) args s 2 18 A) (F0 m 97 ls []) := by
    intro  x3 S ad H locs ls h hsh had0 hG hl
    unfold wX8_line_97 at h
    refine lv_iload_n hx hb dX8_line_97 rfl (lv_at hl 0 rfl) ?_
    exact W.widen (k := 2) (n := 18) (by decide) (by decide) (W.iret (v := x3) hx hb hr (fun t ht hW => r_endA (r := some (vI x3)) hAe hG hsh had0 ⟨_, rfl, h⟩ rfl ht) hG.2.2.2.2 dX8_line_98)
  have b_93 : ∀  (x3 : Int32) (t0 : Option Nat) (t1 : Int32) (t2 : Int32) (t3 : Int32) (S : GS) (ad : Nat → Nat) (H : Heap) (locs : List Loc) (ls : Array Slot), wX8_line_93 Q k0 x3 t0 t1 t2 t3 S → gExt S S0 → (∀ k, k < gN S0 → ad k = ad0 k) → gS D Y ad A s.heap S H locs → lv_has ls 4 [(3, .int x3)] → W p l e (rmA 9 2 18) s m args below meth c H locs 2 18 (MQ below (gEA D Y za ad0 S0 s.heap.size (fun r S9 => ∃ x, r = some (vI x) ∧ Q x S9)) args s 2 18 A) (F0 m 93 ls [.int t3, .int t2, .int t1, rv ad t0]) := by
    intro  x3 t0 t1 t2 t3 S ad H locs ls h hsh had0 hG hl
    unfold wX8_line_93 at h
    refine lv_iconst (v := 1) hx hb dX8_line_93 (by decide) ?_
    obtain ⟨q1, e2, h⟩ := h
    refine W.eq (g2 := F0 m 94 ls [.int 1, .int t3, .int t2, .int t1, .ref (ad q1)]) (by rw [e2]; rfl) ?_
    obtain ⟨hk3, hq4, h⟩ := h
    refine r_callV (za := za) (k := q1) (ci := 0) (C := RX0) (T := TX0) (N := 5) (As := [vI t1, vI t2, vI t3, vI 1]) (rest := []) (tX0_add l S q1 t1 t2 t3 1 _ h) ⟨hx, hb, hml, hown, hts⟩ (cwV 4 hts gX8_line_X0_add rfl rfl rfl (by decide +kernel) ⟨by decide, by decide⟩) hK hG hA hk3 (cell_0 hq4) rfl rfl hl.1 rfl (Nat.le_of_ble_eq_true rfl) ⟨by decide, by decide⟩ dX8_line_94 (fun r_9 S5 H locs hp hs_S5 hG => ?_)
    obtain ⟨rfl, h⟩ := hp
    have h := h hs_S5
    refine W.eq (g2 := F0 m 97 ls []) rfl ?_
    have hsh := (gExt.ofSh hs_S5).tr hsh
    have hk7 := hs_S5.lt hk3
    have hq8 := hs_S5.kd hq4
    exact b_97 x3 S5 ad H locs ls h hsh had0 hG (lv_sub hl [0] rfl)
  have b_66 : ∀  (x1 : Nat) (x2 : Int32) (t0 : Int32) (S : GS) (ad : Nat → Nat) (H : Heap) (locs : List Loc) (ls : Array Slot), wX8_line_66 Q k0 x1 x2 t0 S → gExt S S0 → (∀ k, k < gN S0 → ad k = ad0 k) → gS D Y ad A s.heap S H locs → lv_has ls 4 [(0, .ref (ad k0)), (1, .ref (ad x1)), (2, .int x2)] → W p l e (rmA 9 2 18) s m args below meth c H locs 2 18 (MQ below (gEA D Y za ad0 S0 s.heap.size (fun r S9 => ∃ x, r = some (vI x) ∧ Q x S9)) args s 2 18 A) (F0 m 66 ls [.int t0]) := by
    intro  x1 x2 t0 S ad H locs ls h hsh had0 hG hl
    unfold wX8_line_66 at h
    refine lv_istore_n (lv' := [(3, .int t0), (0, .ref (ad k0)), (1, .ref (ad x1)), (2, .int x2)]) hx hb dX8_line_66 rfl hl (by decide) rfl (fun ls hl => ?_)
    refine lv_iload_n hx hb dX8_line_67 rfl (lv_at hl 0 rfl) ?_
    refine lv_if_ge (tgt := 97) hx hb dX8_line_68 (by decide) (fun c_68 => ?_) (fun c_68 => ?_)
    · have h := h.1 c_68
      exact b_97 t0 S ad H locs ls h hsh had0 hG (lv_sub hl [0] rfl)
    · have h := h.2 c_68
      refine lv_aload_n hx hb dX8_line_71 rfl (lv_at hl 1 rfl) ?_
      obtain ⟨hk9, hq10, h⟩ := h
      refine g_get (ci := 8) (C := RX8) (T := TX8) (N := 12) hx hb hts hin8 hown hK hG hk9 (cell_8 hq10) rfl 4 (by decide) lk_36 (fun _ h9 => h9) (v := rv ad (gR S k0 4)) rfl dX8_line_72 ?_
      refine lv_iload_n hx hb dX8_line_75 rfl (lv_at hl 0 rfl) ?_
      refine lv_ineg hx hb dX8_line_76 ?_
      refine lv_aload_n hx hb dX8_line_77 rfl (lv_at hl 1 rfl) ?_
      refine g_get (ci := 8) (C := RX8) (T := TX8) (N := 12) hx hb hts hin8 hown hK hG hk9 (cell_8 hq10) rfl 10 (by decide) lk_110 (fun _ h9 => h9) (v := .int (gX S k0 10)) rfl dX8_line_78 ?_
      refine lv_iload_n hx hb dX8_line_81 rfl (lv_at hl 3 rfl) ?_
      refine lv_if_eq (tgt := 89) hx hb dX8_line_82 (by decide) (fun c_82 => ?_) (fun c_82 => ?_)
      · have h := h.1 c_82
        refine lv_aload_n hx hb dX8_line_89 rfl (lv_at hl 2 rfl) ?_
        obtain ⟨hk11, hq12, h⟩ := h
        refine g_get (ci := 4) (C := RX4) (T := TX4) (N := 3) hx hb hts hin4 hown hK hG hk11 (cell_4 hq12) rfl 2 (by decide) lk_134 (fun _ h9 => h9) (v := .int (gX S x1 2)) rfl dX8_line_90 ?_
        exact b_93 t0 (gR S k0 4) (-t0) (gX S k0 10) (gX S x1 2) S ad H locs ls h hsh had0 hG (lv_sub hl [0] rfl)
      · have h := h.2 c_82
        refine lv_iconst (v := 0) hx hb dX8_line_85 (by decide) ?_
        refine lv_goto (tgt := 93) hx hb dX8_line_86 (by decide) ?_
        exact b_93 t0 (gR S k0 4) (-t0) (gX S k0 10) 0 S ad H locs ls h hsh had0 hG (lv_sub hl [0] rfl)
  have hl : lv_has ls 4 [(0, .ref (ad k0))] := hl
  have hsh : gExt S S0 := by rw [hS0]; exact gExt.rf S
  obtain ⟨H, eH⟩ : ∃ z : Heap, z = s.heap := ⟨_, rfl⟩
  obtain ⟨locs, eL⟩ : ∃ z : List Loc, z = [] := ⟨_, rfl⟩
  have hG : gS D Y ad A s.heap S H locs := by rw [eH, eL]; exact hG
  suffices hgoal : W p l e (rmA 9 2 18) s m args below meth c H locs 0 0 (MQ below (gEA D Y za ad0 S0 s.heap.size (fun r S9 => ∃ x, r = some (vI x) ∧ Q x S9)) args s 2 18 A) (F0 m 0 ls []) by rw [eH, eL] at hgoal; exact hgoal
  unfold wX8_line at h
  refine lv_aload_n hx hb dX8_line_0 rfl (lv_at hl 0 rfl) ?_
  refine lv_dup hx hb dX8_line_1 rfl ?_
  obtain ⟨hk13, hq14, h⟩ := h
  refine g_get (ci := 8) (C := RX8) (T := TX8) (N := 12) hx hb hts hin8 hown hK hG hk13 (cell_8 hq14) rfl 10 (by decide) lk_110 (fun _ h9 => h9) (v := .int (gX S k0 10)) rfl dX8_line_2 ?_
  refine lv_iconst (v := 1) hx hb dX8_line_5 (by decide) ?_
  refine lv_iadd hx hb dX8_line_6 ?_
  refine r_put (ci := 8) (C := RX8) (T := TX8) (N := 12) hx hb hts hin8 tyX8 tyX8_ok nmX8 hown hK hG hk13 (cell_8 hq14) rfl 10 (by decide) lk_110 (fun _ h9 => h9) rfl rfl rfl (Nat.le_of_ble_eq_true rfl) (S' := sX S k0 10 ((gX S k0 10) + 1)) rfl (pu_8_10 hq14 ((gX S k0 10) + 1)) dX8_line_7 (fun H locs hG => ?_)
  obtain ⟨S15, eS_S15⟩ : ∃ z : GS, z = sX S k0 10 ((gX S k0 10) + 1) := ⟨_, rfl⟩
  have h := h S15 eS_S15
  rw [← eS_S15] at hG
  have hs_S15 : gSh S15 S := by rw [eS_S15]; exact gSh.x _ _ _ _
  have hsh := (gExt.ofSh hs_S15).tr hsh
  have hk16 := hs_S15.lt hk13
  have hq17 := hs_S15.kd hq14
  obtain ⟨hcd18, h⟩ := h
  refine r_new (ci := 4) (C := RX4) (T := TX4) (N := 3) (fs := [.null, .int 0, .int 0]) hx hb hts hin4 tyX4 tyX4_ok hown (hts (.classLink RX8 113 RX4) (by decide +kernel)) (hts (.instantiable RX4 3) (by decide +kernel)) (hts (.initialized RX4) (by decide +kernel)) hK hG hA hcd18 rfl (fun j hj => match j, hj with | 0, _ => rfl | 1, _ => rfl | 2, _ => rfl | j + 3, hj => absurd hj (by omega)) (fun _ => rfl) (by decide) (by decide) dX8_line_10 (fun ad H had hG => ?_)
  have hl : lv_has ls 4 [(0, .ref (ad k0))] := by rw [had k0 hk16]; exact hl
  refine W.eq (g2 := F0 m 13 ls [.ref (ad (gN S15))]) (by rfl) ?_
  refine W.widen (k := 1) (n := 3) (by decide) (by decide) ?_
  obtain ⟨S19, eS_S19⟩ : ∃ z : GS, z = nwS S15 4 0 := ⟨_, rfl⟩
  have h := h S19 eS_S19
  rw [← eS_S19] at hG
  have hx_S19 : gExt S19 S15 := by rw [eS_S19]; exact gExt.nw _ _ _
  have had0 := fun k (hk : k < gN S0) => (had k (Nat.lt_of_lt_of_le hk hsh.1)).trans (had0 k hk)
  have hsh := hx_S19.tr hsh
  have hk20 : gN S15 < gN S19 := by rw [eS_S19]; exact Nat.lt_succ_self _
  have hq21 : gK S19 (gN S15) = 4 := by rw [eS_S19]; exact va_up_self _ _ _
  have hk22 := hx_S19.lt hk16
  have hq23 := hx_S19.kd hk16 hq17
  refine lv_dup hx hb dX8_line_13 rfl ?_
  refine lv_aload_n hx hb dX8_line_14 rfl (lv_at hl 0 rfl) ?_
  refine g_get (ci := 8) (C := RX8) (T := TX8) (N := 12) hx hb hts hin8 hown hK hG hk22 (cell_8 hq23) rfl 0 (by decide) lk_10 (fun _ h9 => h9) (v := rv ad (gR S19 k0 0)) rfl dX8_line_15 ?_
  obtain ⟨q24, e25, h⟩ := h
  refine W.eq (g2 := F0 m 18 ls [.ref (ad q24), .ref (ad (gN S15)), .ref (ad (gN S15))]) (by rw [e25]; rfl) ?_
  refine r_callI (za := za) (k := gN S15) (As := [vR (some q24)]) (rest := [.ref (ad (gN S15))]) (tX4_init l S19 (gN S15) q24 _ h) ⟨hx, hb, hml, hown, hts⟩ (cwI 1 hts gX8_line_X4_init rfl rfl rfl (hts (.initialized RX4) (by decide +kernel)) (hts (.methodLink RX8 115 yX4_init) (by decide +kernel)) (hts (.instanceMethod yX4_init) (by decide +kernel)) rfl (by decide +kernel) ⟨by decide, by decide⟩) hK hG hA rfl hl.1 rfl (Nat.le_of_ble_eq_true rfl) ⟨by decide, by decide⟩ dX8_line_18 (fun r_9 S26 H locs hp hs_S26 hG => ?_)
  obtain ⟨rfl, h⟩ := hp
  have h := h hs_S26
  refine W.eq (g2 := F0 m 21 ls [.ref (ad (gN S15))]) rfl ?_
  have hsh := (gExt.ofSh hs_S26).tr hsh
  have hk28 := hs_S26.lt hk22
  have hq29 := hs_S26.kd hq23
  have hk30 := hs_S26.lt hk20
  have hq31 := hs_S26.kd hq21
  refine lv_astore_n (lv' := [(1, .ref (ad (gN S15))), (0, .ref (ad k0))]) hx hb dX8_line_21 rfl hl (by decide) rfl (fun ls hl => ?_)
  refine lv_aload_n hx hb dX8_line_22 rfl (lv_at hl 0 rfl) ?_
  refine lv_aload_n hx hb dX8_line_23 rfl (lv_at hl 1 rfl) ?_
  refine g_get (ci := 8) (C := RX8) (T := TX8) (N := 12) hx hb hts hin8 hown hK hG hk28 (cell_8 hq29) rfl 2 (by decide) lk_22 (fun _ h9 => h9) (v := rv ad (gR S26 k0 2)) rfl dX8_line_24 ?_
  obtain ⟨q32, e33, h⟩ := h
  refine W.eq (g2 := F0 m 27 ls [.ref (ad q32), .ref (ad (gN S15))]) (by rw [e33]; rfl) ?_
  refine z_callV (As := [.ref (ad q32)]) (rest := []) (tX4_readHead l S26 (gN S15) q32 _ h) rfl ⟨hx, hb, hml, hown, hts⟩ (cwV 1 hts gX8_line_X4_readHead rfl rfl rfl (by decide +kernel) ⟨by decide, by decide⟩) hK hZ hG hA (va_recv hK hG.1 (ci := 4) (q := (RX4, TX4, 3)) rfl (wl_get hk30 (cell_4 hq31))) rfl hl.1 rfl (Nat.le_of_ble_eq_true rfl) ⟨by decide, by decide⟩ dX8_line_27 (fun r_9 S34 H locs hp hs_S34 hG => ?_)
  obtain ⟨rfl, h⟩ := hp
  have h := h hs_S34
  refine W.eq (g2 := F0 m 30 ls []) rfl ?_
  have hsh := (gExt.ofSh hs_S34).tr hsh
  have hk36 := hs_S34.lt hk28
  have hq37 := hs_S34.kd hq29
  have hk38 := hs_S34.lt hk30
  have hq39 := hs_S34.kd hq31
  refine lv_aload_n hx hb dX8_line_30 rfl (lv_at hl 0 rfl) ?_
  refine lv_aload_n hx hb dX8_line_31 rfl (lv_at hl 1 rfl) ?_
  refine g_get (ci := 8) (C := RX8) (T := TX8) (N := 12) hx hb hts hin8 hown hK hG hk36 (cell_8 hq37) rfl 2 (by decide) lk_22 (fun _ h9 => h9) (v := rv ad (gR S34 k0 2)) rfl dX8_line_32 ?_
  obtain ⟨q40, e41, h⟩ := h
  refine W.eq (g2 := F0 m 35 ls [.ref (ad q40), .ref (ad (gN S15))]) (by rw [e41]; rfl) ?_
  refine z_callV (As := [.ref (ad q40)]) (rest := []) (tX4_readMessage l S34 (gN S15) q40 _ h) rfl ⟨hx, hb, hml, hown, hts⟩ (cwV 1 hts gX8_line_X4_readMessage rfl rfl rfl (by decide +kernel) ⟨by decide, by decide⟩) hK hZ hG hA (va_recv hK hG.1 (ci := 4) (q := (RX4, TX4, 3)) rfl (wl_get hk38 (cell_4 hq39))) rfl hl.1 rfl (Nat.le_of_ble_eq_true rfl) ⟨by decide, by decide⟩ dX8_line_35 (fun r_9 S42 H locs hp hs_S42 hG => ?_)
  obtain ⟨rfl, h⟩ := hp
  have h := h hs_S42
  refine W.eq (g2 := F0 m 38 ls []) rfl ?_
  have hsh := (gExt.ofSh hs_S42).tr hsh
  have hk44 := hs_S42.lt hk36
  have hq45 := hs_S42.kd hq37
  have hk46 := hs_S42.lt hk38
  have hq47 := hs_S42.kd hq39
  refine lv_aload_n hx hb dX8_line_38 rfl (lv_at hl 0 rfl) ?_
  refine r_callV (za := za) (k := gN S15) (ci := 4) (C := RX4) (T := TX4) (N := 3) (As := []) (rest := []) (tX4_hasReadAll l S42 (gN S15)  _ h) ⟨hx, hb, hml, hown, hts⟩ (cwV 0 hts gX8_line_X4_hasReadAll rfl rfl rfl (by decide +kernel) ⟨by decide, by decide⟩) hK hG hA hk46 (cell_4 hq47) rfl rfl hl.1 rfl (Nat.le_of_ble_eq_true rfl) ⟨by decide, by decide⟩ dX8_line_39 (fun r_9 S48 H locs hp hs_S48 hG => ?_)
  obtain ⟨u49, rfl, h⟩ := hp
  have h := h hs_S48
  refine W.eq (g2 := F0 m 42 ls [.int u49]) rfl ?_
  have hsh := (gExt.ofSh hs_S48).tr hsh
  have hk50 := hs_S48.lt hk44
  have hq51 := hs_S48.kd hq45
  have hk52 := hs_S48.lt hk46
  have hq53 := hs_S48.kd hq47
  refine lv_istore_n (lv' := [(2, .int u49), (1, .ref (ad (gN S15))), (0, .ref (ad k0))]) hx hb dX8_line_42 rfl hl (by decide) rfl (fun ls hl => ?_)
  refine lv_aload_n hx hb dX8_line_43 rfl (lv_at hl 2 rfl) ?_
  refine g_get (ci := 8) (C := RX8) (T := TX8) (N := 12) hx hb hts hin8 hown hK hG hk50 (cell_8 hq51) rfl 0 (by decide) lk_10 (fun _ h9 => h9) (v := rv ad (gR S48 k0 0)) rfl dX8_line_44 ?_
  obtain ⟨q54, e55, h⟩ := h
  refine W.eq (g2 := F0 m 47 ls [.ref (ad q54)]) (by rw [e55]; rfl) ?_
  obtain ⟨hk56, hq57, h⟩ := h
  refine r_callV (za := za) (k := q54) (ci := 6) (C := RX6) (T := TX6) (N := 2) (As := []) (rest := []) (tX6_clear l S48 q54  _ h) ⟨hx, hb, hml, hown, hts⟩ (cwV 0 hts gX8_line_X6_clear rfl rfl rfl (by decide +kernel) ⟨by decide, by decide⟩) hK hG hA hk56 (cell_6 hq57) rfl rfl hl.1 rfl (Nat.le_of_ble_eq_true rfl) ⟨by decide, by decide⟩ dX8_line_47 (fun r_9 S58 H locs hp hs_S58 hG => ?_)
  obtain ⟨rfl, h⟩ := hp
  have h := h hs_S58
  refine W.eq (g2 := F0 m 50 ls []) rfl ?_
  have hsh := (gExt.ofSh hs_S58).tr hsh
  have hk60 := hs_S58.lt hk50
  have hq61 := hs_S58.kd hq51
  have hk62 := hs_S58.lt hk52
  have hq63 := hs_S58.kd hq53
  have hk64 := hs_S58.lt hk56
  have hq65 := hs_S58.kd hq57
  refine lv_iload_n hx hb dX8_line_50 rfl (lv_at hl 0 rfl) ?_
  refine lv_if_eq (tgt := 65) hx hb dX8_line_51 (by decide) (fun c_51 => ?_) (fun c_51 => ?_)
  · have h := h.1 c_51
    refine lv_iconst (v := (-1)) hx hb dX8_line_65 (by decide) ?_
    refine W.widen (k := 2) (n := 18) (by decide) (by decide) ?_
    exact b_66 (gN S15) u49 (-1) S58 ad H locs ls h hsh had0 hG (lv_sub hl [2, 1, 0] rfl)
  · have h := h.2 c_51
    refine lv_aload_n hx hb dX8_line_54 rfl (lv_at hl 2 rfl) ?_
    refine lv_aload_n hx hb dX8_line_55 rfl (lv_at hl 2 rfl) ?_
    refine g_get (ci := 8) (C := RX8) (T := TX8) (N := 12) hx hb hts hin8 hown hK hG hk60 (cell_8 hq61) rfl 2 (by decide) lk_22 (fun _ h9 => h9) (v := rv ad (gR S58 k0 2)) rfl dX8_line_56 ?_
    obtain ⟨q66, e67, h⟩ := h
    refine W.eq (g2 := F0 m 59 ls [.ref (ad q66), .ref (ad k0)]) (by rw [e67]; rfl) ?_
    refine a_callV (As := [.ref (ad q66)]) (rest := []) (tX8_answerTo l S58 k0 q66 _ h) rfl ⟨hx, hb, hml, hown, hts⟩ (cwV 1 hts gX8_line_X8_answerTo rfl rfl rfl (by decide +kernel) ⟨by decide, by decide⟩) hK hZ hG hA (va_recv hK hG.1 (ci := 8) (q := (RX8, TX8, 12)) rfl (wl_get hk60 (cell_8 hq61))) rfl hl.1 rfl (Nat.le_of_ble_eq_true rfl) ⟨by decide, by decide⟩ dX8_line_59 (fun r_9 S68 ad H locs hp hx_S68 had hG => ?_)
    obtain ⟨u69, rfl, h⟩ := hp
    have h := h hx_S68
    have hl : lv_has ls 4 [(2, .int u49), (1, .ref (ad (gN S15))), (0, .ref (ad k0))] := by rw [had (gN S15) hk62, had k0 hk60]; exact hl
    refine W.eq (g2 := F0 m 62 ls [.int u69]) (by rfl) ?_
    refine W.widen (k := 2) (n := 18) (by decide) (by decide) ?_
    have had0 := fun k (hk : k < gN S0) => (had k (Nat.lt_of_lt_of_le hk hsh.1)).trans (had0 k hk)
    have hsh := hx_S68.tr hsh
    have hk70 := hx_S68.lt hk60
    have hq71 := hx_S68.kd hk60 hq61
    have hk72 := hx_S68.lt hk62
    have hq73 := hx_S68.kd hk62 hq63
    have hk74 := hx_S68.lt hk64
    have hq75 := hx_S68.kd hk64 hq65
    refine lv_goto (tgt := 66) hx hb dX8_line_62 (by decide) ?_
    exact b_66 (gN S15) u49 u69 S68 ad H locs ls h hsh had0 hG (lv_sub hl [2, 1, 0] rfl)
def wX9_init (S : GS) (k0 : Nat) (Q : GS → Prop) : Prop :=
  k0 < gN S ∧ gK S k0 = 9 ∧ closed S ∧ ∀ S4 : GS, S4 = nwS S 11 72 → ∀ S9 : GS, S9 = sR S4 k0 0 (some (gN S)) → closed S9 ∧ ∀ S15 : GS, S15 = nwS S9 11 80 → ∀ S22 : GS, S22 = sR S15 k0 2 (some (gN S9)) → closed S22 ∧ ∀ S30 : GS, S30 = nwS S22 11 80 → ∀ S39 : GS, S39 = sR S30 k0 4 (some (gN S22)) → closed S39 ∧ ∀ S49 : GS, S49 = nwS S39 11 16 → ∀ S60 : GS, S60 = sR S49 k0 6 (some (gN S39)) → closed S60 ∧ ∀ S72 : GS, S72 = nwS S60 11 512 → ∀ S85 : GS, S85 = sR S72 k0 8 (some (gN S60)) → closed S85 ∧ ∀ S99 : GS, S99 = nwS S85 12 512 → ∀ S114 : GS, S114 = sR S99 k0 9 (some (gN S85)) → closed S114 ∧ ∀ S130 : GS, S130 = nwS S114 12 512 → ∀ S147 : GS, S147 = sR S130 k0 10 (some (gN S114)) → closed S147 ∧ ∀ S165 : GS, S165 = nwS S147 11 512 → ∀ S184 : GS, S184 = sR S165 k0 11 (some (gN S147)) → closed S184 ∧ ∀ S204 : GS, S204 = nwS S184 11 512 → ∀ S225 : GS, S225 = sR S204 k0 12 (some (gN S184)) → closed S225 ∧ ∀ S247 : GS, S247 = nwS S225 11 512 → ∀ S270 : GS, S270 = sR S247 k0 13 (some (gN S225)) → closed S270 ∧ ∀ S294 : GS, S294 = nwS S270 11 512 → ∀ S319 : GS, S319 = sR S294 k0 14 (some (gN S270)) → closed S319 ∧ ∀ S345 : GS, S345 = nwS S319 11 512 → ∀ S372 : GS, S372 = sR S345 k0 15 (some (gN S319)) → closed S372 ∧ ∀ S400 : GS, S400 = nwS S372 11 512 → ∀ S429 : GS, S429 = sR S400 k0 16 (some (gN S372)) → closed S429 ∧ ∀ S459 : GS, S459 = nwS S429 11 1536 → ∀ S490 : GS, S490 = sR S459 k0 17 (some (gN S429)) → closed S490 ∧ ∀ S522 : GS, S522 = nwS S490 11 512 → ∀ S555 : GS, S555 = sR S522 k0 18 (some (gN S490)) → closed S555 ∧ ∀ S589 : GS, S589 = nwS S555 11 40 → ∀ S624 : GS, S624 = sR S589 k0 21 (some (gN S555)) → closed S624 ∧ ∀ S660 : GS, S660 = nwS S624 11 40 → ∀ S697 : GS, S697 = sR S660 k0 22 (some (gN S624)) → closed S697 ∧ ∀ S735 : GS, S735 = nwS S697 11 40 → ∀ S774 : GS, S774 = sR S735 k0 23 (some (gN S697)) → closed S774 ∧ ∀ S814 : GS, S814 = nwS S774 11 40 → ∀ S855 : GS, S855 = sR S814 k0 24 (some (gN S774)) → closed S855 ∧ ∀ S897 : GS, S897 = nwS S855 11 512 → ∀ S940 : GS, S940 = sR S897 k0 26 (some (gN S855)) → closed S940 ∧ ∀ S984 : GS, S984 = nwS S940 11 512 → ∀ S1029 : GS, S1029 = sR S984 k0 27 (some (gN S940)) → closed S1029 ∧ ∀ S1075 : GS, S1075 = nwS S1029 11 512 → ∀ S1122 : GS, S1122 = sR S1075 k0 28 (some (gN S1029)) → ∀ S1169 : GS, S1169 = sX S1122 k0 30 (-1) → ∀ S1216 : GS, S1216 = sX S1169 k0 31 (-1) → Q S1216
set_option maxHeartbeats 4000000 in
set_option maxRecDepth 100000 in
theorem tX9_init (l : Launch) (S : GS) (k0 : Nat) (Q : GS → Prop) (h : wX9_init S k0 Q) : CA l yX9_init wsX9_init 1 22 8600 S (gA [vR (some k0)]) (fun r S9 => r = none ∧ Q S9) := by
  refine CA.ofW (cc := cX9_init) (maxL := 1) (ret := none) RX9 (by decide) rfl rfl (fun _ _ _ => Nat.le_of_ble_eq_true rfl) ?_
  intro p e s m args below meth c D Y za zv ad A ls hAe hmn hx hb hr hml hts hown hlocks hK hZ hA hG hl
  obtain ⟨S0, hS0⟩ : ∃ z : GS, z = S := ⟨_, rfl⟩
  rw [← hS0] at hAe
  rw [← hS0]
  obtain ⟨ad0, ead⟩ : ∃ z : Nat → Nat, z = ad := ⟨_, rfl⟩
  rw [← ead] at hAe
  rw [← ead]
  have had0 : ∀ k, k < gN S0 → ad k = ad0 k := fun k _ => by rw [ead]
  have hin9 : ∀ w ∈ wsX90, w ∈ wsX9_init := by decide +kernel
  have lk_7 := hts (.fieldLink RX9 7 "PauseLogModel" "pad" "[I") (by decide +kernel)
  have lk_13 := hts (.fieldLink RX9 13 "PauseLogModel" "mould" "[I") (by decide +kernel)
  have lk_16 := hts (.fieldLink RX9 16 "PauseLogModel" "out" "[I") (by decide +kernel)
  have lk_19 := hts (.fieldLink RX9 19 "PauseLogModel" "number" "[I") (by decide +kernel)
  have lk_22 := hts (.fieldLink RX9 22 "PauseLogModel" "log" "[I") (by decide +kernel)
  have lk_25 := hts (.fieldLink RX9 25 "PauseLogModel" "inTime" "[Z") (by decide +kernel)
  have lk_29 := hts (.fieldLink RX9 29 "PauseLogModel" "taken" "[Z") (by decide +kernel)
  have lk_32 := hts (.fieldLink RX9 32 "PauseLogModel" "owner" "[I") (by decide +kernel)
  have lk_35 := hts (.fieldLink RX9 35 "PauseLogModel" "shape" "[I") (by decide +kernel)
  have lk_38 := hts (.fieldLink RX9 38 "PauseLogModel" "kind" "[I") (by decide +kernel)
  have lk_41 := hts (.fieldLink RX9 41 "PauseLogModel" "cause" "[I") (by decide +kernel)
  have lk_44 := hts (.fieldLink RX9 44 "PauseLogModel" "time" "[I") (by decide +kernel)
  have lk_47 := hts (.fieldLink RX9 47 "PauseLogModel" "id" "[I") (by decide +kernel)
  have lk_50 := hts (.fieldLink RX9 50 "PauseLogModel" "sizes" "[I") (by decide +kernel)
  have lk_53 := hts (.fieldLink RX9 53 "PauseLogModel" "took" "[I") (by decide +kernel)
  have lk_56 := hts (.fieldLink RX9 56 "PauseLogModel" "beginLine" "[I") (by decide +kernel)
  have lk_59 := hts (.fieldLink RX9 59 "PauseLogModel" "endLine" "[I") (by decide +kernel)
  have lk_62 := hts (.fieldLink RX9 62 "PauseLogModel" "edenLine" "[I") (by decide +kernel)
  have lk_65 := hts (.fieldLink RX9 65 "PauseLogModel" "oldLine" "[I") (by decide +kernel)
  have lk_68 := hts (.fieldLink RX9 68 "PauseLogModel" "problem" "[I") (by decide +kernel)
  have lk_71 := hts (.fieldLink RX9 71 "PauseLogModel" "problemLine" "[I") (by decide +kernel)
  have lk_74 := hts (.fieldLink RX9 74 "PauseLogModel" "problemFault" "[I") (by decide +kernel)
  have lk_77 := hts (.fieldLink RX9 77 "PauseLogModel" "openPause" "I") (by decide +kernel)
  have lk_81 := hts (.fieldLink RX9 81 "PauseLogModel" "openMark" "I") (by decide +kernel)
  have hl : lv_has ls 1 [(0, .ref (ad k0))] := hl
  have hsh : gExt S S0 := by rw [hS0]; exact gExt.rf S
  obtain ⟨H, eH⟩ : ∃ z : Heap, z = s.heap := ⟨_, rfl⟩
  obtain ⟨locs, eL⟩ : ∃ z : List Loc, z = [] := ⟨_, rfl⟩
  have hG : gS D Y ad A s.heap S H locs := by rw [eH, eL]; exact hG
  suffices hgoal : W p l e (rmA 1 22 8600) s m args below meth c H locs 0 0 (MQ below (gEA D Y za ad0 S0 s.heap.size (fun r S9 => r = none ∧ Q S9)) args s 22 8600 A) (F0 m 0 ls []) by rw [eH, eL] at hgoal; exact hgoal
  unfold wX9_init at h
  refine lv_aload_n hx hb dX9_init_0 rfl (lv_at hl 0 rfl) ?_
  refine W.objInit hx hb hown (hts (.methodLink RX9 1 objectInit) (by decide +kernel)) (hts (.instanceMethod objectInit) (by decide +kernel)) (hts (.code objectInit ⟨#[0xb1]⟩ 1 none) (by decide +kernel)) rfl (by rw [hml]; exact hl.1) rfl dX9_init_1 (Nat.le_of_ble_eq_true rfl) (Nat.le_of_ble_eq_true rfl) ?_
  refine W.eq (g2 := F0 m 4 ls []) rfl ?_
  refine lv_aload_n hx hb dX9_init_4 rfl (lv_at hl 0 rfl) ?_
  refine lv_bipush (v := 72) hx hb dX9_init_5 (by decide) ?_
  obtain ⟨hk1, hq2, h⟩ := h
  obtain ⟨hcd3, h⟩ := h
  refine r_newa (atype := .int) (ty := .int) (N' := 72) (n := 72) (a0 := (72, .inl (fun _ => 0))) hx hb (hts (.arrayClass .int) (by decide +kernel)) rfl hK hG hA hcd3 1 11 rfl (fun _ _ h => h) (fun _ => rfl) (fun _ => rfl) (by decide) (by decide) (by show 72 * 4 ≤ 536870912; omega) (by decide) (by decide) dX9_init_7 (fun ad H had hG => ?_)
  have hl : lv_has ls 1 [(0, .ref (ad k0))] := by rw [had k0 hk1]; exact hl
  refine W.eq (g2 := F0 m 9 ls [.ref (ad (gN S)), .ref (ad k0)]) (by rw [had k0 hk1] <;> rfl) ?_
  refine W.widen (k := 1) (n := 72) (by decide) (by decide) ?_
  obtain ⟨S4, eS_S4⟩ : ∃ z : GS, z = nwS S 11 72 := ⟨_, rfl⟩
  have h := h S4 eS_S4
  rw [← eS_S4] at hG
  have hx_S4 : gExt S4 S := by rw [eS_S4]; exact gExt.nw _ _ _
  have had0 := fun k (hk : k < gN S0) => (had k (Nat.lt_of_lt_of_le hk hsh.1)).trans (had0 k hk)
  have hsh := hx_S4.tr hsh
  have hk5 : gN S < gN S4 := by rw [eS_S4]; exact Nat.lt_succ_self _
  have hq6 : gK S4 (gN S) = 11 := by rw [eS_S4]; exact va_up_self _ _ _
  have hk7 := hx_S4.lt hk1
  have hq8 := hx_S4.kd hk1 hq2
  refine r_putF (ci := 9) (C := RX9) (T := TX9) (N := 36) hx hb hts hin9 tyX9 tyX9_ok nmX9 hown hK hG hk7 (cell_9 hq8) rfl 0 (by decide) lk_7 (fun _ h9 => h9) rfl hmn rfl rfl rfl (Nat.le_of_ble_eq_true rfl) (S' := sR S4 k0 0 (some (gN S))) rfl (pu_9_0 hq8 (some (gN S))) dX9_init_9 (fun H locs hG => ?_)
  obtain ⟨S9, eS_S9⟩ : ∃ z : GS, z = sR S4 k0 0 (some (gN S)) := ⟨_, rfl⟩
  have h := h S9 eS_S9
  rw [← eS_S9] at hG
  have hs_S9 : gSh S9 S4 := by rw [eS_S9]; exact gSh.r _ _ _ _
  have hsh := (gExt.ofSh hs_S9).tr hsh
  have hk10 := hs_S9.lt hk7
  have hq11 := hs_S9.kd hq8
  have hk12 := hs_S9.lt hk5
  have hq13 := hs_S9.kd hq6
  refine lv_aload_n hx hb dX9_init_12 rfl (lv_at hl 0 rfl) ?_
  refine lv_bipush (v := 80) hx hb dX9_init_13 (by decide) ?_
  obtain ⟨hcd14, h⟩ := h
  refine r_newa (atype := .int) (ty := .int) (N' := 80) (n := 80) (a0 := (80, .inl (fun _ => 0))) hx hb (hts (.arrayClass .int) (by decide +kernel)) rfl hK hG hA hcd14 1 11 rfl (fun _ _ h => h) (fun _ => rfl) (fun _ => rfl) (by decide) (by decide) (by show 80 * 4 ≤ 536870912; omega) (by decide) (by decide) dX9_init_15 (fun ad H had hG => ?_)
  have hl : lv_has ls 1 [(0, .ref (ad k0))] := by rw [had k0 hk10]; exact hl
  refine W.eq (g2 := F0 m 17 ls [.ref (ad (gN S9)), .ref (ad k0)]) (by rw [had k0 hk10] <;> rfl) ?_
  refine W.widen (k := 2) (n := 152) (by decide) (by decide) ?_
  obtain ⟨S15, eS_S15⟩ : ∃ z : GS, z = nwS S9 11 80 := ⟨_, rfl⟩
  have h := h S15 eS_S15
  rw [← eS_S15] at hG
  have hx_S15 : gExt S15 S9 := by rw [eS_S15]; exact gExt.nw _ _ _
  have had0 := fun k (hk : k < gN S0) => (had k (Nat.lt_of_lt_of_le hk hsh.1)).trans (had0 k hk)
  have hsh := hx_S15.tr hsh
  have hk16 : gN S9 < gN S15 := by rw [eS_S15]; exact Nat.lt_succ_self _
  have hq17 : gK S15 (gN S9) = 11 := by rw [eS_S15]; exact va_up_self _ _ _
  have hk18 := hx_S15.lt hk10
  have hq19 := hx_S15.kd hk10 hq11
  have hk20 := hx_S15.lt hk12
  have hq21 := hx_S15.kd hk12 hq13
  refine r_putF (ci := 9) (C := RX9) (T := TX9) (N := 36) hx hb hts hin9 tyX9 tyX9_ok nmX9 hown hK hG hk18 (cell_9 hq19) rfl 2 (by decide) lk_13 (fun _ h9 => h9) rfl hmn rfl rfl rfl (Nat.le_of_ble_eq_true rfl) (S' := sR S15 k0 2 (some (gN S9))) rfl (pu_9_2 hq19 (some (gN S9))) dX9_init_17 (fun H locs hG => ?_)
  obtain ⟨S22, eS_S22⟩ : ∃ z : GS, z = sR S15 k0 2 (some (gN S9)) := ⟨_, rfl⟩
  have h := h S22 eS_S22
  rw [← eS_S22] at hG
  have hs_S22 : gSh S22 S15 := by rw [eS_S22]; exact gSh.r _ _ _ _
  have hsh := (gExt.ofSh hs_S22).tr hsh
  have hk23 := hs_S22.lt hk18
  have hq24 := hs_S22.kd hq19
  have hk25 := hs_S22.lt hk20
  have hq26 := hs_S22.kd hq21
  have hk27 := hs_S22.lt hk16
  have hq28 := hs_S22.kd hq17
  refine lv_aload_n hx hb dX9_init_20 rfl (lv_at hl 0 rfl) ?_
  refine lv_bipush (v := 80) hx hb dX9_init_21 (by decide) ?_
  obtain ⟨hcd29, h⟩ := h
  refine r_newa (atype := .int) (ty := .int) (N' := 80) (n := 80) (a0 := (80, .inl (fun _ => 0))) hx hb (hts (.arrayClass .int) (by decide +kernel)) rfl hK hG hA hcd29 1 11 rfl (fun _ _ h => h) (fun _ => rfl) (fun _ => rfl) (by decide) (by decide) (by show 80 * 4 ≤ 536870912; omega) (by decide) (by decide) dX9_init_23 (fun ad H had hG => ?_)
  have hl : lv_has ls 1 [(0, .ref (ad k0))] := by rw [had k0 hk23]; exact hl
  refine W.eq (g2 := F0 m 25 ls [.ref (ad (gN S22)), .ref (ad k0)]) (by rw [had k0 hk23] <;> rfl) ?_
  refine W.widen (k := 3) (n := 232) (by decide) (by decide) ?_
  obtain ⟨S30, eS_S30⟩ : ∃ z : GS, z = nwS S22 11 80 := ⟨_, rfl⟩
  have h := h S30 eS_S30
  rw [← eS_S30] at hG
  have hx_S30 : gExt S30 S22 := by rw [eS_S30]; exact gExt.nw _ _ _
  have had0 := fun k (hk : k < gN S0) => (had k (Nat.lt_of_lt_of_le hk hsh.1)).trans (had0 k hk)
  have hsh := hx_S30.tr hsh
  have hk31 : gN S22 < gN S30 := by rw [eS_S30]; exact Nat.lt_succ_self _
  have hq32 : gK S30 (gN S22) = 11 := by rw [eS_S30]; exact va_up_self _ _ _
  have hk33 := hx_S30.lt hk23
  have hq34 := hx_S30.kd hk23 hq24
  have hk35 := hx_S30.lt hk25
  have hq36 := hx_S30.kd hk25 hq26
  have hk37 := hx_S30.lt hk27
  have hq38 := hx_S30.kd hk27 hq28
  refine r_putF (ci := 9) (C := RX9) (T := TX9) (N := 36) hx hb hts hin9 tyX9 tyX9_ok nmX9 hown hK hG hk33 (cell_9 hq34) rfl 4 (by decide) lk_16 (fun _ h9 => h9) rfl hmn rfl rfl rfl (Nat.le_of_ble_eq_true rfl) (S' := sR S30 k0 4 (some (gN S22))) rfl (pu_9_4 hq34 (some (gN S22))) dX9_init_25 (fun H locs hG => ?_)
  obtain ⟨S39, eS_S39⟩ : ∃ z : GS, z = sR S30 k0 4 (some (gN S22)) := ⟨_, rfl⟩
  have h := h S39 eS_S39
  rw [← eS_S39] at hG
  have hs_S39 : gSh S39 S30 := by rw [eS_S39]; exact gSh.r _ _ _ _
  have hsh := (gExt.ofSh hs_S39).tr hsh
  have hk40 := hs_S39.lt hk33
  have hq41 := hs_S39.kd hq34
  have hk42 := hs_S39.lt hk35
  have hq43 := hs_S39.kd hq36
  have hk44 := hs_S39.lt hk37
  have hq45 := hs_S39.kd hq38
  have hk46 := hs_S39.lt hk31
  have hq47 := hs_S39.kd hq32
  refine lv_aload_n hx hb dX9_init_28 rfl (lv_at hl 0 rfl) ?_
  refine lv_bipush (v := 16) hx hb dX9_init_29 (by decide) ?_
  obtain ⟨hcd48, h⟩ := h
  refine r_newa (atype := .int) (ty := .int) (N' := 16) (n := 16) (a0 := (16, .inl (fun _ => 0))) hx hb (hts (.arrayClass .int) (by decide +kernel)) rfl hK hG hA hcd48 1 11 rfl (fun _ _ h => h) (fun _ => rfl) (fun _ => rfl) (by decide) (by decide) (by show 16 * 4 ≤ 536870912; omega) (by decide) (by decide) dX9_init_31 (fun ad H had hG => ?_)
  have hl : lv_has ls 1 [(0, .ref (ad k0))] := by rw [had k0 hk40]; exact hl
  refine W.eq (g2 := F0 m 33 ls [.ref (ad (gN S39)), .ref (ad k0)]) (by rw [had k0 hk40] <;> rfl) ?_
  refine W.widen (k := 4) (n := 248) (by decide) (by decide) ?_
  obtain ⟨S49, eS_S49⟩ : ∃ z : GS, z = nwS S39 11 16 := ⟨_, rfl⟩
  have h := h S49 eS_S49
  rw [← eS_S49] at hG
  have hx_S49 : gExt S49 S39 := by rw [eS_S49]; exact gExt.nw _ _ _
  have had0 := fun k (hk : k < gN S0) => (had k (Nat.lt_of_lt_of_le hk hsh.1)).trans (had0 k hk)
  have hsh := hx_S49.tr hsh
  have hk50 : gN S39 < gN S49 := by rw [eS_S49]; exact Nat.lt_succ_self _
  have hq51 : gK S49 (gN S39) = 11 := by rw [eS_S49]; exact va_up_self _ _ _
  have hk52 := hx_S49.lt hk40
  have hq53 := hx_S49.kd hk40 hq41
  have hk54 := hx_S49.lt hk42
  have hq55 := hx_S49.kd hk42 hq43
  have hk56 := hx_S49.lt hk44
  have hq57 := hx_S49.kd hk44 hq45
  have hk58 := hx_S49.lt hk46
  have hq59 := hx_S49.kd hk46 hq47
  refine r_putF (ci := 9) (C := RX9) (T := TX9) (N := 36) hx hb hts hin9 tyX9 tyX9_ok nmX9 hown hK hG hk52 (cell_9 hq53) rfl 6 (by decide) lk_19 (fun _ h9 => h9) rfl hmn rfl rfl rfl (Nat.le_of_ble_eq_true rfl) (S' := sR S49 k0 6 (some (gN S39))) rfl (pu_9_6 hq53 (some (gN S39))) dX9_init_33 (fun H locs hG => ?_)
  obtain ⟨S60, eS_S60⟩ : ∃ z : GS, z = sR S49 k0 6 (some (gN S39)) := ⟨_, rfl⟩
  have h := h S60 eS_S60
  rw [← eS_S60] at hG
  have hs_S60 : gSh S60 S49 := by rw [eS_S60]; exact gSh.r _ _ _ _
  have hsh := (gExt.ofSh hs_S60).tr hsh
  have hk61 := hs_S60.lt hk52
  have hq62 := hs_S60.kd hq53
  have hk63 := hs_S60.lt hk54
  have hq64 := hs_S60.kd hq55
  have hk65 := hs_S60.lt hk56
  have hq66 := hs_S60.kd hq57
  have hk67 := hs_S60.lt hk58
  have hq68 := hs_S60.kd hq59
  have hk69 := hs_S60.lt hk50
  have hq70 := hs_S60.kd hq51
  refine lv_aload_n hx hb dX9_init_36 rfl (lv_at hl 0 rfl) ?_
  refine lv_sipush (v := 512) hx hb dX9_init_37 (by decide) ?_
  obtain ⟨hcd71, h⟩ := h
  refine r_newa (atype := .int) (ty := .int) (N' := 512) (n := 512) (a0 := (512, .inl (fun _ => 0))) hx hb (hts (.arrayClass .int) (by decide +kernel)) rfl hK hG hA hcd71 1 11 rfl (fun _ _ h => h) (fun _ => rfl) (fun _ => rfl) (by decide) (by decide) (by show 512 * 4 ≤ 536870912; omega) (by decide) (by decide) dX9_init_40 (fun ad H had hG => ?_)
  have hl : lv_has ls 1 [(0, .ref (ad k0))] := by rw [had k0 hk61]; exact hl
  refine W.eq (g2 := F0 m 42 ls [.ref (ad (gN S60)), .ref (ad k0)]) (by rw [had k0 hk61] <;> rfl) ?_
  refine W.widen (k := 5) (n := 760) (by decide) (by decide) ?_
  obtain ⟨S72, eS_S72⟩ : ∃ z : GS, z = nwS S60 11 512 := ⟨_, rfl⟩
  have h := h S72 eS_S72
  rw [← eS_S72] at hG
  have hx_S72 : gExt S72 S60 := by rw [eS_S72]; exact gExt.nw _ _ _
  have had0 := fun k (hk : k < gN S0) => (had k (Nat.lt_of_lt_of_le hk hsh.1)).trans (had0 k hk)
  have hsh := hx_S72.tr hsh
  have hk73 : gN S60 < gN S72 := by rw [eS_S72]; exact Nat.lt_succ_self _
  have hq74 : gK S72 (gN S60) = 11 := by rw [eS_S72]; exact va_up_self _ _ _
  have hk75 := hx_S72.lt hk61
  have hq76 := hx_S72.kd hk61 hq62
  have hk77 := hx_S72.lt hk63
  have hq78 := hx_S72.kd hk63 hq64
  have hk79 := hx_S72.lt hk65
  have hq80 := hx_S72.kd hk65 hq66
  have hk81 := hx_S72.lt hk67
  have hq82 := hx_S72.kd hk67 hq68
  have hk83 := hx_S72.lt hk69
  have hq84 := hx_S72.kd hk69 hq70
  refine r_putF (ci := 9) (C := RX9) (T := TX9) (N := 36) hx hb hts hin9 tyX9 tyX9_ok nmX9 hown hK hG hk75 (cell_9 hq76) rfl 8 (by decide) lk_22 (fun _ h9 => h9) rfl hmn rfl rfl rfl (Nat.le_of_ble_eq_true rfl) (S' := sR S72 k0 8 (some (gN S60))) rfl (pu_9_8 hq76 (some (gN S60))) dX9_init_42 (fun H locs hG => ?_)
  obtain ⟨S85, eS_S85⟩ : ∃ z : GS, z = sR S72 k0 8 (some (gN S60)) := ⟨_, rfl⟩
  have h := h S85 eS_S85
  rw [← eS_S85] at hG
  have hs_S85 : gSh S85 S72 := by rw [eS_S85]; exact gSh.r _ _ _ _
  have hsh := (gExt.ofSh hs_S85).tr hsh
  have hk86 := hs_S85.lt hk75
  have hq87 := hs_S85.kd hq76
  have hk88 := hs_S85.lt hk77
  have hq89 := hs_S85.kd hq78
  have hk90 := hs_S85.lt hk79
  have hq91 := hs_S85.kd hq80
  have hk92 := hs_S85.lt hk81
  have hq93 := hs_S85.kd hq82
  have hk94 := hs_S85.lt hk83
  have hq95 := hs_S85.kd hq84
  have hk96 := hs_S85.lt hk73
  have hq97 := hs_S85.kd hq74
  refine lv_aload_n hx hb dX9_init_45 rfl (lv_at hl 0 rfl) ?_
  refine lv_sipush (v := 512) hx hb dX9_init_46 (by decide) ?_
  obtain ⟨hcd98, h⟩ := h
  refine r_newa (atype := .boolean) (ty := .boolean) (N' := 512) (n := 512) (a0 := (512, .inl (fun _ => 0))) hx hb (hts (.arrayClass .boolean) (by decide +kernel)) rfl hK hG hA hcd98 2 12 rfl (fun _ _ h => h) (fun _ => rfl) (fun _ => rfl) (by decide) (by decide) (by show 512 * 1 ≤ 536870912; omega) (by decide) (by decide) dX9_init_49 (fun ad H had hG => ?_)
  have hl : lv_has ls 1 [(0, .ref (ad k0))] := by rw [had k0 hk86]; exact hl
  refine W.eq (g2 := F0 m 51 ls [.ref (ad (gN S85)), .ref (ad k0)]) (by rw [had k0 hk86] <;> rfl) ?_
  refine W.widen (k := 6) (n := 1272) (by decide) (by decide) ?_
  obtain ⟨S99, eS_S99⟩ : ∃ z : GS, z = nwS S85 12 512 := ⟨_, rfl⟩
  have h := h S99 eS_S99
  rw [← eS_S99] at hG
  have hx_S99 : gExt S99 S85 := by rw [eS_S99]; exact gExt.nw _ _ _
  have had0 := fun k (hk : k < gN S0) => (had k (Nat.lt_of_lt_of_le hk hsh.1)).trans (had0 k hk)
  have hsh := hx_S99.tr hsh
  have hk100 : gN S85 < gN S99 := by rw [eS_S99]; exact Nat.lt_succ_self _
  have hq101 : gK S99 (gN S85) = 12 := by rw [eS_S99]; exact va_up_self _ _ _
  have hk102 := hx_S99.lt hk86
  have hq103 := hx_S99.kd hk86 hq87
  have hk104 := hx_S99.lt hk88
  have hq105 := hx_S99.kd hk88 hq89
  have hk106 := hx_S99.lt hk90
  have hq107 := hx_S99.kd hk90 hq91
  have hk108 := hx_S99.lt hk92
  have hq109 := hx_S99.kd hk92 hq93
  have hk110 := hx_S99.lt hk94
  have hq111 := hx_S99.kd hk94 hq95
  have hk112 := hx_S99.lt hk96
  have hq113 := hx_S99.kd hk96 hq97
  refine r_putF (ci := 9) (C := RX9) (T := TX9) (N := 36) hx hb hts hin9 tyX9 tyX9_ok nmX9 hown hK hG hk102 (cell_9 hq103) rfl 9 (by decide) lk_25 (fun _ h9 => h9) rfl hmn rfl rfl rfl (Nat.le_of_ble_eq_true rfl) (S' := sR S99 k0 9 (some (gN S85))) rfl (pu_9_9 hq103 (some (gN S85))) dX9_init_51 (fun H locs hG => ?_)
  obtain ⟨S114, eS_S114⟩ : ∃ z : GS, z = sR S99 k0 9 (some (gN S85)) := ⟨_, rfl⟩
  have h := h S114 eS_S114
  rw [← eS_S114] at hG
  have hs_S114 : gSh S114 S99 := by rw [eS_S114]; exact gSh.r _ _ _ _
  have hsh := (gExt.ofSh hs_S114).tr hsh
  have hk115 := hs_S114.lt hk102
  have hq116 := hs_S114.kd hq103
  have hk117 := hs_S114.lt hk104
  have hq118 := hs_S114.kd hq105
  have hk119 := hs_S114.lt hk106
  have hq120 := hs_S114.kd hq107
  have hk121 := hs_S114.lt hk108
  have hq122 := hs_S114.kd hq109
  have hk123 := hs_S114.lt hk110
  have hq124 := hs_S114.kd hq111
  have hk125 := hs_S114.lt hk112
  have hq126 := hs_S114.kd hq113
  have hk127 := hs_S114.lt hk100
  have hq128 := hs_S114.kd hq101
  refine lv_aload_n hx hb dX9_init_54 rfl (lv_at hl 0 rfl) ?_
  refine lv_sipush (v := 512) hx hb dX9_init_55 (by decide) ?_
  obtain ⟨hcd129, h⟩ := h
  refine r_newa (atype := .boolean) (ty := .boolean) (N' := 512) (n := 512) (a0 := (512, .inl (fun _ => 0))) hx hb (hts (.arrayClass .boolean) (by decide +kernel)) rfl hK hG hA hcd129 2 12 rfl (fun _ _ h => h) (fun _ => rfl) (fun _ => rfl) (by decide) (by decide) (by show 512 * 1 ≤ 536870912; omega) (by decide) (by decide) dX9_init_58 (fun ad H had hG => ?_)
  have hl : lv_has ls 1 [(0, .ref (ad k0))] := by rw [had k0 hk115]; exact hl
  refine W.eq (g2 := F0 m 60 ls [.ref (ad (gN S114)), .ref (ad k0)]) (by rw [had k0 hk115] <;> rfl) ?_
  refine W.widen (k := 7) (n := 1784) (by decide) (by decide) ?_
  obtain ⟨S130, eS_S130⟩ : ∃ z : GS, z = nwS S114 12 512 := ⟨_, rfl⟩
  have h := h S130 eS_S130
  rw [← eS_S130] at hG
  have hx_S130 : gExt S130 S114 := by rw [eS_S130]; exact gExt.nw _ _ _
  have had0 := fun k (hk : k < gN S0) => (had k (Nat.lt_of_lt_of_le hk hsh.1)).trans (had0 k hk)
  have hsh := hx_S130.tr hsh
  have hk131 : gN S114 < gN S130 := by rw [eS_S130]; exact Nat.lt_succ_self _
  have hq132 : gK S130 (gN S114) = 12 := by rw [eS_S130]; exact va_up_self _ _ _
  have hk133 := hx_S130.lt hk115
  have hq134 := hx_S130.kd hk115 hq116
  have hk135 := hx_S130.lt hk117
  have hq136 := hx_S130.kd hk117 hq118
  have hk137 := hx_S130.lt hk119
  have hq138 := hx_S130.kd hk119 hq120
  have hk139 := hx_S130.lt hk121
  have hq140 := hx_S130.kd hk121 hq122
  have hk141 := hx_S130.lt hk123
  have hq142 := hx_S130.kd hk123 hq124
  have hk143 := hx_S130.lt hk125
  have hq144 := hx_S130.kd hk125 hq126
  have hk145 := hx_S130.lt hk127
  have hq146 := hx_S130.kd hk127 hq128
  refine r_putF (ci := 9) (C := RX9) (T := TX9) (N := 36) hx hb hts hin9 tyX9 tyX9_ok nmX9 hown hK hG hk133 (cell_9 hq134) rfl 10 (by decide) lk_29 (fun _ h9 => h9) rfl hmn rfl rfl rfl (Nat.le_of_ble_eq_true rfl) (S' := sR S130 k0 10 (some (gN S114))) rfl (pu_9_10 hq134 (some (gN S114))) dX9_init_60 (fun H locs hG => ?_)
  obtain ⟨S147, eS_S147⟩ : ∃ z : GS, z = sR S130 k0 10 (some (gN S114)) := ⟨_, rfl⟩
  have h := h S147 eS_S147
  rw [← eS_S147] at hG
  have hs_S147 : gSh S147 S130 := by rw [eS_S147]; exact gSh.r _ _ _ _
  have hsh := (gExt.ofSh hs_S147).tr hsh
  have hk148 := hs_S147.lt hk133
  have hq149 := hs_S147.kd hq134
  have hk150 := hs_S147.lt hk135
  have hq151 := hs_S147.kd hq136
  have hk152 := hs_S147.lt hk137
  have hq153 := hs_S147.kd hq138
  have hk154 := hs_S147.lt hk139
  have hq155 := hs_S147.kd hq140
  have hk156 := hs_S147.lt hk141
  have hq157 := hs_S147.kd hq142
  have hk158 := hs_S147.lt hk143
  have hq159 := hs_S147.kd hq144
  have hk160 := hs_S147.lt hk145
  have hq161 := hs_S147.kd hq146
  have hk162 := hs_S147.lt hk131
  have hq163 := hs_S147.kd hq132
  refine lv_aload_n hx hb dX9_init_63 rfl (lv_at hl 0 rfl) ?_
  refine lv_sipush (v := 512) hx hb dX9_init_64 (by decide) ?_
  obtain ⟨hcd164, h⟩ := h
  refine r_newa (atype := .int) (ty := .int) (N' := 512) (n := 512) (a0 := (512, .inl (fun _ => 0))) hx hb (hts (.arrayClass .int) (by decide +kernel)) rfl hK hG hA hcd164 1 11 rfl (fun _ _ h => h) (fun _ => rfl) (fun _ => rfl) (by decide) (by decide) (by show 512 * 4 ≤ 536870912; omega) (by decide) (by decide) dX9_init_67 (fun ad H had hG => ?_)
  have hl : lv_has ls 1 [(0, .ref (ad k0))] := by rw [had k0 hk148]; exact hl
  refine W.eq (g2 := F0 m 69 ls [.ref (ad (gN S147)), .ref (ad k0)]) (by rw [had k0 hk148] <;> rfl) ?_
  refine W.widen (k := 8) (n := 2296) (by decide) (by decide) ?_
  obtain ⟨S165, eS_S165⟩ : ∃ z : GS, z = nwS S147 11 512 := ⟨_, rfl⟩
  have h := h S165 eS_S165
  rw [← eS_S165] at hG
  have hx_S165 : gExt S165 S147 := by rw [eS_S165]; exact gExt.nw _ _ _
  have had0 := fun k (hk : k < gN S0) => (had k (Nat.lt_of_lt_of_le hk hsh.1)).trans (had0 k hk)
  have hsh := hx_S165.tr hsh
  have hk166 : gN S147 < gN S165 := by rw [eS_S165]; exact Nat.lt_succ_self _
  have hq167 : gK S165 (gN S147) = 11 := by rw [eS_S165]; exact va_up_self _ _ _
  have hk168 := hx_S165.lt hk148
  have hq169 := hx_S165.kd hk148 hq149
  have hk170 := hx_S165.lt hk150
  have hq171 := hx_S165.kd hk150 hq151
  have hk172 := hx_S165.lt hk152
  have hq173 := hx_S165.kd hk152 hq153
  have hk174 := hx_S165.lt hk154
  have hq175 := hx_S165.kd hk154 hq155
  have hk176 := hx_S165.lt hk156
  have hq177 := hx_S165.kd hk156 hq157
  have hk178 := hx_S165.lt hk158
  have hq179 := hx_S165.kd hk158 hq159
  have hk180 := hx_S165.lt hk160
  have hq181 := hx_S165.kd hk160 hq161
  have hk182 := hx_S165.lt hk162
  have hq183 := hx_S165.kd hk162 hq163
  refine r_putF (ci := 9) (C := RX9) (T := TX9) (N := 36) hx hb hts hin9 tyX9 tyX9_ok nmX9 hown hK hG hk168 (cell_9 hq169) rfl 11 (by decide) lk_32 (fun _ h9 => h9) rfl hmn rfl rfl rfl (Nat.le_of_ble_eq_true rfl) (S' := sR S165 k0 11 (some (gN S147))) rfl (pu_9_11 hq169 (some (gN S147))) dX9_init_69 (fun H locs hG => ?_)
  obtain ⟨S184, eS_S184⟩ : ∃ z : GS, z = sR S165 k0 11 (some (gN S147)) := ⟨_, rfl⟩
  have h := h S184 eS_S184
  rw [← eS_S184] at hG
  have hs_S184 : gSh S184 S165 := by rw [eS_S184]; exact gSh.r _ _ _ _
  have hsh := (gExt.ofSh hs_S184).tr hsh
  have hk185 := hs_S184.lt hk168
  have hq186 := hs_S184.kd hq169
  have hk187 := hs_S184.lt hk170
  have hq188 := hs_S184.kd hq171
  have hk189 := hs_S184.lt hk172
  have hq190 := hs_S184.kd hq173
  have hk191 := hs_S184.lt hk174
  have hq192 := hs_S184.kd hq175
  have hk193 := hs_S184.lt hk176
  have hq194 := hs_S184.kd hq177
  have hk195 := hs_S184.lt hk178
  have hq196 := hs_S184.kd hq179
  have hk197 := hs_S184.lt hk180
  have hq198 := hs_S184.kd hq181
  have hk199 := hs_S184.lt hk182
  have hq200 := hs_S184.kd hq183
  have hk201 := hs_S184.lt hk166
  have hq202 := hs_S184.kd hq167
  refine lv_aload_n hx hb dX9_init_72 rfl (lv_at hl 0 rfl) ?_
  refine lv_sipush (v := 512) hx hb dX9_init_73 (by decide) ?_
  obtain ⟨hcd203, h⟩ := h
  refine r_newa (atype := .int) (ty := .int) (N' := 512) (n := 512) (a0 := (512, .inl (fun _ => 0))) hx hb (hts (.arrayClass .int) (by decide +kernel)) rfl hK hG hA hcd203 1 11 rfl (fun _ _ h => h) (fun _ => rfl) (fun _ => rfl) (by decide) (by decide) (by show 512 * 4 ≤ 536870912; omega) (by decide) (by decide) dX9_init_76 (fun ad H had hG => ?_)
  have hl : lv_has ls 1 [(0, .ref (ad k0))] := by rw [had k0 hk185]; exact hl
  refine W.eq (g2 := F0 m 78 ls [.ref (ad (gN S184)), .ref (ad k0)]) (by rw [had k0 hk185] <;> rfl) ?_
  refine W.widen (k := 9) (n := 2808) (by decide) (by decide) ?_
  obtain ⟨S204, eS_S204⟩ : ∃ z : GS, z = nwS S184 11 512 := ⟨_, rfl⟩
  have h := h S204 eS_S204
  rw [← eS_S204] at hG
  have hx_S204 : gExt S204 S184 := by rw [eS_S204]; exact gExt.nw _ _ _
  have had0 := fun k (hk : k < gN S0) => (had k (Nat.lt_of_lt_of_le hk hsh.1)).trans (had0 k hk)
  have hsh := hx_S204.tr hsh
  have hk205 : gN S184 < gN S204 := by rw [eS_S204]; exact Nat.lt_succ_self _
  have hq206 : gK S204 (gN S184) = 11 := by rw [eS_S204]; exact va_up_self _ _ _
  have hk207 := hx_S204.lt hk185
  have hq208 := hx_S204.kd hk185 hq186
  have hk209 := hx_S204.lt hk187
  have hq210 := hx_S204.kd hk187 hq188
  have hk211 := hx_S204.lt hk189
  have hq212 := hx_S204.kd hk189 hq190
  have hk213 := hx_S204.lt hk191
  have hq214 := hx_S204.kd hk191 hq192
  have hk215 := hx_S204.lt hk193
  have hq216 := hx_S204.kd hk193 hq194
  have hk217 := hx_S204.lt hk195
  have hq218 := hx_S204.kd hk195 hq196
  have hk219 := hx_S204.lt hk197
  have hq220 := hx_S204.kd hk197 hq198
  have hk221 := hx_S204.lt hk199
  have hq222 := hx_S204.kd hk199 hq200
  have hk223 := hx_S204.lt hk201
  have hq224 := hx_S204.kd hk201 hq202
  refine r_putF (ci := 9) (C := RX9) (T := TX9) (N := 36) hx hb hts hin9 tyX9 tyX9_ok nmX9 hown hK hG hk207 (cell_9 hq208) rfl 12 (by decide) lk_35 (fun _ h9 => h9) rfl hmn rfl rfl rfl (Nat.le_of_ble_eq_true rfl) (S' := sR S204 k0 12 (some (gN S184))) rfl (pu_9_12 hq208 (some (gN S184))) dX9_init_78 (fun H locs hG => ?_)
  obtain ⟨S225, eS_S225⟩ : ∃ z : GS, z = sR S204 k0 12 (some (gN S184)) := ⟨_, rfl⟩
  have h := h S225 eS_S225
  rw [← eS_S225] at hG
  have hs_S225 : gSh S225 S204 := by rw [eS_S225]; exact gSh.r _ _ _ _
  have hsh := (gExt.ofSh hs_S225).tr hsh
  have hk226 := hs_S225.lt hk207
  have hq227 := hs_S225.kd hq208
  have hk228 := hs_S225.lt hk209
  have hq229 := hs_S225.kd hq210
  have hk230 := hs_S225.lt hk211
  have hq231 := hs_S225.kd hq212
  have hk232 := hs_S225.lt hk213
  have hq233 := hs_S225.kd hq214
  have hk234 := hs_S225.lt hk215
  have hq235 := hs_S225.kd hq216
  have hk236 := hs_S225.lt hk217
  have hq237 := hs_S225.kd hq218
  have hk238 := hs_S225.lt hk219
  have hq239 := hs_S225.kd hq220
  have hk240 := hs_S225.lt hk221
  have hq241 := hs_S225.kd hq222
  have hk242 := hs_S225.lt hk223
  have hq243 := hs_S225.kd hq224
  have hk244 := hs_S225.lt hk205
  have hq245 := hs_S225.kd hq206
  refine lv_aload_n hx hb dX9_init_81 rfl (lv_at hl 0 rfl) ?_
  refine lv_sipush (v := 512) hx hb dX9_init_82 (by decide) ?_
  obtain ⟨hcd246, h⟩ := h
  refine r_newa (atype := .int) (ty := .int) (N' := 512) (n := 512) (a0 := (512, .inl (fun _ => 0))) hx hb (hts (.arrayClass .int) (by decide +kernel)) rfl hK hG hA hcd246 1 11 rfl (fun _ _ h => h) (fun _ => rfl) (fun _ => rfl) (by decide) (by decide) (by show 512 * 4 ≤ 536870912; omega) (by decide) (by decide) dX9_init_85 (fun ad H had hG => ?_)
  have hl : lv_has ls 1 [(0, .ref (ad k0))] := by rw [had k0 hk226]; exact hl
  refine W.eq (g2 := F0 m 87 ls [.ref (ad (gN S225)), .ref (ad k0)]) (by rw [had k0 hk226] <;> rfl) ?_
  refine W.widen (k := 10) (n := 3320) (by decide) (by decide) ?_
  obtain ⟨S247, eS_S247⟩ : ∃ z : GS, z = nwS S225 11 512 := ⟨_, rfl⟩
  have h := h S247 eS_S247
  rw [← eS_S247] at hG
  have hx_S247 : gExt S247 S225 := by rw [eS_S247]; exact gExt.nw _ _ _
  have had0 := fun k (hk : k < gN S0) => (had k (Nat.lt_of_lt_of_le hk hsh.1)).trans (had0 k hk)
  have hsh := hx_S247.tr hsh
  have hk248 : gN S225 < gN S247 := by rw [eS_S247]; exact Nat.lt_succ_self _
  have hq249 : gK S247 (gN S225) = 11 := by rw [eS_S247]; exact va_up_self _ _ _
  have hk250 := hx_S247.lt hk226
  have hq251 := hx_S247.kd hk226 hq227
  have hk252 := hx_S247.lt hk228
  have hq253 := hx_S247.kd hk228 hq229
  have hk254 := hx_S247.lt hk230
  have hq255 := hx_S247.kd hk230 hq231
  have hk256 := hx_S247.lt hk232
  have hq257 := hx_S247.kd hk232 hq233
  have hk258 := hx_S247.lt hk234
  have hq259 := hx_S247.kd hk234 hq235
  have hk260 := hx_S247.lt hk236
  have hq261 := hx_S247.kd hk236 hq237
  have hk262 := hx_S247.lt hk238
  have hq263 := hx_S247.kd hk238 hq239
  have hk264 := hx_S247.lt hk240
  have hq265 := hx_S247.kd hk240 hq241
  have hk266 := hx_S247.lt hk242
  have hq267 := hx_S247.kd hk242 hq243
  have hk268 := hx_S247.lt hk244
  have hq269 := hx_S247.kd hk244 hq245
  refine r_putF (ci := 9) (C := RX9) (T := TX9) (N := 36) hx hb hts hin9 tyX9 tyX9_ok nmX9 hown hK hG hk250 (cell_9 hq251) rfl 13 (by decide) lk_38 (fun _ h9 => h9) rfl hmn rfl rfl rfl (Nat.le_of_ble_eq_true rfl) (S' := sR S247 k0 13 (some (gN S225))) rfl (pu_9_13 hq251 (some (gN S225))) dX9_init_87 (fun H locs hG => ?_)
  obtain ⟨S270, eS_S270⟩ : ∃ z : GS, z = sR S247 k0 13 (some (gN S225)) := ⟨_, rfl⟩
  have h := h S270 eS_S270
  rw [← eS_S270] at hG
  have hs_S270 : gSh S270 S247 := by rw [eS_S270]; exact gSh.r _ _ _ _
  have hsh := (gExt.ofSh hs_S270).tr hsh
  have hk271 := hs_S270.lt hk250
  have hq272 := hs_S270.kd hq251
  have hk273 := hs_S270.lt hk252
  have hq274 := hs_S270.kd hq253
  have hk275 := hs_S270.lt hk254
  have hq276 := hs_S270.kd hq255
  have hk277 := hs_S270.lt hk256
  have hq278 := hs_S270.kd hq257
  have hk279 := hs_S270.lt hk258
  have hq280 := hs_S270.kd hq259
  have hk281 := hs_S270.lt hk260
  have hq282 := hs_S270.kd hq261
  have hk283 := hs_S270.lt hk262
  have hq284 := hs_S270.kd hq263
  have hk285 := hs_S270.lt hk264
  have hq286 := hs_S270.kd hq265
  have hk287 := hs_S270.lt hk266
  have hq288 := hs_S270.kd hq267
  have hk289 := hs_S270.lt hk268
  have hq290 := hs_S270.kd hq269
  have hk291 := hs_S270.lt hk248
  have hq292 := hs_S270.kd hq249
  refine lv_aload_n hx hb dX9_init_90 rfl (lv_at hl 0 rfl) ?_
  refine lv_sipush (v := 512) hx hb dX9_init_91 (by decide) ?_
  obtain ⟨hcd293, h⟩ := h
  refine r_newa (atype := .int) (ty := .int) (N' := 512) (n := 512) (a0 := (512, .inl (fun _ => 0))) hx hb (hts (.arrayClass .int) (by decide +kernel)) rfl hK hG hA hcd293 1 11 rfl (fun _ _ h => h) (fun _ => rfl) (fun _ => rfl) (by decide) (by decide) (by show 512 * 4 ≤ 536870912; omega) (by decide) (by decide) dX9_init_94 (fun ad H had hG => ?_)
  have hl : lv_has ls 1 [(0, .ref (ad k0))] := by rw [had k0 hk271]; exact hl
  refine W.eq (g2 := F0 m 96 ls [.ref (ad (gN S270)), .ref (ad k0)]) (by rw [had k0 hk271] <;> rfl) ?_
  refine W.widen (k := 11) (n := 3832) (by decide) (by decide) ?_
  obtain ⟨S294, eS_S294⟩ : ∃ z : GS, z = nwS S270 11 512 := ⟨_, rfl⟩
  have h := h S294 eS_S294
  rw [← eS_S294] at hG
  have hx_S294 : gExt S294 S270 := by rw [eS_S294]; exact gExt.nw _ _ _
  have had0 := fun k (hk : k < gN S0) => (had k (Nat.lt_of_lt_of_le hk hsh.1)).trans (had0 k hk)
  have hsh := hx_S294.tr hsh
  have hk295 : gN S270 < gN S294 := by rw [eS_S294]; exact Nat.lt_succ_self _
  have hq296 : gK S294 (gN S270) = 11 := by rw [eS_S294]; exact va_up_self _ _ _
  have hk297 := hx_S294.lt hk271
  have hq298 := hx_S294.kd hk271 hq272
  have hk299 := hx_S294.lt hk273
  have hq300 := hx_S294.kd hk273 hq274
  have hk301 := hx_S294.lt hk275
  have hq302 := hx_S294.kd hk275 hq276
  have hk303 := hx_S294.lt hk277
  have hq304 := hx_S294.kd hk277 hq278
  have hk305 := hx_S294.lt hk279
  have hq306 := hx_S294.kd hk279 hq280
  have hk307 := hx_S294.lt hk281
  have hq308 := hx_S294.kd hk281 hq282
  have hk309 := hx_S294.lt hk283
  have hq310 := hx_S294.kd hk283 hq284
  have hk311 := hx_S294.lt hk285
  have hq312 := hx_S294.kd hk285 hq286
  have hk313 := hx_S294.lt hk287
  have hq314 := hx_S294.kd hk287 hq288
  have hk315 := hx_S294.lt hk289
  have hq316 := hx_S294.kd hk289 hq290
  have hk317 := hx_S294.lt hk291
  have hq318 := hx_S294.kd hk291 hq292
  refine r_putF (ci := 9) (C := RX9) (T := TX9) (N := 36) hx hb hts hin9 tyX9 tyX9_ok nmX9 hown hK hG hk297 (cell_9 hq298) rfl 14 (by decide) lk_41 (fun _ h9 => h9) rfl hmn rfl rfl rfl (Nat.le_of_ble_eq_true rfl) (S' := sR S294 k0 14 (some (gN S270))) rfl (pu_9_14 hq298 (some (gN S270))) dX9_init_96 (fun H locs hG => ?_)
  obtain ⟨S319, eS_S319⟩ : ∃ z : GS, z = sR S294 k0 14 (some (gN S270)) := ⟨_, rfl⟩
  have h := h S319 eS_S319
  rw [← eS_S319] at hG
  have hs_S319 : gSh S319 S294 := by rw [eS_S319]; exact gSh.r _ _ _ _
  have hsh := (gExt.ofSh hs_S319).tr hsh
  have hk320 := hs_S319.lt hk297
  have hq321 := hs_S319.kd hq298
  have hk322 := hs_S319.lt hk299
  have hq323 := hs_S319.kd hq300
  have hk324 := hs_S319.lt hk301
  have hq325 := hs_S319.kd hq302
  have hk326 := hs_S319.lt hk303
  have hq327 := hs_S319.kd hq304
  have hk328 := hs_S319.lt hk305
  have hq329 := hs_S319.kd hq306
  have hk330 := hs_S319.lt hk307
  have hq331 := hs_S319.kd hq308
  have hk332 := hs_S319.lt hk309
  have hq333 := hs_S319.kd hq310
  have hk334 := hs_S319.lt hk311
  have hq335 := hs_S319.kd hq312
  have hk336 := hs_S319.lt hk313
  have hq337 := hs_S319.kd hq314
  have hk338 := hs_S319.lt hk315
  have hq339 := hs_S319.kd hq316
  have hk340 := hs_S319.lt hk317
  have hq341 := hs_S319.kd hq318
  have hk342 := hs_S319.lt hk295
  have hq343 := hs_S319.kd hq296
  refine lv_aload_n hx hb dX9_init_99 rfl (lv_at hl 0 rfl) ?_
  refine lv_sipush (v := 512) hx hb dX9_init_100 (by decide) ?_
  obtain ⟨hcd344, h⟩ := h
  refine r_newa (atype := .int) (ty := .int) (N' := 512) (n := 512) (a0 := (512, .inl (fun _ => 0))) hx hb (hts (.arrayClass .int) (by decide +kernel)) rfl hK hG hA hcd344 1 11 rfl (fun _ _ h => h) (fun _ => rfl) (fun _ => rfl) (by decide) (by decide) (by show 512 * 4 ≤ 536870912; omega) (by decide) (by decide) dX9_init_103 (fun ad H had hG => ?_)
  have hl : lv_has ls 1 [(0, .ref (ad k0))] := by rw [had k0 hk320]; exact hl
  refine W.eq (g2 := F0 m 105 ls [.ref (ad (gN S319)), .ref (ad k0)]) (by rw [had k0 hk320] <;> rfl) ?_
  refine W.widen (k := 12) (n := 4344) (by decide) (by decide) ?_
  obtain ⟨S345, eS_S345⟩ : ∃ z : GS, z = nwS S319 11 512 := ⟨_, rfl⟩
  have h := h S345 eS_S345
  rw [← eS_S345] at hG
  have hx_S345 : gExt S345 S319 := by rw [eS_S345]; exact gExt.nw _ _ _
  have had0 := fun k (hk : k < gN S0) => (had k (Nat.lt_of_lt_of_le hk hsh.1)).trans (had0 k hk)
  have hsh := hx_S345.tr hsh
  have hk346 : gN S319 < gN S345 := by rw [eS_S345]; exact Nat.lt_succ_self _
  have hq347 : gK S345 (gN S319) = 11 := by rw [eS_S345]; exact va_up_self _ _ _
  have hk348 := hx_S345.lt hk320
  have hq349 := hx_S345.kd hk320 hq321
  have hk350 := hx_S345.lt hk322
  have hq351 := hx_S345.kd hk322 hq323
  have hk352 := hx_S345.lt hk324
  have hq353 := hx_S345.kd hk324 hq325
  have hk354 := hx_S345.lt hk326
  have hq355 := hx_S345.kd hk326 hq327
  have hk356 := hx_S345.lt hk328
  have hq357 := hx_S345.kd hk328 hq329
  have hk358 := hx_S345.lt hk330
  have hq359 := hx_S345.kd hk330 hq331
  have hk360 := hx_S345.lt hk332
  have hq361 := hx_S345.kd hk332 hq333
  have hk362 := hx_S345.lt hk334
  have hq363 := hx_S345.kd hk334 hq335
  have hk364 := hx_S345.lt hk336
  have hq365 := hx_S345.kd hk336 hq337
  have hk366 := hx_S345.lt hk338
  have hq367 := hx_S345.kd hk338 hq339
  have hk368 := hx_S345.lt hk340
  have hq369 := hx_S345.kd hk340 hq341
  have hk370 := hx_S345.lt hk342
  have hq371 := hx_S345.kd hk342 hq343
  refine r_putF (ci := 9) (C := RX9) (T := TX9) (N := 36) hx hb hts hin9 tyX9 tyX9_ok nmX9 hown hK hG hk348 (cell_9 hq349) rfl 15 (by decide) lk_44 (fun _ h9 => h9) rfl hmn rfl rfl rfl (Nat.le_of_ble_eq_true rfl) (S' := sR S345 k0 15 (some (gN S319))) rfl (pu_9_15 hq349 (some (gN S319))) dX9_init_105 (fun H locs hG => ?_)
  obtain ⟨S372, eS_S372⟩ : ∃ z : GS, z = sR S345 k0 15 (some (gN S319)) := ⟨_, rfl⟩
  have h := h S372 eS_S372
  rw [← eS_S372] at hG
  have hs_S372 : gSh S372 S345 := by rw [eS_S372]; exact gSh.r _ _ _ _
  have hsh := (gExt.ofSh hs_S372).tr hsh
  have hk373 := hs_S372.lt hk348
  have hq374 := hs_S372.kd hq349
  have hk375 := hs_S372.lt hk350
  have hq376 := hs_S372.kd hq351
  have hk377 := hs_S372.lt hk352
  have hq378 := hs_S372.kd hq353
  have hk379 := hs_S372.lt hk354
  have hq380 := hs_S372.kd hq355
  have hk381 := hs_S372.lt hk356
  have hq382 := hs_S372.kd hq357
  have hk383 := hs_S372.lt hk358
  have hq384 := hs_S372.kd hq359
  have hk385 := hs_S372.lt hk360
  have hq386 := hs_S372.kd hq361
  have hk387 := hs_S372.lt hk362
  have hq388 := hs_S372.kd hq363
  have hk389 := hs_S372.lt hk364
  have hq390 := hs_S372.kd hq365
  have hk391 := hs_S372.lt hk366
  have hq392 := hs_S372.kd hq367
  have hk393 := hs_S372.lt hk368
  have hq394 := hs_S372.kd hq369
  have hk395 := hs_S372.lt hk370
  have hq396 := hs_S372.kd hq371
  have hk397 := hs_S372.lt hk346
  have hq398 := hs_S372.kd hq347
  refine lv_aload_n hx hb dX9_init_108 rfl (lv_at hl 0 rfl) ?_
  refine lv_sipush (v := 512) hx hb dX9_init_109 (by decide) ?_
  obtain ⟨hcd399, h⟩ := h
  refine r_newa (atype := .int) (ty := .int) (N' := 512) (n := 512) (a0 := (512, .inl (fun _ => 0))) hx hb (hts (.arrayClass .int) (by decide +kernel)) rfl hK hG hA hcd399 1 11 rfl (fun _ _ h => h) (fun _ => rfl) (fun _ => rfl) (by decide) (by decide) (by show 512 * 4 ≤ 536870912; omega) (by decide) (by decide) dX9_init_112 (fun ad H had hG => ?_)
  have hl : lv_has ls 1 [(0, .ref (ad k0))] := by rw [had k0 hk373]; exact hl
  refine W.eq (g2 := F0 m 114 ls [.ref (ad (gN S372)), .ref (ad k0)]) (by rw [had k0 hk373] <;> rfl) ?_
  refine W.widen (k := 13) (n := 4856) (by decide) (by decide) ?_
  obtain ⟨S400, eS_S400⟩ : ∃ z : GS, z = nwS S372 11 512 := ⟨_, rfl⟩
  have h := h S400 eS_S400
  rw [← eS_S400] at hG
  have hx_S400 : gExt S400 S372 := by rw [eS_S400]; exact gExt.nw _ _ _
  have had0 := fun k (hk : k < gN S0) => (had k (Nat.lt_of_lt_of_le hk hsh.1)).trans (had0 k hk)
  have hsh := hx_S400.tr hsh
  have hk401 : gN S372 < gN S400 := by rw [eS_S400]; exact Nat.lt_succ_self _
  have hq402 : gK S400 (gN S372) = 11 := by rw [eS_S400]; exact va_up_self _ _ _
  have hk403 := hx_S400.lt hk373
  have hq404 := hx_S400.kd hk373 hq374
  have hk405 := hx_S400.lt hk375
  have hq406 := hx_S400.kd hk375 hq376
  have hk407 := hx_S400.lt hk377
  have hq408 := hx_S400.kd hk377 hq378
  have hk409 := hx_S400.lt hk379
  have hq410 := hx_S400.kd hk379 hq380
  have hk411 := hx_S400.lt hk381
  have hq412 := hx_S400.kd hk381 hq382
  have hk413 := hx_S400.lt hk383
  have hq414 := hx_S400.kd hk383 hq384
  have hk415 := hx_S400.lt hk385
  have hq416 := hx_S400.kd hk385 hq386
  have hk417 := hx_S400.lt hk387
  have hq418 := hx_S400.kd hk387 hq388
  have hk419 := hx_S400.lt hk389
  have hq420 := hx_S400.kd hk389 hq390
  have hk421 := hx_S400.lt hk391
  have hq422 := hx_S400.kd hk391 hq392
  have hk423 := hx_S400.lt hk393
  have hq424 := hx_S400.kd hk393 hq394
  have hk425 := hx_S400.lt hk395
  have hq426 := hx_S400.kd hk395 hq396
  have hk427 := hx_S400.lt hk397
  have hq428 := hx_S400.kd hk397 hq398
  refine r_putF (ci := 9) (C := RX9) (T := TX9) (N := 36) hx hb hts hin9 tyX9 tyX9_ok nmX9 hown hK hG hk403 (cell_9 hq404) rfl 16 (by decide) lk_47 (fun _ h9 => h9) rfl hmn rfl rfl rfl (Nat.le_of_ble_eq_true rfl) (S' := sR S400 k0 16 (some (gN S372))) rfl (pu_9_16 hq404 (some (gN S372))) dX9_init_114 (fun H locs hG => ?_)
  obtain ⟨S429, eS_S429⟩ : ∃ z : GS, z = sR S400 k0 16 (some (gN S372)) := ⟨_, rfl⟩
  have h := h S429 eS_S429
  rw [← eS_S429] at hG
  have hs_S429 : gSh S429 S400 := by rw [eS_S429]; exact gSh.r _ _ _ _
  have hsh := (gExt.ofSh hs_S429).tr hsh
  have hk430 := hs_S429.lt hk403
  have hq431 := hs_S429.kd hq404
  have hk432 := hs_S429.lt hk405
  have hq433 := hs_S429.kd hq406
  have hk434 := hs_S429.lt hk407
  have hq435 := hs_S429.kd hq408
  have hk436 := hs_S429.lt hk409
  have hq437 := hs_S429.kd hq410
  have hk438 := hs_S429.lt hk411
  have hq439 := hs_S429.kd hq412
  have hk440 := hs_S429.lt hk413
  have hq441 := hs_S429.kd hq414
  have hk442 := hs_S429.lt hk415
  have hq443 := hs_S429.kd hq416
  have hk444 := hs_S429.lt hk417
  have hq445 := hs_S429.kd hq418
  have hk446 := hs_S429.lt hk419
  have hq447 := hs_S429.kd hq420
  have hk448 := hs_S429.lt hk421
  have hq449 := hs_S429.kd hq422
  have hk450 := hs_S429.lt hk423
  have hq451 := hs_S429.kd hq424
  have hk452 := hs_S429.lt hk425
  have hq453 := hs_S429.kd hq426
  have hk454 := hs_S429.lt hk427
  have hq455 := hs_S429.kd hq428
  have hk456 := hs_S429.lt hk401
  have hq457 := hs_S429.kd hq402
  refine lv_aload_n hx hb dX9_init_117 rfl (lv_at hl 0 rfl) ?_
  refine lv_sipush (v := 1536) hx hb dX9_init_118 (by decide) ?_
  obtain ⟨hcd458, h⟩ := h
  refine r_newa (atype := .int) (ty := .int) (N' := 1536) (n := 1536) (a0 := (1536, .inl (fun _ => 0))) hx hb (hts (.arrayClass .int) (by decide +kernel)) rfl hK hG hA hcd458 1 11 rfl (fun _ _ h => h) (fun _ => rfl) (fun _ => rfl) (by decide) (by decide) (by show 1536 * 4 ≤ 536870912; omega) (by decide) (by decide) dX9_init_121 (fun ad H had hG => ?_)
  have hl : lv_has ls 1 [(0, .ref (ad k0))] := by rw [had k0 hk430]; exact hl
  refine W.eq (g2 := F0 m 123 ls [.ref (ad (gN S429)), .ref (ad k0)]) (by rw [had k0 hk430] <;> rfl) ?_
  refine W.widen (k := 14) (n := 6392) (by decide) (by decide) ?_
  obtain ⟨S459, eS_S459⟩ : ∃ z : GS, z = nwS S429 11 1536 := ⟨_, rfl⟩
  have h := h S459 eS_S459
  rw [← eS_S459] at hG
  have hx_S459 : gExt S459 S429 := by rw [eS_S459]; exact gExt.nw _ _ _
  have had0 := fun k (hk : k < gN S0) => (had k (Nat.lt_of_lt_of_le hk hsh.1)).trans (had0 k hk)
  have hsh := hx_S459.tr hsh
  have hk460 : gN S429 < gN S459 := by rw [eS_S459]; exact Nat.lt_succ_self _
  have hq461 : gK S459 (gN S429) = 11 := by rw [eS_S459]; exact va_up_self _ _ _
  have hk462 := hx_S459.lt hk430
  have hq463 := hx_S459.kd hk430 hq431
  have hk464 := hx_S459.lt hk432
  have hq465 := hx_S459.kd hk432 hq433
  have hk466 := hx_S459.lt hk434
  have hq467 := hx_S459.kd hk434 hq435
  have hk468 := hx_S459.lt hk436
  have hq469 := hx_S459.kd hk436 hq437
  have hk470 := hx_S459.lt hk438
  have hq471 := hx_S459.kd hk438 hq439
  have hk472 := hx_S459.lt hk440
  have hq473 := hx_S459.kd hk440 hq441
  have hk474 := hx_S459.lt hk442
  have hq475 := hx_S459.kd hk442 hq443
  have hk476 := hx_S459.lt hk444
  have hq477 := hx_S459.kd hk444 hq445
  have hk478 := hx_S459.lt hk446
  have hq479 := hx_S459.kd hk446 hq447
  have hk480 := hx_S459.lt hk448
  have hq481 := hx_S459.kd hk448 hq449
  have hk482 := hx_S459.lt hk450
  have hq483 := hx_S459.kd hk450 hq451
  have hk484 := hx_S459.lt hk452
  have hq485 := hx_S459.kd hk452 hq453
  have hk486 := hx_S459.lt hk454
  have hq487 := hx_S459.kd hk454 hq455
  have hk488 := hx_S459.lt hk456
  have hq489 := hx_S459.kd hk456 hq457
  refine r_putF (ci := 9) (C := RX9) (T := TX9) (N := 36) hx hb hts hin9 tyX9 tyX9_ok nmX9 hown hK hG hk462 (cell_9 hq463) rfl 17 (by decide) lk_50 (fun _ h9 => h9) rfl hmn rfl rfl rfl (Nat.le_of_ble_eq_true rfl) (S' := sR S459 k0 17 (some (gN S429))) rfl (pu_9_17 hq463 (some (gN S429))) dX9_init_123 (fun H locs hG => ?_)
  obtain ⟨S490, eS_S490⟩ : ∃ z : GS, z = sR S459 k0 17 (some (gN S429)) := ⟨_, rfl⟩
  have h := h S490 eS_S490
  rw [← eS_S490] at hG
  have hs_S490 : gSh S490 S459 := by rw [eS_S490]; exact gSh.r _ _ _ _
  have hsh := (gExt.ofSh hs_S490).tr hsh
  have hk491 := hs_S490.lt hk462
  have hq492 := hs_S490.kd hq463
  have hk493 := hs_S490.lt hk464
  have hq494 := hs_S490.kd hq465
  have hk495 := hs_S490.lt hk466
  have hq496 := hs_S490.kd hq467
  have hk497 := hs_S490.lt hk468
  have hq498 := hs_S490.kd hq469
  have hk499 := hs_S490.lt hk470
  have hq500 := hs_S490.kd hq471
  have hk501 := hs_S490.lt hk472
  have hq502 := hs_S490.kd hq473
  have hk503 := hs_S490.lt hk474
  have hq504 := hs_S490.kd hq475
  have hk505 := hs_S490.lt hk476
  have hq506 := hs_S490.kd hq477
  have hk507 := hs_S490.lt hk478
  have hq508 := hs_S490.kd hq479
  have hk509 := hs_S490.lt hk480
  have hq510 := hs_S490.kd hq481
  have hk511 := hs_S490.lt hk482
  have hq512 := hs_S490.kd hq483
  have hk513 := hs_S490.lt hk484
  have hq514 := hs_S490.kd hq485
  have hk515 := hs_S490.lt hk486
  have hq516 := hs_S490.kd hq487
  have hk517 := hs_S490.lt hk488
  have hq518 := hs_S490.kd hq489
  have hk519 := hs_S490.lt hk460
  have hq520 := hs_S490.kd hq461
  refine lv_aload_n hx hb dX9_init_126 rfl (lv_at hl 0 rfl) ?_
  refine lv_sipush (v := 512) hx hb dX9_init_127 (by decide) ?_
  obtain ⟨hcd521, h⟩ := h
  refine r_newa (atype := .int) (ty := .int) (N' := 512) (n := 512) (a0 := (512, .inl (fun _ => 0))) hx hb (hts (.arrayClass .int) (by decide +kernel)) rfl hK hG hA hcd521 1 11 rfl (fun _ _ h => h) (fun _ => rfl) (fun _ => rfl) (by decide) (by decide) (by show 512 * 4 ≤ 536870912; omega) (by decide) (by decide) dX9_init_130 (fun ad H had hG => ?_)
  have hl : lv_has ls 1 [(0, .ref (ad k0))] := by rw [had k0 hk491]; exact hl
  refine W.eq (g2 := F0 m 132 ls [.ref (ad (gN S490)), .ref (ad k0)]) (by rw [had k0 hk491] <;> rfl) ?_
  refine W.widen (k := 15) (n := 6904) (by decide) (by decide) ?_
  obtain ⟨S522, eS_S522⟩ : ∃ z : GS, z = nwS S490 11 512 := ⟨_, rfl⟩
  have h := h S522 eS_S522
  rw [← eS_S522] at hG
  have hx_S522 : gExt S522 S490 := by rw [eS_S522]; exact gExt.nw _ _ _
  have had0 := fun k (hk : k < gN S0) => (had k (Nat.lt_of_lt_of_le hk hsh.1)).trans (had0 k hk)
  have hsh := hx_S522.tr hsh
  have hk523 : gN S490 < gN S522 := by rw [eS_S522]; exact Nat.lt_succ_self _
  have hq524 : gK S522 (gN S490) = 11 := by rw [eS_S522]; exact va_up_self _ _ _
  have hk525 := hx_S522.lt hk491
  have hq526 := hx_S522.kd hk491 hq492
  have hk527 := hx_S522.lt hk493
  have hq528 := hx_S522.kd hk493 hq494
  have hk529 := hx_S522.lt hk495
  have hq530 := hx_S522.kd hk495 hq496
  have hk531 := hx_S522.lt hk497
  have hq532 := hx_S522.kd hk497 hq498
  have hk533 := hx_S522.lt hk499
  have hq534 := hx_S522.kd hk499 hq500
  have hk535 := hx_S522.lt hk501
  have hq536 := hx_S522.kd hk501 hq502
  have hk537 := hx_S522.lt hk503
  have hq538 := hx_S522.kd hk503 hq504
  have hk539 := hx_S522.lt hk505
  have hq540 := hx_S522.kd hk505 hq506
  have hk541 := hx_S522.lt hk507
  have hq542 := hx_S522.kd hk507 hq508
  have hk543 := hx_S522.lt hk509
  have hq544 := hx_S522.kd hk509 hq510
  have hk545 := hx_S522.lt hk511
  have hq546 := hx_S522.kd hk511 hq512
  have hk547 := hx_S522.lt hk513
  have hq548 := hx_S522.kd hk513 hq514
  have hk549 := hx_S522.lt hk515
  have hq550 := hx_S522.kd hk515 hq516
  have hk551 := hx_S522.lt hk517
  have hq552 := hx_S522.kd hk517 hq518
  have hk553 := hx_S522.lt hk519
  have hq554 := hx_S522.kd hk519 hq520
  refine r_putF (ci := 9) (C := RX9) (T := TX9) (N := 36) hx hb hts hin9 tyX9 tyX9_ok nmX9 hown hK hG hk525 (cell_9 hq526) rfl 18 (by decide) lk_53 (fun _ h9 => h9) rfl hmn rfl rfl rfl (Nat.le_of_ble_eq_true rfl) (S' := sR S522 k0 18 (some (gN S490))) rfl (pu_9_18 hq526 (some (gN S490))) dX9_init_132 (fun H locs hG => ?_)
  obtain ⟨S555, eS_S555⟩ : ∃ z : GS, z = sR S522 k0 18 (some (gN S490)) := ⟨_, rfl⟩
  have h := h S555 eS_S555
  rw [← eS_S555] at hG
  have hs_S555 : gSh S555 S522 := by rw [eS_S555]; exact gSh.r _ _ _ _
  have hsh := (gExt.ofSh hs_S555).tr hsh
  have hk556 := hs_S555.lt hk525
  have hq557 := hs_S555.kd hq526
  have hk558 := hs_S555.lt hk527
  have hq559 := hs_S555.kd hq528
  have hk560 := hs_S555.lt hk529
  have hq561 := hs_S555.kd hq530
  have hk562 := hs_S555.lt hk531
  have hq563 := hs_S555.kd hq532
  have hk564 := hs_S555.lt hk533
  have hq565 := hs_S555.kd hq534
  have hk566 := hs_S555.lt hk535
  have hq567 := hs_S555.kd hq536
  have hk568 := hs_S555.lt hk537
  have hq569 := hs_S555.kd hq538
  have hk570 := hs_S555.lt hk539
  have hq571 := hs_S555.kd hq540
  have hk572 := hs_S555.lt hk541
  have hq573 := hs_S555.kd hq542
  have hk574 := hs_S555.lt hk543
  have hq575 := hs_S555.kd hq544
  have hk576 := hs_S555.lt hk545
  have hq577 := hs_S555.kd hq546
  have hk578 := hs_S555.lt hk547
  have hq579 := hs_S555.kd hq548
  have hk580 := hs_S555.lt hk549
  have hq581 := hs_S555.kd hq550
  have hk582 := hs_S555.lt hk551
  have hq583 := hs_S555.kd hq552
  have hk584 := hs_S555.lt hk553
  have hq585 := hs_S555.kd hq554
  have hk586 := hs_S555.lt hk523
  have hq587 := hs_S555.kd hq524
  refine lv_aload_n hx hb dX9_init_135 rfl (lv_at hl 0 rfl) ?_
  refine lv_bipush (v := 40) hx hb dX9_init_136 (by decide) ?_
  obtain ⟨hcd588, h⟩ := h
  refine r_newa (atype := .int) (ty := .int) (N' := 40) (n := 40) (a0 := (40, .inl (fun _ => 0))) hx hb (hts (.arrayClass .int) (by decide +kernel)) rfl hK hG hA hcd588 1 11 rfl (fun _ _ h => h) (fun _ => rfl) (fun _ => rfl) (by decide) (by decide) (by show 40 * 4 ≤ 536870912; omega) (by decide) (by decide) dX9_init_138 (fun ad H had hG => ?_)
  have hl : lv_has ls 1 [(0, .ref (ad k0))] := by rw [had k0 hk556]; exact hl
  refine W.eq (g2 := F0 m 140 ls [.ref (ad (gN S555)), .ref (ad k0)]) (by rw [had k0 hk556] <;> rfl) ?_
  refine W.widen (k := 16) (n := 6944) (by decide) (by decide) ?_
  obtain ⟨S589, eS_S589⟩ : ∃ z : GS, z = nwS S555 11 40 := ⟨_, rfl⟩
  have h := h S589 eS_S589
  rw [← eS_S589] at hG
  have hx_S589 : gExt S589 S555 := by rw [eS_S589]; exact gExt.nw _ _ _
  have had0 := fun k (hk : k < gN S0) => (had k (Nat.lt_of_lt_of_le hk hsh.1)).trans (had0 k hk)
  have hsh := hx_S589.tr hsh
  have hk590 : gN S555 < gN S589 := by rw [eS_S589]; exact Nat.lt_succ_self _
  have hq591 : gK S589 (gN S555) = 11 := by rw [eS_S589]; exact va_up_self _ _ _
  have hk592 := hx_S589.lt hk556
  have hq593 := hx_S589.kd hk556 hq557
  have hk594 := hx_S589.lt hk558
  have hq595 := hx_S589.kd hk558 hq559
  have hk596 := hx_S589.lt hk560
  have hq597 := hx_S589.kd hk560 hq561
  have hk598 := hx_S589.lt hk562
  have hq599 := hx_S589.kd hk562 hq563
  have hk600 := hx_S589.lt hk564
  have hq601 := hx_S589.kd hk564 hq565
  have hk602 := hx_S589.lt hk566
  have hq603 := hx_S589.kd hk566 hq567
  have hk604 := hx_S589.lt hk568
  have hq605 := hx_S589.kd hk568 hq569
  have hk606 := hx_S589.lt hk570
  have hq607 := hx_S589.kd hk570 hq571
  have hk608 := hx_S589.lt hk572
  have hq609 := hx_S589.kd hk572 hq573
  have hk610 := hx_S589.lt hk574
  have hq611 := hx_S589.kd hk574 hq575
  have hk612 := hx_S589.lt hk576
  have hq613 := hx_S589.kd hk576 hq577
  have hk614 := hx_S589.lt hk578
  have hq615 := hx_S589.kd hk578 hq579
  have hk616 := hx_S589.lt hk580
  have hq617 := hx_S589.kd hk580 hq581
  have hk618 := hx_S589.lt hk582
  have hq619 := hx_S589.kd hk582 hq583
  have hk620 := hx_S589.lt hk584
  have hq621 := hx_S589.kd hk584 hq585
  have hk622 := hx_S589.lt hk586
  have hq623 := hx_S589.kd hk586 hq587
  refine r_putF (ci := 9) (C := RX9) (T := TX9) (N := 36) hx hb hts hin9 tyX9 tyX9_ok nmX9 hown hK hG hk592 (cell_9 hq593) rfl 21 (by decide) lk_56 (fun _ h9 => h9) rfl hmn rfl rfl rfl (Nat.le_of_ble_eq_true rfl) (S' := sR S589 k0 21 (some (gN S555))) rfl (pu_9_21 hq593 (some (gN S555))) dX9_init_140 (fun H locs hG => ?_)
  obtain ⟨S624, eS_S624⟩ : ∃ z : GS, z = sR S589 k0 21 (some (gN S555)) := ⟨_, rfl⟩
  have h := h S624 eS_S624
  rw [← eS_S624] at hG
  have hs_S624 : gSh S624 S589 := by rw [eS_S624]; exact gSh.r _ _ _ _
  have hsh := (gExt.ofSh hs_S624).tr hsh
  have hk625 := hs_S624.lt hk592
  have hq626 := hs_S624.kd hq593
  have hk627 := hs_S624.lt hk594
  have hq628 := hs_S624.kd hq595
  have hk629 := hs_S624.lt hk596
  have hq630 := hs_S624.kd hq597
  have hk631 := hs_S624.lt hk598
  have hq632 := hs_S624.kd hq599
  have hk633 := hs_S624.lt hk600
  have hq634 := hs_S624.kd hq601
  have hk635 := hs_S624.lt hk602
  have hq636 := hs_S624.kd hq603
  have hk637 := hs_S624.lt hk604
  have hq638 := hs_S624.kd hq605
  have hk639 := hs_S624.lt hk606
  have hq640 := hs_S624.kd hq607
  have hk641 := hs_S624.lt hk608
  have hq642 := hs_S624.kd hq609
  have hk643 := hs_S624.lt hk610
  have hq644 := hs_S624.kd hq611
  have hk645 := hs_S624.lt hk612
  have hq646 := hs_S624.kd hq613
  have hk647 := hs_S624.lt hk614
  have hq648 := hs_S624.kd hq615
  have hk649 := hs_S624.lt hk616
  have hq650 := hs_S624.kd hq617
  have hk651 := hs_S624.lt hk618
  have hq652 := hs_S624.kd hq619
  have hk653 := hs_S624.lt hk620
  have hq654 := hs_S624.kd hq621
  have hk655 := hs_S624.lt hk622
  have hq656 := hs_S624.kd hq623
  have hk657 := hs_S624.lt hk590
  have hq658 := hs_S624.kd hq591
  refine lv_aload_n hx hb dX9_init_143 rfl (lv_at hl 0 rfl) ?_
  refine lv_bipush (v := 40) hx hb dX9_init_144 (by decide) ?_
  obtain ⟨hcd659, h⟩ := h
  refine r_newa (atype := .int) (ty := .int) (N' := 40) (n := 40) (a0 := (40, .inl (fun _ => 0))) hx hb (hts (.arrayClass .int) (by decide +kernel)) rfl hK hG hA hcd659 1 11 rfl (fun _ _ h => h) (fun _ => rfl) (fun _ => rfl) (by decide) (by decide) (by show 40 * 4 ≤ 536870912; omega) (by decide) (by decide) dX9_init_146 (fun ad H had hG => ?_)
  have hl : lv_has ls 1 [(0, .ref (ad k0))] := by rw [had k0 hk625]; exact hl
  refine W.eq (g2 := F0 m 148 ls [.ref (ad (gN S624)), .ref (ad k0)]) (by rw [had k0 hk625] <;> rfl) ?_
  refine W.widen (k := 17) (n := 6984) (by decide) (by decide) ?_
  obtain ⟨S660, eS_S660⟩ : ∃ z : GS, z = nwS S624 11 40 := ⟨_, rfl⟩
  have h := h S660 eS_S660
  rw [← eS_S660] at hG
  have hx_S660 : gExt S660 S624 := by rw [eS_S660]; exact gExt.nw _ _ _
  have had0 := fun k (hk : k < gN S0) => (had k (Nat.lt_of_lt_of_le hk hsh.1)).trans (had0 k hk)
  have hsh := hx_S660.tr hsh
  have hk661 : gN S624 < gN S660 := by rw [eS_S660]; exact Nat.lt_succ_self _
  have hq662 : gK S660 (gN S624) = 11 := by rw [eS_S660]; exact va_up_self _ _ _
  have hk663 := hx_S660.lt hk625
  have hq664 := hx_S660.kd hk625 hq626
  have hk665 := hx_S660.lt hk627
  have hq666 := hx_S660.kd hk627 hq628
  have hk667 := hx_S660.lt hk629
  have hq668 := hx_S660.kd hk629 hq630
  have hk669 := hx_S660.lt hk631
  have hq670 := hx_S660.kd hk631 hq632
  have hk671 := hx_S660.lt hk633
  have hq672 := hx_S660.kd hk633 hq634
  have hk673 := hx_S660.lt hk635
  have hq674 := hx_S660.kd hk635 hq636
  have hk675 := hx_S660.lt hk637
  have hq676 := hx_S660.kd hk637 hq638
  have hk677 := hx_S660.lt hk639
  have hq678 := hx_S660.kd hk639 hq640
  have hk679 := hx_S660.lt hk641
  have hq680 := hx_S660.kd hk641 hq642
  have hk681 := hx_S660.lt hk643
  have hq682 := hx_S660.kd hk643 hq644
  have hk683 := hx_S660.lt hk645
  have hq684 := hx_S660.kd hk645 hq646
  have hk685 := hx_S660.lt hk647
  have hq686 := hx_S660.kd hk647 hq648
  have hk687 := hx_S660.lt hk649
  have hq688 := hx_S660.kd hk649 hq650
  have hk689 := hx_S660.lt hk651
  have hq690 := hx_S660.kd hk651 hq652
  have hk691 := hx_S660.lt hk653
  have hq692 := hx_S660.kd hk653 hq654
  have hk693 := hx_S660.lt hk655
  have hq694 := hx_S660.kd hk655 hq656
  have hk695 := hx_S660.lt hk657
  have hq696 := hx_S660.kd hk657 hq658
  refine r_putF (ci := 9) (C := RX9) (T := TX9) (N := 36) hx hb hts hin9 tyX9 tyX9_ok nmX9 hown hK hG hk663 (cell_9 hq664) rfl 22 (by decide) lk_59 (fun _ h9 => h9) rfl hmn rfl rfl rfl (Nat.le_of_ble_eq_true rfl) (S' := sR S660 k0 22 (some (gN S624))) rfl (pu_9_22 hq664 (some (gN S624))) dX9_init_148 (fun H locs hG => ?_)
  obtain ⟨S697, eS_S697⟩ : ∃ z : GS, z = sR S660 k0 22 (some (gN S624)) := ⟨_, rfl⟩
  have h := h S697 eS_S697
  rw [← eS_S697] at hG
  have hs_S697 : gSh S697 S660 := by rw [eS_S697]; exact gSh.r _ _ _ _
  have hsh := (gExt.ofSh hs_S697).tr hsh
  have hk698 := hs_S697.lt hk663
  have hq699 := hs_S697.kd hq664
  have hk700 := hs_S697.lt hk665
  have hq701 := hs_S697.kd hq666
  have hk702 := hs_S697.lt hk667
  have hq703 := hs_S697.kd hq668
  have hk704 := hs_S697.lt hk669
  have hq705 := hs_S697.kd hq670
  have hk706 := hs_S697.lt hk671
  have hq707 := hs_S697.kd hq672
  have hk708 := hs_S697.lt hk673
  have hq709 := hs_S697.kd hq674
  have hk710 := hs_S697.lt hk675
  have hq711 := hs_S697.kd hq676
  have hk712 := hs_S697.lt hk677
  have hq713 := hs_S697.kd hq678
  have hk714 := hs_S697.lt hk679
  have hq715 := hs_S697.kd hq680
  have hk716 := hs_S697.lt hk681
  have hq717 := hs_S697.kd hq682
  have hk718 := hs_S697.lt hk683
  have hq719 := hs_S697.kd hq684
  have hk720 := hs_S697.lt hk685
  have hq721 := hs_S697.kd hq686
  have hk722 := hs_S697.lt hk687
  have hq723 := hs_S697.kd hq688
  have hk724 := hs_S697.lt hk689
  have hq725 := hs_S697.kd hq690
  have hk726 := hs_S697.lt hk691
  have hq727 := hs_S697.kd hq692
  have hk728 := hs_S697.lt hk693
  have hq729 := hs_S697.kd hq694
  have hk730 := hs_S697.lt hk695
  have hq731 := hs_S697.kd hq696
  have hk732 := hs_S697.lt hk661
  have hq733 := hs_S697.kd hq662
  refine lv_aload_n hx hb dX9_init_151 rfl (lv_at hl 0 rfl) ?_
  refine lv_bipush (v := 40) hx hb dX9_init_152 (by decide) ?_
  obtain ⟨hcd734, h⟩ := h
  refine r_newa (atype := .int) (ty := .int) (N' := 40) (n := 40) (a0 := (40, .inl (fun _ => 0))) hx hb (hts (.arrayClass .int) (by decide +kernel)) rfl hK hG hA hcd734 1 11 rfl (fun _ _ h => h) (fun _ => rfl) (fun _ => rfl) (by decide) (by decide) (by show 40 * 4 ≤ 536870912; omega) (by decide) (by decide) dX9_init_154 (fun ad H had hG => ?_)
  have hl : lv_has ls 1 [(0, .ref (ad k0))] := by rw [had k0 hk698]; exact hl
  refine W.eq (g2 := F0 m 156 ls [.ref (ad (gN S697)), .ref (ad k0)]) (by rw [had k0 hk698] <;> rfl) ?_
  refine W.widen (k := 18) (n := 7024) (by decide) (by decide) ?_
  obtain ⟨S735, eS_S735⟩ : ∃ z : GS, z = nwS S697 11 40 := ⟨_, rfl⟩
  have h := h S735 eS_S735
  rw [← eS_S735] at hG
  have hx_S735 : gExt S735 S697 := by rw [eS_S735]; exact gExt.nw _ _ _
  have had0 := fun k (hk : k < gN S0) => (had k (Nat.lt_of_lt_of_le hk hsh.1)).trans (had0 k hk)
  have hsh := hx_S735.tr hsh
  have hk736 : gN S697 < gN S735 := by rw [eS_S735]; exact Nat.lt_succ_self _
  have hq737 : gK S735 (gN S697) = 11 := by rw [eS_S735]; exact va_up_self _ _ _
  have hk738 := hx_S735.lt hk698
  have hq739 := hx_S735.kd hk698 hq699
  have hk740 := hx_S735.lt hk700
  have hq741 := hx_S735.kd hk700 hq701
  have hk742 := hx_S735.lt hk702
  have hq743 := hx_S735.kd hk702 hq703
  have hk744 := hx_S735.lt hk704
  have hq745 := hx_S735.kd hk704 hq705
  have hk746 := hx_S735.lt hk706
  have hq747 := hx_S735.kd hk706 hq707
  have hk748 := hx_S735.lt hk708
  have hq749 := hx_S735.kd hk708 hq709
  have hk750 := hx_S735.lt hk710
  have hq751 := hx_S735.kd hk710 hq711
  have hk752 := hx_S735.lt hk712
  have hq753 := hx_S735.kd hk712 hq713
  have hk754 := hx_S735.lt hk714
  have hq755 := hx_S735.kd hk714 hq715
  have hk756 := hx_S735.lt hk716
  have hq757 := hx_S735.kd hk716 hq717
  have hk758 := hx_S735.lt hk718
  have hq759 := hx_S735.kd hk718 hq719
  have hk760 := hx_S735.lt hk720
  have hq761 := hx_S735.kd hk720 hq721
  have hk762 := hx_S735.lt hk722
  have hq763 := hx_S735.kd hk722 hq723
  have hk764 := hx_S735.lt hk724
  have hq765 := hx_S735.kd hk724 hq725
  have hk766 := hx_S735.lt hk726
  have hq767 := hx_S735.kd hk726 hq727
  have hk768 := hx_S735.lt hk728
  have hq769 := hx_S735.kd hk728 hq729
  have hk770 := hx_S735.lt hk730
  have hq771 := hx_S735.kd hk730 hq731
  have hk772 := hx_S735.lt hk732
  have hq773 := hx_S735.kd hk732 hq733
  refine r_putF (ci := 9) (C := RX9) (T := TX9) (N := 36) hx hb hts hin9 tyX9 tyX9_ok nmX9 hown hK hG hk738 (cell_9 hq739) rfl 23 (by decide) lk_62 (fun _ h9 => h9) rfl hmn rfl rfl rfl (Nat.le_of_ble_eq_true rfl) (S' := sR S735 k0 23 (some (gN S697))) rfl (pu_9_23 hq739 (some (gN S697))) dX9_init_156 (fun H locs hG => ?_)
  obtain ⟨S774, eS_S774⟩ : ∃ z : GS, z = sR S735 k0 23 (some (gN S697)) := ⟨_, rfl⟩
  have h := h S774 eS_S774
  rw [← eS_S774] at hG
  have hs_S774 : gSh S774 S735 := by rw [eS_S774]; exact gSh.r _ _ _ _
  have hsh := (gExt.ofSh hs_S774).tr hsh
  have hk775 := hs_S774.lt hk738
  have hq776 := hs_S774.kd hq739
  have hk777 := hs_S774.lt hk740
  have hq778 := hs_S774.kd hq741
  have hk779 := hs_S774.lt hk742
  have hq780 := hs_S774.kd hq743
  have hk781 := hs_S774.lt hk744
  have hq782 := hs_S774.kd hq745
  have hk783 := hs_S774.lt hk746
  have hq784 := hs_S774.kd hq747
  have hk785 := hs_S774.lt hk748
  have hq786 := hs_S774.kd hq749
  have hk787 := hs_S774.lt hk750
  have hq788 := hs_S774.kd hq751
  have hk789 := hs_S774.lt hk752
  have hq790 := hs_S774.kd hq753
  have hk791 := hs_S774.lt hk754
  have hq792 := hs_S774.kd hq755
  have hk793 := hs_S774.lt hk756
  have hq794 := hs_S774.kd hq757
  have hk795 := hs_S774.lt hk758
  have hq796 := hs_S774.kd hq759
  have hk797 := hs_S774.lt hk760
  have hq798 := hs_S774.kd hq761
  have hk799 := hs_S774.lt hk762
  have hq800 := hs_S774.kd hq763
  have hk801 := hs_S774.lt hk764
  have hq802 := hs_S774.kd hq765
  have hk803 := hs_S774.lt hk766
  have hq804 := hs_S774.kd hq767
  have hk805 := hs_S774.lt hk768
  have hq806 := hs_S774.kd hq769
  have hk807 := hs_S774.lt hk770
  have hq808 := hs_S774.kd hq771
  have hk809 := hs_S774.lt hk772
  have hq810 := hs_S774.kd hq773
  have hk811 := hs_S774.lt hk736
  have hq812 := hs_S774.kd hq737
  refine lv_aload_n hx hb dX9_init_159 rfl (lv_at hl 0 rfl) ?_
  refine lv_bipush (v := 40) hx hb dX9_init_160 (by decide) ?_
  obtain ⟨hcd813, h⟩ := h
  refine r_newa (atype := .int) (ty := .int) (N' := 40) (n := 40) (a0 := (40, .inl (fun _ => 0))) hx hb (hts (.arrayClass .int) (by decide +kernel)) rfl hK hG hA hcd813 1 11 rfl (fun _ _ h => h) (fun _ => rfl) (fun _ => rfl) (by decide) (by decide) (by show 40 * 4 ≤ 536870912; omega) (by decide) (by decide) dX9_init_162 (fun ad H had hG => ?_)
  have hl : lv_has ls 1 [(0, .ref (ad k0))] := by rw [had k0 hk775]; exact hl
  refine W.eq (g2 := F0 m 164 ls [.ref (ad (gN S774)), .ref (ad k0)]) (by rw [had k0 hk775] <;> rfl) ?_
  refine W.widen (k := 19) (n := 7064) (by decide) (by decide) ?_
  obtain ⟨S814, eS_S814⟩ : ∃ z : GS, z = nwS S774 11 40 := ⟨_, rfl⟩
  have h := h S814 eS_S814
  rw [← eS_S814] at hG
  have hx_S814 : gExt S814 S774 := by rw [eS_S814]; exact gExt.nw _ _ _
  have had0 := fun k (hk : k < gN S0) => (had k (Nat.lt_of_lt_of_le hk hsh.1)).trans (had0 k hk)
  have hsh := hx_S814.tr hsh
  have hk815 : gN S774 < gN S814 := by rw [eS_S814]; exact Nat.lt_succ_self _
  have hq816 : gK S814 (gN S774) = 11 := by rw [eS_S814]; exact va_up_self _ _ _
  have hk817 := hx_S814.lt hk775
  have hq818 := hx_S814.kd hk775 hq776
  have hk819 := hx_S814.lt hk777
  have hq820 := hx_S814.kd hk777 hq778
  have hk821 := hx_S814.lt hk779
  have hq822 := hx_S814.kd hk779 hq780
  have hk823 := hx_S814.lt hk781
  have hq824 := hx_S814.kd hk781 hq782
  have hk825 := hx_S814.lt hk783
  have hq826 := hx_S814.kd hk783 hq784
  have hk827 := hx_S814.lt hk785
  have hq828 := hx_S814.kd hk785 hq786
  have hk829 := hx_S814.lt hk787
  have hq830 := hx_S814.kd hk787 hq788
  have hk831 := hx_S814.lt hk789
  have hq832 := hx_S814.kd hk789 hq790
  have hk833 := hx_S814.lt hk791
  have hq834 := hx_S814.kd hk791 hq792
  have hk835 := hx_S814.lt hk793
  have hq836 := hx_S814.kd hk793 hq794
  have hk837 := hx_S814.lt hk795
  have hq838 := hx_S814.kd hk795 hq796
  have hk839 := hx_S814.lt hk797
  have hq840 := hx_S814.kd hk797 hq798
  have hk841 := hx_S814.lt hk799
  have hq842 := hx_S814.kd hk799 hq800
  have hk843 := hx_S814.lt hk801
  have hq844 := hx_S814.kd hk801 hq802
  have hk845 := hx_S814.lt hk803
  have hq846 := hx_S814.kd hk803 hq804
  have hk847 := hx_S814.lt hk805
  have hq848 := hx_S814.kd hk805 hq806
  have hk849 := hx_S814.lt hk807
  have hq850 := hx_S814.kd hk807 hq808
  have hk851 := hx_S814.lt hk809
  have hq852 := hx_S814.kd hk809 hq810
  have hk853 := hx_S814.lt hk811
  have hq854 := hx_S814.kd hk811 hq812
  refine r_putF (ci := 9) (C := RX9) (T := TX9) (N := 36) hx hb hts hin9 tyX9 tyX9_ok nmX9 hown hK hG hk817 (cell_9 hq818) rfl 24 (by decide) lk_65 (fun _ h9 => h9) rfl hmn rfl rfl rfl (Nat.le_of_ble_eq_true rfl) (S' := sR S814 k0 24 (some (gN S774))) rfl (pu_9_24 hq818 (some (gN S774))) dX9_init_164 (fun H locs hG => ?_)
  obtain ⟨S855, eS_S855⟩ : ∃ z : GS, z = sR S814 k0 24 (some (gN S774)) := ⟨_, rfl⟩
  have h := h S855 eS_S855
  rw [← eS_S855] at hG
  have hs_S855 : gSh S855 S814 := by rw [eS_S855]; exact gSh.r _ _ _ _
  have hsh := (gExt.ofSh hs_S855).tr hsh
  have hk856 := hs_S855.lt hk817
  have hq857 := hs_S855.kd hq818
  have hk858 := hs_S855.lt hk819
  have hq859 := hs_S855.kd hq820
  have hk860 := hs_S855.lt hk821
  have hq861 := hs_S855.kd hq822
  have hk862 := hs_S855.lt hk823
  have hq863 := hs_S855.kd hq824
  have hk864 := hs_S855.lt hk825
  have hq865 := hs_S855.kd hq826
  have hk866 := hs_S855.lt hk827
  have hq867 := hs_S855.kd hq828
  have hk868 := hs_S855.lt hk829
  have hq869 := hs_S855.kd hq830
  have hk870 := hs_S855.lt hk831
  have hq871 := hs_S855.kd hq832
  have hk872 := hs_S855.lt hk833
  have hq873 := hs_S855.kd hq834
  have hk874 := hs_S855.lt hk835
  have hq875 := hs_S855.kd hq836
  have hk876 := hs_S855.lt hk837
  have hq877 := hs_S855.kd hq838
  have hk878 := hs_S855.lt hk839
  have hq879 := hs_S855.kd hq840
  have hk880 := hs_S855.lt hk841
  have hq881 := hs_S855.kd hq842
  have hk882 := hs_S855.lt hk843
  have hq883 := hs_S855.kd hq844
  have hk884 := hs_S855.lt hk845
  have hq885 := hs_S855.kd hq846
  have hk886 := hs_S855.lt hk847
  have hq887 := hs_S855.kd hq848
  have hk888 := hs_S855.lt hk849
  have hq889 := hs_S855.kd hq850
  have hk890 := hs_S855.lt hk851
  have hq891 := hs_S855.kd hq852
  have hk892 := hs_S855.lt hk853
  have hq893 := hs_S855.kd hq854
  have hk894 := hs_S855.lt hk815
  have hq895 := hs_S855.kd hq816
  refine lv_aload_n hx hb dX9_init_167 rfl (lv_at hl 0 rfl) ?_
  refine lv_sipush (v := 512) hx hb dX9_init_168 (by decide) ?_
  obtain ⟨hcd896, h⟩ := h
  refine r_newa (atype := .int) (ty := .int) (N' := 512) (n := 512) (a0 := (512, .inl (fun _ => 0))) hx hb (hts (.arrayClass .int) (by decide +kernel)) rfl hK hG hA hcd896 1 11 rfl (fun _ _ h => h) (fun _ => rfl) (fun _ => rfl) (by decide) (by decide) (by show 512 * 4 ≤ 536870912; omega) (by decide) (by decide) dX9_init_171 (fun ad H had hG => ?_)
  have hl : lv_has ls 1 [(0, .ref (ad k0))] := by rw [had k0 hk856]; exact hl
  refine W.eq (g2 := F0 m 173 ls [.ref (ad (gN S855)), .ref (ad k0)]) (by rw [had k0 hk856] <;> rfl) ?_
  refine W.widen (k := 20) (n := 7576) (by decide) (by decide) ?_
  obtain ⟨S897, eS_S897⟩ : ∃ z : GS, z = nwS S855 11 512 := ⟨_, rfl⟩
  have h := h S897 eS_S897
  rw [← eS_S897] at hG
  have hx_S897 : gExt S897 S855 := by rw [eS_S897]; exact gExt.nw _ _ _
  have had0 := fun k (hk : k < gN S0) => (had k (Nat.lt_of_lt_of_le hk hsh.1)).trans (had0 k hk)
  have hsh := hx_S897.tr hsh
  have hk898 : gN S855 < gN S897 := by rw [eS_S897]; exact Nat.lt_succ_self _
  have hq899 : gK S897 (gN S855) = 11 := by rw [eS_S897]; exact va_up_self _ _ _
  have hk900 := hx_S897.lt hk856
  have hq901 := hx_S897.kd hk856 hq857
  have hk902 := hx_S897.lt hk858
  have hq903 := hx_S897.kd hk858 hq859
  have hk904 := hx_S897.lt hk860
  have hq905 := hx_S897.kd hk860 hq861
  have hk906 := hx_S897.lt hk862
  have hq907 := hx_S897.kd hk862 hq863
  have hk908 := hx_S897.lt hk864
  have hq909 := hx_S897.kd hk864 hq865
  have hk910 := hx_S897.lt hk866
  have hq911 := hx_S897.kd hk866 hq867
  have hk912 := hx_S897.lt hk868
  have hq913 := hx_S897.kd hk868 hq869
  have hk914 := hx_S897.lt hk870
  have hq915 := hx_S897.kd hk870 hq871
  have hk916 := hx_S897.lt hk872
  have hq917 := hx_S897.kd hk872 hq873
  have hk918 := hx_S897.lt hk874
  have hq919 := hx_S897.kd hk874 hq875
  have hk920 := hx_S897.lt hk876
  have hq921 := hx_S897.kd hk876 hq877
  have hk922 := hx_S897.lt hk878
  have hq923 := hx_S897.kd hk878 hq879
  have hk924 := hx_S897.lt hk880
  have hq925 := hx_S897.kd hk880 hq881
  have hk926 := hx_S897.lt hk882
  have hq927 := hx_S897.kd hk882 hq883
  have hk928 := hx_S897.lt hk884
  have hq929 := hx_S897.kd hk884 hq885
  have hk930 := hx_S897.lt hk886
  have hq931 := hx_S897.kd hk886 hq887
  have hk932 := hx_S897.lt hk888
  have hq933 := hx_S897.kd hk888 hq889
  have hk934 := hx_S897.lt hk890
  have hq935 := hx_S897.kd hk890 hq891
  have hk936 := hx_S897.lt hk892
  have hq937 := hx_S897.kd hk892 hq893
  have hk938 := hx_S897.lt hk894
  have hq939 := hx_S897.kd hk894 hq895
  refine r_putF (ci := 9) (C := RX9) (T := TX9) (N := 36) hx hb hts hin9 tyX9 tyX9_ok nmX9 hown hK hG hk900 (cell_9 hq901) rfl 26 (by decide) lk_68 (fun _ h9 => h9) rfl hmn rfl rfl rfl (Nat.le_of_ble_eq_true rfl) (S' := sR S897 k0 26 (some (gN S855))) rfl (pu_9_26 hq901 (some (gN S855))) dX9_init_173 (fun H locs hG => ?_)
  obtain ⟨S940, eS_S940⟩ : ∃ z : GS, z = sR S897 k0 26 (some (gN S855)) := ⟨_, rfl⟩
  have h := h S940 eS_S940
  rw [← eS_S940] at hG
  have hs_S940 : gSh S940 S897 := by rw [eS_S940]; exact gSh.r _ _ _ _
  have hsh := (gExt.ofSh hs_S940).tr hsh
  have hk941 := hs_S940.lt hk900
  have hq942 := hs_S940.kd hq901
  have hk943 := hs_S940.lt hk902
  have hq944 := hs_S940.kd hq903
  have hk945 := hs_S940.lt hk904
  have hq946 := hs_S940.kd hq905
  have hk947 := hs_S940.lt hk906
  have hq948 := hs_S940.kd hq907
  have hk949 := hs_S940.lt hk908
  have hq950 := hs_S940.kd hq909
  have hk951 := hs_S940.lt hk910
  have hq952 := hs_S940.kd hq911
  have hk953 := hs_S940.lt hk912
  have hq954 := hs_S940.kd hq913
  have hk955 := hs_S940.lt hk914
  have hq956 := hs_S940.kd hq915
  have hk957 := hs_S940.lt hk916
  have hq958 := hs_S940.kd hq917
  have hk959 := hs_S940.lt hk918
  have hq960 := hs_S940.kd hq919
  have hk961 := hs_S940.lt hk920
  have hq962 := hs_S940.kd hq921
  have hk963 := hs_S940.lt hk922
  have hq964 := hs_S940.kd hq923
  have hk965 := hs_S940.lt hk924
  have hq966 := hs_S940.kd hq925
  have hk967 := hs_S940.lt hk926
  have hq968 := hs_S940.kd hq927
  have hk969 := hs_S940.lt hk928
  have hq970 := hs_S940.kd hq929
  have hk971 := hs_S940.lt hk930
  have hq972 := hs_S940.kd hq931
  have hk973 := hs_S940.lt hk932
  have hq974 := hs_S940.kd hq933
  have hk975 := hs_S940.lt hk934
  have hq976 := hs_S940.kd hq935
  have hk977 := hs_S940.lt hk936
  have hq978 := hs_S940.kd hq937
  have hk979 := hs_S940.lt hk938
  have hq980 := hs_S940.kd hq939
  have hk981 := hs_S940.lt hk898
  have hq982 := hs_S940.kd hq899
  refine lv_aload_n hx hb dX9_init_176 rfl (lv_at hl 0 rfl) ?_
  refine lv_sipush (v := 512) hx hb dX9_init_177 (by decide) ?_
  obtain ⟨hcd983, h⟩ := h
  refine r_newa (atype := .int) (ty := .int) (N' := 512) (n := 512) (a0 := (512, .inl (fun _ => 0))) hx hb (hts (.arrayClass .int) (by decide +kernel)) rfl hK hG hA hcd983 1 11 rfl (fun _ _ h => h) (fun _ => rfl) (fun _ => rfl) (by decide) (by decide) (by show 512 * 4 ≤ 536870912; omega) (by decide) (by decide) dX9_init_180 (fun ad H had hG => ?_)
  have hl : lv_has ls 1 [(0, .ref (ad k0))] := by rw [had k0 hk941]; exact hl
  refine W.eq (g2 := F0 m 182 ls [.ref (ad (gN S940)), .ref (ad k0)]) (by rw [had k0 hk941] <;> rfl) ?_
  refine W.widen (k := 21) (n := 8088) (by decide) (by decide) ?_
  obtain ⟨S984, eS_S984⟩ : ∃ z : GS, z = nwS S940 11 512 := ⟨_, rfl⟩
  have h := h S984 eS_S984
  rw [← eS_S984] at hG
  have hx_S984 : gExt S984 S940 := by rw [eS_S984]; exact gExt.nw _ _ _
  have had0 := fun k (hk : k < gN S0) => (had k (Nat.lt_of_lt_of_le hk hsh.1)).trans (had0 k hk)
  have hsh := hx_S984.tr hsh
  have hk985 : gN S940 < gN S984 := by rw [eS_S984]; exact Nat.lt_succ_self _
  have hq986 : gK S984 (gN S940) = 11 := by rw [eS_S984]; exact va_up_self _ _ _
  have hk987 := hx_S984.lt hk941
  have hq988 := hx_S984.kd hk941 hq942
  have hk989 := hx_S984.lt hk943
  have hq990 := hx_S984.kd hk943 hq944
  have hk991 := hx_S984.lt hk945
  have hq992 := hx_S984.kd hk945 hq946
  have hk993 := hx_S984.lt hk947
  have hq994 := hx_S984.kd hk947 hq948
  have hk995 := hx_S984.lt hk949
  have hq996 := hx_S984.kd hk949 hq950
  have hk997 := hx_S984.lt hk951
  have hq998 := hx_S984.kd hk951 hq952
  have hk999 := hx_S984.lt hk953
  have hq1000 := hx_S984.kd hk953 hq954
  have hk1001 := hx_S984.lt hk955
  have hq1002 := hx_S984.kd hk955 hq956
  have hk1003 := hx_S984.lt hk957
  have hq1004 := hx_S984.kd hk957 hq958
  have hk1005 := hx_S984.lt hk959
  have hq1006 := hx_S984.kd hk959 hq960
  have hk1007 := hx_S984.lt hk961
  have hq1008 := hx_S984.kd hk961 hq962
  have hk1009 := hx_S984.lt hk963
  have hq1010 := hx_S984.kd hk963 hq964
  have hk1011 := hx_S984.lt hk965
  have hq1012 := hx_S984.kd hk965 hq966
  have hk1013 := hx_S984.lt hk967
  have hq1014 := hx_S984.kd hk967 hq968
  have hk1015 := hx_S984.lt hk969
  have hq1016 := hx_S984.kd hk969 hq970
  have hk1017 := hx_S984.lt hk971
  have hq1018 := hx_S984.kd hk971 hq972
  have hk1019 := hx_S984.lt hk973
  have hq1020 := hx_S984.kd hk973 hq974
  have hk1021 := hx_S984.lt hk975
  have hq1022 := hx_S984.kd hk975 hq976
  have hk1023 := hx_S984.lt hk977
  have hq1024 := hx_S984.kd hk977 hq978
  have hk1025 := hx_S984.lt hk979
  have hq1026 := hx_S984.kd hk979 hq980
  have hk1027 := hx_S984.lt hk981
  have hq1028 := hx_S984.kd hk981 hq982
  refine r_putF (ci := 9) (C := RX9) (T := TX9) (N := 36) hx hb hts hin9 tyX9 tyX9_ok nmX9 hown hK hG hk987 (cell_9 hq988) rfl 27 (by decide) lk_71 (fun _ h9 => h9) rfl hmn rfl rfl rfl (Nat.le_of_ble_eq_true rfl) (S' := sR S984 k0 27 (some (gN S940))) rfl (pu_9_27 hq988 (some (gN S940))) dX9_init_182 (fun H locs hG => ?_)
  obtain ⟨S1029, eS_S1029⟩ : ∃ z : GS, z = sR S984 k0 27 (some (gN S940)) := ⟨_, rfl⟩
  have h := h S1029 eS_S1029
  rw [← eS_S1029] at hG
  have hs_S1029 : gSh S1029 S984 := by rw [eS_S1029]; exact gSh.r _ _ _ _
  have hsh := (gExt.ofSh hs_S1029).tr hsh
  have hk1030 := hs_S1029.lt hk987
  have hq1031 := hs_S1029.kd hq988
  have hk1032 := hs_S1029.lt hk989
  have hq1033 := hs_S1029.kd hq990
  have hk1034 := hs_S1029.lt hk991
  have hq1035 := hs_S1029.kd hq992
  have hk1036 := hs_S1029.lt hk993
  have hq1037 := hs_S1029.kd hq994
  have hk1038 := hs_S1029.lt hk995
  have hq1039 := hs_S1029.kd hq996
  have hk1040 := hs_S1029.lt hk997
  have hq1041 := hs_S1029.kd hq998
  have hk1042 := hs_S1029.lt hk999
  have hq1043 := hs_S1029.kd hq1000
  have hk1044 := hs_S1029.lt hk1001
  have hq1045 := hs_S1029.kd hq1002
  have hk1046 := hs_S1029.lt hk1003
  have hq1047 := hs_S1029.kd hq1004
  have hk1048 := hs_S1029.lt hk1005
  have hq1049 := hs_S1029.kd hq1006
  have hk1050 := hs_S1029.lt hk1007
  have hq1051 := hs_S1029.kd hq1008
  have hk1052 := hs_S1029.lt hk1009
  have hq1053 := hs_S1029.kd hq1010
  have hk1054 := hs_S1029.lt hk1011
  have hq1055 := hs_S1029.kd hq1012
  have hk1056 := hs_S1029.lt hk1013
  have hq1057 := hs_S1029.kd hq1014
  have hk1058 := hs_S1029.lt hk1015
  have hq1059 := hs_S1029.kd hq1016
  have hk1060 := hs_S1029.lt hk1017
  have hq1061 := hs_S1029.kd hq1018
  have hk1062 := hs_S1029.lt hk1019
  have hq1063 := hs_S1029.kd hq1020
  have hk1064 := hs_S1029.lt hk1021
  have hq1065 := hs_S1029.kd hq1022
  have hk1066 := hs_S1029.lt hk1023
  have hq1067 := hs_S1029.kd hq1024
  have hk1068 := hs_S1029.lt hk1025
  have hq1069 := hs_S1029.kd hq1026
  have hk1070 := hs_S1029.lt hk1027
  have hq1071 := hs_S1029.kd hq1028
  have hk1072 := hs_S1029.lt hk985
  have hq1073 := hs_S1029.kd hq986
  refine lv_aload_n hx hb dX9_init_185 rfl (lv_at hl 0 rfl) ?_
  refine lv_sipush (v := 512) hx hb dX9_init_186 (by decide) ?_
  obtain ⟨hcd1074, h⟩ := h
  refine r_newa (atype := .int) (ty := .int) (N' := 512) (n := 512) (a0 := (512, .inl (fun _ => 0))) hx hb (hts (.arrayClass .int) (by decide +kernel)) rfl hK hG hA hcd1074 1 11 rfl (fun _ _ h => h) (fun _ => rfl) (fun _ => rfl) (by decide) (by decide) (by show 512 * 4 ≤ 536870912; omega) (by decide) (by decide) dX9_init_189 (fun ad H had hG => ?_)
  have hl : lv_has ls 1 [(0, .ref (ad k0))] := by rw [had k0 hk1030]; exact hl
  refine W.eq (g2 := F0 m 191 ls [.ref (ad (gN S1029)), .ref (ad k0)]) (by rw [had k0 hk1030] <;> rfl) ?_
  refine W.widen (k := 22) (n := 8600) (by decide) (by decide) ?_
  obtain ⟨S1075, eS_S1075⟩ : ∃ z : GS, z = nwS S1029 11 512 := ⟨_, rfl⟩
  have h := h S1075 eS_S1075
  rw [← eS_S1075] at hG
  have hx_S1075 : gExt S1075 S1029 := by rw [eS_S1075]; exact gExt.nw _ _ _
  have had0 := fun k (hk : k < gN S0) => (had k (Nat.lt_of_lt_of_le hk hsh.1)).trans (had0 k hk)
  have hsh := hx_S1075.tr hsh
  have hk1076 : gN S1029 < gN S1075 := by rw [eS_S1075]; exact Nat.lt_succ_self _
  have hq1077 : gK S1075 (gN S1029) = 11 := by rw [eS_S1075]; exact va_up_self _ _ _
  have hk1078 := hx_S1075.lt hk1030
  have hq1079 := hx_S1075.kd hk1030 hq1031
  have hk1080 := hx_S1075.lt hk1032
  have hq1081 := hx_S1075.kd hk1032 hq1033
  have hk1082 := hx_S1075.lt hk1034
  have hq1083 := hx_S1075.kd hk1034 hq1035
  have hk1084 := hx_S1075.lt hk1036
  have hq1085 := hx_S1075.kd hk1036 hq1037
  have hk1086 := hx_S1075.lt hk1038
  have hq1087 := hx_S1075.kd hk1038 hq1039
  have hk1088 := hx_S1075.lt hk1040
  have hq1089 := hx_S1075.kd hk1040 hq1041
  have hk1090 := hx_S1075.lt hk1042
  have hq1091 := hx_S1075.kd hk1042 hq1043
  have hk1092 := hx_S1075.lt hk1044
  have hq1093 := hx_S1075.kd hk1044 hq1045
  have hk1094 := hx_S1075.lt hk1046
  have hq1095 := hx_S1075.kd hk1046 hq1047
  have hk1096 := hx_S1075.lt hk1048
  have hq1097 := hx_S1075.kd hk1048 hq1049
  have hk1098 := hx_S1075.lt hk1050
  have hq1099 := hx_S1075.kd hk1050 hq1051
  have hk1100 := hx_S1075.lt hk1052
  have hq1101 := hx_S1075.kd hk1052 hq1053
  have hk1102 := hx_S1075.lt hk1054
  have hq1103 := hx_S1075.kd hk1054 hq1055
  have hk1104 := hx_S1075.lt hk1056
  have hq1105 := hx_S1075.kd hk1056 hq1057
  have hk1106 := hx_S1075.lt hk1058
  have hq1107 := hx_S1075.kd hk1058 hq1059
  have hk1108 := hx_S1075.lt hk1060
  have hq1109 := hx_S1075.kd hk1060 hq1061
  have hk1110 := hx_S1075.lt hk1062
  have hq1111 := hx_S1075.kd hk1062 hq1063
  have hk1112 := hx_S1075.lt hk1064
  have hq1113 := hx_S1075.kd hk1064 hq1065
  have hk1114 := hx_S1075.lt hk1066
  have hq1115 := hx_S1075.kd hk1066 hq1067
  have hk1116 := hx_S1075.lt hk1068
  have hq1117 := hx_S1075.kd hk1068 hq1069
  have hk1118 := hx_S1075.lt hk1070
  have hq1119 := hx_S1075.kd hk1070 hq1071
  have hk1120 := hx_S1075.lt hk1072
  have hq1121 := hx_S1075.kd hk1072 hq1073
  refine r_putF (ci := 9) (C := RX9) (T := TX9) (N := 36) hx hb hts hin9 tyX9 tyX9_ok nmX9 hown hK hG hk1078 (cell_9 hq1079) rfl 28 (by decide) lk_74 (fun _ h9 => h9) rfl hmn rfl rfl rfl (Nat.le_of_ble_eq_true rfl) (S' := sR S1075 k0 28 (some (gN S1029))) rfl (pu_9_28 hq1079 (some (gN S1029))) dX9_init_191 (fun H locs hG => ?_)
  obtain ⟨S1122, eS_S1122⟩ : ∃ z : GS, z = sR S1075 k0 28 (some (gN S1029)) := ⟨_, rfl⟩
  have h := h S1122 eS_S1122
  rw [← eS_S1122] at hG
  have hs_S1122 : gSh S1122 S1075 := by rw [eS_S1122]; exact gSh.r _ _ _ _
  have hsh := (gExt.ofSh hs_S1122).tr hsh
  have hk1123 := hs_S1122.lt hk1078
  have hq1124 := hs_S1122.kd hq1079
  have hk1125 := hs_S1122.lt hk1080
  have hq1126 := hs_S1122.kd hq1081
  have hk1127 := hs_S1122.lt hk1082
  have hq1128 := hs_S1122.kd hq1083
  have hk1129 := hs_S1122.lt hk1084
  have hq1130 := hs_S1122.kd hq1085
  have hk1131 := hs_S1122.lt hk1086
  have hq1132 := hs_S1122.kd hq1087
  have hk1133 := hs_S1122.lt hk1088
  have hq1134 := hs_S1122.kd hq1089
  have hk1135 := hs_S1122.lt hk1090
  have hq1136 := hs_S1122.kd hq1091
  have hk1137 := hs_S1122.lt hk1092
  have hq1138 := hs_S1122.kd hq1093
  have hk1139 := hs_S1122.lt hk1094
  have hq1140 := hs_S1122.kd hq1095
  have hk1141 := hs_S1122.lt hk1096
  have hq1142 := hs_S1122.kd hq1097
  have hk1143 := hs_S1122.lt hk1098
  have hq1144 := hs_S1122.kd hq1099
  have hk1145 := hs_S1122.lt hk1100
  have hq1146 := hs_S1122.kd hq1101
  have hk1147 := hs_S1122.lt hk1102
  have hq1148 := hs_S1122.kd hq1103
  have hk1149 := hs_S1122.lt hk1104
  have hq1150 := hs_S1122.kd hq1105
  have hk1151 := hs_S1122.lt hk1106
  have hq1152 := hs_S1122.kd hq1107
  have hk1153 := hs_S1122.lt hk1108
  have hq1154 := hs_S1122.kd hq1109
  have hk1155 := hs_S1122.lt hk1110
  have hq1156 := hs_S1122.kd hq1111
  have hk1157 := hs_S1122.lt hk1112
  have hq1158 := hs_S1122.kd hq1113
  have hk1159 := hs_S1122.lt hk1114
  have hq1160 := hs_S1122.kd hq1115
  have hk1161 := hs_S1122.lt hk1116
  have hq1162 := hs_S1122.kd hq1117
  have hk1163 := hs_S1122.lt hk1118
  have hq1164 := hs_S1122.kd hq1119
  have hk1165 := hs_S1122.lt hk1120
  have hq1166 := hs_S1122.kd hq1121
  have hk1167 := hs_S1122.lt hk1076
  have hq1168 := hs_S1122.kd hq1077
  refine lv_aload_n hx hb dX9_init_194 rfl (lv_at hl 0 rfl) ?_
  refine lv_iconst (v := (-1)) hx hb dX9_init_195 (by decide) ?_
  refine r_put (ci := 9) (C := RX9) (T := TX9) (N := 36) hx hb hts hin9 tyX9 tyX9_ok nmX9 hown hK hG hk1123 (cell_9 hq1124) rfl 30 (by decide) lk_77 (fun _ h9 => h9) rfl rfl rfl (Nat.le_of_ble_eq_true rfl) (S' := sX S1122 k0 30 (-1)) rfl (pu_9_30 hq1124 (-1)) dX9_init_196 (fun H locs hG => ?_)
  obtain ⟨S1169, eS_S1169⟩ : ∃ z : GS, z = sX S1122 k0 30 (-1) := ⟨_, rfl⟩
  have h := h S1169 eS_S1169
  rw [← eS_S1169] at hG
  have hs_S1169 : gSh S1169 S1122 := by rw [eS_S1169]; exact gSh.x _ _ _ _
  have hsh := (gExt.ofSh hs_S1169).tr hsh
  have hk1170 := hs_S1169.lt hk1123
  have hq1171 := hs_S1169.kd hq1124
  have hk1172 := hs_S1169.lt hk1125
  have hq1173 := hs_S1169.kd hq1126
  have hk1174 := hs_S1169.lt hk1127
  have hq1175 := hs_S1169.kd hq1128
  have hk1176 := hs_S1169.lt hk1129
  have hq1177 := hs_S1169.kd hq1130
  have hk1178 := hs_S1169.lt hk1131
  have hq1179 := hs_S1169.kd hq1132
  have hk1180 := hs_S1169.lt hk1133
  have hq1181 := hs_S1169.kd hq1134
  have hk1182 := hs_S1169.lt hk1135
  have hq1183 := hs_S1169.kd hq1136
  have hk1184 := hs_S1169.lt hk1137
  have hq1185 := hs_S1169.kd hq1138
  have hk1186 := hs_S1169.lt hk1139
  have hq1187 := hs_S1169.kd hq1140
  have hk1188 := hs_S1169.lt hk1141
  have hq1189 := hs_S1169.kd hq1142
  have hk1190 := hs_S1169.lt hk1143
  have hq1191 := hs_S1169.kd hq1144
  have hk1192 := hs_S1169.lt hk1145
  have hq1193 := hs_S1169.kd hq1146
  have hk1194 := hs_S1169.lt hk1147
  have hq1195 := hs_S1169.kd hq1148
  have hk1196 := hs_S1169.lt hk1149
  have hq1197 := hs_S1169.kd hq1150
  have hk1198 := hs_S1169.lt hk1151
  have hq1199 := hs_S1169.kd hq1152
  have hk1200 := hs_S1169.lt hk1153
  have hq1201 := hs_S1169.kd hq1154
  have hk1202 := hs_S1169.lt hk1155
  have hq1203 := hs_S1169.kd hq1156
  have hk1204 := hs_S1169.lt hk1157
  have hq1205 := hs_S1169.kd hq1158
  have hk1206 := hs_S1169.lt hk1159
  have hq1207 := hs_S1169.kd hq1160
  have hk1208 := hs_S1169.lt hk1161
  have hq1209 := hs_S1169.kd hq1162
  have hk1210 := hs_S1169.lt hk1163
  have hq1211 := hs_S1169.kd hq1164
  have hk1212 := hs_S1169.lt hk1165
  have hq1213 := hs_S1169.kd hq1166
  have hk1214 := hs_S1169.lt hk1167
  have hq1215 := hs_S1169.kd hq1168
  refine lv_aload_n hx hb dX9_init_199 rfl (lv_at hl 0 rfl) ?_
  refine lv_iconst (v := (-1)) hx hb dX9_init_200 (by decide) ?_
  refine r_put (ci := 9) (C := RX9) (T := TX9) (N := 36) hx hb hts hin9 tyX9 tyX9_ok nmX9 hown hK hG hk1170 (cell_9 hq1171) rfl 31 (by decide) lk_81 (fun _ h9 => h9) rfl rfl rfl (Nat.le_of_ble_eq_true rfl) (S' := sX S1169 k0 31 (-1)) rfl (pu_9_31 hq1171 (-1)) dX9_init_201 (fun H locs hG => ?_)
  obtain ⟨S1216, eS_S1216⟩ : ∃ z : GS, z = sX S1169 k0 31 (-1) := ⟨_, rfl⟩
  have h := h S1216 eS_S1216
  rw [← eS_S1216] at hG
  have hs_S1216 : gSh S1216 S1169 := by rw [eS_S1216]; exact gSh.x _ _ _ _
  have hsh := (gExt.ofSh hs_S1216).tr hsh
  have hk1217 := hs_S1216.lt hk1170
  have hq1218 := hs_S1216.kd hq1171
  have hk1219 := hs_S1216.lt hk1172
  have hq1220 := hs_S1216.kd hq1173
  have hk1221 := hs_S1216.lt hk1174
  have hq1222 := hs_S1216.kd hq1175
  have hk1223 := hs_S1216.lt hk1176
  have hq1224 := hs_S1216.kd hq1177
  have hk1225 := hs_S1216.lt hk1178
  have hq1226 := hs_S1216.kd hq1179
  have hk1227 := hs_S1216.lt hk1180
  have hq1228 := hs_S1216.kd hq1181
  have hk1229 := hs_S1216.lt hk1182
  have hq1230 := hs_S1216.kd hq1183
  have hk1231 := hs_S1216.lt hk1184
  have hq1232 := hs_S1216.kd hq1185
  have hk1233 := hs_S1216.lt hk1186
  have hq1234 := hs_S1216.kd hq1187
  have hk1235 := hs_S1216.lt hk1188
  have hq1236 := hs_S1216.kd hq1189
  have hk1237 := hs_S1216.lt hk1190
  have hq1238 := hs_S1216.kd hq1191
  have hk1239 := hs_S1216.lt hk1192
  have hq1240 := hs_S1216.kd hq1193
  have hk1241 := hs_S1216.lt hk1194
  have hq1242 := hs_S1216.kd hq1195
  have hk1243 := hs_S1216.lt hk1196
  have hq1244 := hs_S1216.kd hq1197
  have hk1245 := hs_S1216.lt hk1198
  have hq1246 := hs_S1216.kd hq1199
  have hk1247 := hs_S1216.lt hk1200
  have hq1248 := hs_S1216.kd hq1201
  have hk1249 := hs_S1216.lt hk1202
  have hq1250 := hs_S1216.kd hq1203
  have hk1251 := hs_S1216.lt hk1204
  have hq1252 := hs_S1216.kd hq1205
  have hk1253 := hs_S1216.lt hk1206
  have hq1254 := hs_S1216.kd hq1207
  have hk1255 := hs_S1216.lt hk1208
  have hq1256 := hs_S1216.kd hq1209
  have hk1257 := hs_S1216.lt hk1210
  have hq1258 := hs_S1216.kd hq1211
  have hk1259 := hs_S1216.lt hk1212
  have hq1260 := hs_S1216.kd hq1213
  have hk1261 := hs_S1216.lt hk1214
  have hq1262 := hs_S1216.kd hq1215
  exact W.widen (k := 22) (n := 8600) (by decide) (by decide) (W.vret hx hb hr (fun t ht hW => r_endA (r := none) hAe hG hsh had0 ⟨rfl, h⟩ rfl ht) hG.2.2.2.2 dX9_init_204)
def wX3_init (S : GS) (k0 : Nat) (Q : GS → Prop) : Prop :=
  k0 < gN S ∧ gK S k0 = 3 ∧ closed S ∧ ∀ S4 : GS, S4 = nwS S 13 40 → ∀ S9 : GS, S9 = sR S4 k0 0 (some (gN S)) → Q S9
set_option maxHeartbeats 4000000 in
set_option maxRecDepth 100000 in
theorem tX3_init (l : Launch) (S : GS) (k0 : Nat) (Q : GS → Prop) (h : wX3_init S k0 Q) : CA l yX3_init wsX3_init 1 1 40 S (gA [vR (some k0)]) (fun r S9 => r = none ∧ Q S9) := by
  refine CA.ofW (cc := cX3_init) (maxL := 1) (ret := none) RX3 (by decide) rfl rfl (fun _ _ _ => Nat.le_of_ble_eq_true rfl) ?_
  intro p e s m args below meth c D Y za zv ad A ls hAe hmn hx hb hr hml hts hown hlocks hK hZ hA hG hl
  obtain ⟨S0, hS0⟩ : ∃ z : GS, z = S := ⟨_, rfl⟩
  rw [← hS0] at hAe
  rw [← hS0]
  obtain ⟨ad0, ead⟩ : ∃ z : Nat → Nat, z = ad := ⟨_, rfl⟩
  rw [← ead] at hAe
  rw [← ead]
  have had0 : ∀ k, k < gN S0 → ad k = ad0 k := fun k _ => by rw [ead]
  have hin3 : ∀ w ∈ wsX30, w ∈ wsX3_init := by decide +kernel
  have lk_11 := hts (.fieldLink RX3 11 "PauseLog$Events" "row" "[LPauseLog$Event;") (by decide +kernel)
  have hl : lv_has ls 1 [(0, .ref (ad k0))] := hl
  have hsh : gExt S S0 := by rw [hS0]; exact gExt.rf S
  obtain ⟨H, eH⟩ : ∃ z : Heap, z = s.heap := ⟨_, rfl⟩
  obtain ⟨locs, eL⟩ : ∃ z : List Loc, z = [] := ⟨_, rfl⟩
  have hG : gS D Y ad A s.heap S H locs := by rw [eH, eL]; exact hG
  suffices hgoal : W p l e (rmA 1 1 40) s m args below meth c H locs 0 0 (MQ below (gEA D Y za ad0 S0 s.heap.size (fun r S9 => r = none ∧ Q S9)) args s 1 40 A) (F0 m 0 ls []) by rw [eH, eL] at hgoal; exact hgoal
  unfold wX3_init at h
  refine lv_aload_n hx hb dX3_init_0 rfl (lv_at hl 0 rfl) ?_
  refine W.objInit hx hb hown (hts (.methodLink RX3 3 objectInit) (by decide +kernel)) (hts (.instanceMethod objectInit) (by decide +kernel)) (hts (.code objectInit ⟨#[0xb1]⟩ 1 none) (by decide +kernel)) rfl (by rw [hml]; exact hl.1) rfl dX3_init_1 (Nat.le_of_ble_eq_true rfl) (Nat.le_of_ble_eq_true rfl) ?_
  refine W.eq (g2 := F0 m 4 ls []) rfl ?_
  refine lv_aload_n hx hb dX3_init_4 rfl (lv_at hl 0 rfl) ?_
  refine lv_bipush (v := 40) hx hb dX3_init_5 (by decide) ?_
  obtain ⟨hk1, hq2, h⟩ := h
  obtain ⟨hcd3, h⟩ := h
  refine r_newq (n := 40) (N' := 40) hx hb hown (hts (.classLink RX3 9 RX2) (by decide +kernel)) hZ.2.2.2.2.2.2.2.2.1 hK hG hA hcd3 (by decide) (by decide) (by omega) (by decide) (by decide) dX3_init_7 (fun ad H had hG => ?_)
  have hl : lv_has ls 1 [(0, .ref (ad k0))] := by rw [had k0 hk1]; exact hl
  refine W.eq (g2 := F0 m 10 ls [.ref (ad (gN S)), .ref (ad k0)]) (by rw [had k0 hk1] <;> rfl) ?_
  refine W.widen (k := 1) (n := 40) (by decide) (by decide) ?_
  obtain ⟨S4, eS_S4⟩ : ∃ z : GS, z = nwS S 13 40 := ⟨_, rfl⟩
  have h := h S4 eS_S4
  rw [← eS_S4] at hG
  have hx_S4 : gExt S4 S := by rw [eS_S4]; exact gExt.nw _ _ _
  have had0 := fun k (hk : k < gN S0) => (had k (Nat.lt_of_lt_of_le hk hsh.1)).trans (had0 k hk)
  have hsh := hx_S4.tr hsh
  have hk5 : gN S < gN S4 := by rw [eS_S4]; exact Nat.lt_succ_self _
  have hq6 : gK S4 (gN S) = 13 := by rw [eS_S4]; exact va_up_self _ _ _
  have hk7 := hx_S4.lt hk1
  have hq8 := hx_S4.kd hk1 hq2
  refine r_putF (ci := 3) (C := RX3) (T := TX3) (N := 2) hx hb hts hin3 tyX3 tyX3_ok nmX3 hown hK hG hk7 (cell_3 hq8) rfl 0 (by decide) lk_11 (fun _ h9 => h9) rfl hmn rfl rfl rfl (Nat.le_of_ble_eq_true rfl) (S' := sR S4 k0 0 (some (gN S))) rfl (pu_3_0 hq8 (some (gN S))) dX3_init_10 (fun H locs hG => ?_)
  obtain ⟨S9, eS_S9⟩ : ∃ z : GS, z = sR S4 k0 0 (some (gN S)) := ⟨_, rfl⟩
  have h := h S9 eS_S9
  rw [← eS_S9] at hG
  have hs_S9 : gSh S9 S4 := by rw [eS_S9]; exact gSh.r _ _ _ _
  have hsh := (gExt.ofSh hs_S9).tr hsh
  have hk10 := hs_S9.lt hk7
  have hq11 := hs_S9.kd hq8
  have hk12 := hs_S9.lt hk5
  have hq13 := hs_S9.kd hq6
  exact W.widen (k := 1) (n := 40) (by decide) (by decide) (W.vret hx hb hr (fun t ht hW => r_endA (r := none) hAe hG hsh had0 ⟨rfl, h⟩ rfl ht) hG.2.2.2.2 dX3_init_13)
def wX8_init (S : GS) (k0 : Nat) (Q : GS → Prop) : Prop :=
  k0 < gN S ∧ gK S k0 = 8 ∧ closed S ∧ ∀ S4 : GS, S4 = nwS S 6 0 → wX6_init S4 (gN S)  (fun S9 => gExt S9 S4 → ∀ S15 : GS, S15 = sR S9 k0 0 (some (gN S)) → closed S15 ∧ ∀ S21 : GS, S21 = nwS S15 6 0 → wX6_init S21 (gN S15)  (fun S28 => gExt S28 S21 → ∀ S36 : GS, S36 = sR S28 k0 1 (some (gN S15)) → closed S36 ∧ ∀ S44 : GS, S44 = nwS S36 1 0 → wX1_init S44 (gN S36)  (fun S53 => gSh S53 S44 → ∀ S63 : GS, S63 = sR S53 k0 2 (some (gN S36)) → closed S63 ∧ ∀ S73 : GS, S73 = nwS S63 3 0 → wX3_init S73 (gN S63)  (fun S84 => gExt S84 S73 → ∀ S96 : GS, S96 = sR S84 k0 3 (some (gN S63)) → closed S96 ∧ ∀ S108 : GS, S108 = nwS S96 0 0 → wX0_init S108 (gN S96)  (fun S121 => gExt S121 S108 → ∀ S135 : GS, S135 = sR S121 k0 4 (some (gN S96)) → closed S135 ∧ ∀ S149 : GS, S149 = nwS S135 7 0 → wX7_init S149 (gN S135)  (fun S164 => gSh S164 S149 → ∀ S180 : GS, S180 = sR S164 k0 5 (some (gN S135)) → closed S180 ∧ ∀ S196 : GS, S196 = nwS S180 5 0 → wX5_init S196 (gN S180)  (fun S213 => gSh S213 S196 → ∀ S231 : GS, S231 = sR S213 k0 6 (some (gN S180)) → ∀ S248 : GS, S248 = sX S231 k0 9 (-1) → Q S248)))))))
set_option maxHeartbeats 4000000 in
set_option maxRecDepth 100000 in
theorem tX8_init (l : Launch) (S : GS) (k0 : Nat) (Q : GS → Prop) (h : wX8_init S k0 Q) : CA l yX8_init wsX8_init 2 13 249 S (gA [vR (some k0)]) (fun r S9 => r = none ∧ Q S9) := by
  refine CA.ofW (cc := cX8_init) (maxL := 1) (ret := none) RX8 (by decide) rfl rfl (fun _ _ _ => Nat.le_of_ble_eq_true rfl) ?_
  intro p e s m args below meth c D Y za zv ad A ls hAe hmn hx hb hr hml hts hown hlocks hK hZ hA hG hl
  obtain ⟨S0, hS0⟩ : ∃ z : GS, z = S := ⟨_, rfl⟩
  rw [← hS0] at hAe
  rw [← hS0]
  obtain ⟨ad0, ead⟩ : ∃ z : Nat → Nat, z = ad := ⟨_, rfl⟩
  rw [← ead] at hAe
  rw [← ead]
  have had0 : ∀ k, k < gN S0 → ad k = ad0 k := fun k _ => by rw [ead]
  have hin0 : ∀ w ∈ wsX00, w ∈ wsX8_init := by decide +kernel
  have hin1 : ∀ w ∈ wsX10, w ∈ wsX8_init := by decide +kernel
  have hin3 : ∀ w ∈ wsX30, w ∈ wsX8_init := by decide +kernel
  have hin5 : ∀ w ∈ wsX50, w ∈ wsX8_init := by decide +kernel
  have hin6 : ∀ w ∈ wsX60, w ∈ wsX8_init := by decide +kernel
  have hin7 : ∀ w ∈ wsX70, w ∈ wsX8_init := by decide +kernel
  have hin8 : ∀ w ∈ wsX80, w ∈ wsX8_init := by decide +kernel
  have lk_10 := hts (.fieldLink RX8 10 "PauseLog" "pad" "LPauseLog$Text;") (by decide +kernel)
  have lk_16 := hts (.fieldLink RX8 16 "PauseLog" "page" "LPauseLog$Text;") (by decide +kernel)
  have lk_22 := hts (.fieldLink RX8 22 "PauseLog" "entry" "LPauseLog$Entry;") (by decide +kernel)
  have lk_29 := hts (.fieldLink RX8 29 "PauseLog" "events" "LPauseLog$Events;") (by decide +kernel)
  have lk_36 := hts (.fieldLink RX8 36 "PauseLog" "diagnostics" "LPauseLog$Diagnostics;") (by decide +kernel)
  have lk_43 := hts (.fieldLink RX8 43 "PauseLog" "times" "LPauseLog$Times;") (by decide +kernel)
  have lk_50 := hts (.fieldLink RX8 50 "PauseLog" "sums" "LPauseLog$Sums;") (by decide +kernel)
  have lk_54 := hts (.fieldLink RX8 54 "PauseLog" "greatestId" "I") (by decide +kernel)
  have hl : lv_has ls 1 [(0, .ref (ad k0))] := hl
  have hsh : gExt S S0 := by rw [hS0]; exact gExt.rf S
  obtain ⟨H, eH⟩ : ∃ z : Heap, z = s.heap := ⟨_, rfl⟩
  obtain ⟨locs, eL⟩ : ∃ z : List Loc, z = [] := ⟨_, rfl⟩
  have hG : gS D Y ad A s.heap S H locs := by rw [eH, eL]; exact hG
  suffices hgoal : W p l e (rmA 2 13 249) s m args below meth c H locs 0 0 (MQ below (gEA D Y za ad0 S0 s.heap.size (fun r S9 => r = none ∧ Q S9)) args s 13 249 A) (F0 m 0 ls []) by rw [eH, eL] at hgoal; exact hgoal
  unfold wX8_init at h
  refine lv_aload_n hx hb dX8_init_0 rfl (lv_at hl 0 rfl) ?_
  refine W.objInit hx hb hown (hts (.methodLink RX8 1 objectInit) (by decide +kernel)) (hts (.instanceMethod objectInit) (by decide +kernel)) (hts (.code objectInit ⟨#[0xb1]⟩ 1 none) (by decide +kernel)) rfl (by rw [hml]; exact hl.1) rfl dX8_init_1 (Nat.le_of_ble_eq_true rfl) (Nat.le_of_ble_eq_true rfl) ?_
  refine W.eq (g2 := F0 m 4 ls []) rfl ?_
  refine lv_aload_n hx hb dX8_init_4 rfl (lv_at hl 0 rfl) ?_
  obtain ⟨hk1, hq2, h⟩ := h
  obtain ⟨hcd3, h⟩ := h
  refine r_new (ci := 6) (C := RX6) (T := TX6) (N := 2) (fs := [.null, .int 0]) hx hb hts hin6 tyX6 tyX6_ok hown (hts (.classLink RX8 7 RX6) (by decide +kernel)) (hts (.instantiable RX6 2) (by decide +kernel)) (hts (.initialized RX6) (by decide +kernel)) hK hG hA hcd3 rfl (fun j hj => match j, hj with | 0, _ => rfl | 1, _ => rfl | j + 2, hj => absurd hj (by omega)) (fun _ => rfl) (by decide) (by decide) dX8_init_5 (fun ad H had hG => ?_)
  have hl : lv_has ls 1 [(0, .ref (ad k0))] := by rw [had k0 hk1]; exact hl
  refine W.eq (g2 := F0 m 8 ls [.ref (ad (gN S)), .ref (ad k0)]) (by rw [had k0 hk1] <;> rfl) ?_
  refine W.widen (k := 1) (n := 2) (by decide) (by decide) ?_
  obtain ⟨S4, eS_S4⟩ : ∃ z : GS, z = nwS S 6 0 := ⟨_, rfl⟩
  have h := h S4 eS_S4
  rw [← eS_S4] at hG
  have hx_S4 : gExt S4 S := by rw [eS_S4]; exact gExt.nw _ _ _
  have had0 := fun k (hk : k < gN S0) => (had k (Nat.lt_of_lt_of_le hk hsh.1)).trans (had0 k hk)
  have hsh := hx_S4.tr hsh
  have hk5 : gN S < gN S4 := by rw [eS_S4]; exact Nat.lt_succ_self _
  have hq6 : gK S4 (gN S) = 6 := by rw [eS_S4]; exact va_up_self _ _ _
  have hk7 := hx_S4.lt hk1
  have hq8 := hx_S4.kd hk1 hq2
  refine lv_dup hx hb dX8_init_8 rfl ?_
  refine a_callI (As := []) (rest := [.ref (ad (gN S)), .ref (ad k0)]) (tX6_init l S4 (gN S)  _ h) rfl ⟨hx, hb, hml, hown, hts⟩ (cwI 0 hts gX8_init_X6_init rfl rfl rfl (hts (.initialized RX6) (by decide +kernel)) (hts (.methodLink RX8 9 yX6_init) (by decide +kernel)) (hts (.instanceMethod yX6_init) (by decide +kernel)) rfl (by decide +kernel) ⟨by decide, by decide⟩) hK hZ hG hA rfl hl.1 rfl (Nat.le_of_ble_eq_true rfl) ⟨by decide, by decide⟩ dX8_init_9 (fun r_9 S9 ad H locs hp hx_S9 had hG => ?_)
  obtain ⟨rfl, h⟩ := hp
  have h := h hx_S9
  have hl : lv_has ls 1 [(0, .ref (ad k0))] := by rw [had k0 hk7]; exact hl
  refine W.eq (g2 := F0 m 12 ls [.ref (ad (gN S)), .ref (ad k0)]) (by rw [had k0 hk7, had (gN S) hk5] <;> rfl) ?_
  refine W.widen (k := 2) (n := 74) (by decide) (by decide) ?_
  have had0 := fun k (hk : k < gN S0) => (had k (Nat.lt_of_lt_of_le hk hsh.1)).trans (had0 k hk)
  have hsh := hx_S9.tr hsh
  have hk11 := hx_S9.lt hk7
  have hq12 := hx_S9.kd hk7 hq8
  have hk13 := hx_S9.lt hk5
  have hq14 := hx_S9.kd hk5 hq6
  refine r_putF (ci := 8) (C := RX8) (T := TX8) (N := 12) hx hb hts hin8 tyX8 tyX8_ok nmX8 hown hK hG hk11 (cell_8 hq12) rfl 0 (by decide) lk_10 (fun _ h9 => h9) rfl hmn rfl rfl rfl (Nat.le_of_ble_eq_true rfl) (S' := sR S9 k0 0 (some (gN S))) rfl (pu_8_0 hq12 (some (gN S))) dX8_init_12 (fun H locs hG => ?_)
  obtain ⟨S15, eS_S15⟩ : ∃ z : GS, z = sR S9 k0 0 (some (gN S)) := ⟨_, rfl⟩
  have h := h S15 eS_S15
  rw [← eS_S15] at hG
  have hs_S15 : gSh S15 S9 := by rw [eS_S15]; exact gSh.r _ _ _ _
  have hsh := (gExt.ofSh hs_S15).tr hsh
  have hk16 := hs_S15.lt hk11
  have hq17 := hs_S15.kd hq12
  have hk18 := hs_S15.lt hk13
  have hq19 := hs_S15.kd hq14
  refine lv_aload_n hx hb dX8_init_15 rfl (lv_at hl 0 rfl) ?_
  obtain ⟨hcd20, h⟩ := h
  refine r_new (ci := 6) (C := RX6) (T := TX6) (N := 2) (fs := [.null, .int 0]) hx hb hts hin6 tyX6 tyX6_ok hown (hts (.classLink RX8 7 RX6) (by decide +kernel)) (hts (.instantiable RX6 2) (by decide +kernel)) (hts (.initialized RX6) (by decide +kernel)) hK hG hA hcd20 rfl (fun j hj => match j, hj with | 0, _ => rfl | 1, _ => rfl | j + 2, hj => absurd hj (by omega)) (fun _ => rfl) (by decide) (by decide) dX8_init_16 (fun ad H had hG => ?_)
  have hl : lv_has ls 1 [(0, .ref (ad k0))] := by rw [had k0 hk16]; exact hl
  refine W.eq (g2 := F0 m 19 ls [.ref (ad (gN S15)), .ref (ad k0)]) (by rw [had k0 hk16] <;> rfl) ?_
  refine W.widen (k := 3) (n := 76) (by decide) (by decide) ?_
  obtain ⟨S21, eS_S21⟩ : ∃ z : GS, z = nwS S15 6 0 := ⟨_, rfl⟩
  have h := h S21 eS_S21
  rw [← eS_S21] at hG
  have hx_S21 : gExt S21 S15 := by rw [eS_S21]; exact gExt.nw _ _ _
  have had0 := fun k (hk : k < gN S0) => (had k (Nat.lt_of_lt_of_le hk hsh.1)).trans (had0 k hk)
  have hsh := hx_S21.tr hsh
  have hk22 : gN S15 < gN S21 := by rw [eS_S21]; exact Nat.lt_succ_self _
  have hq23 : gK S21 (gN S15) = 6 := by rw [eS_S21]; exact va_up_self _ _ _
  have hk24 := hx_S21.lt hk16
  have hq25 := hx_S21.kd hk16 hq17
  have hk26 := hx_S21.lt hk18
  have hq27 := hx_S21.kd hk18 hq19
  refine lv_dup hx hb dX8_init_19 rfl ?_
  refine a_callI (As := []) (rest := [.ref (ad (gN S15)), .ref (ad k0)]) (tX6_init l S21 (gN S15)  _ h) rfl ⟨hx, hb, hml, hown, hts⟩ (cwI 0 hts gX8_init_X6_init rfl rfl rfl (hts (.initialized RX6) (by decide +kernel)) (hts (.methodLink RX8 9 yX6_init) (by decide +kernel)) (hts (.instanceMethod yX6_init) (by decide +kernel)) rfl (by decide +kernel) ⟨by decide, by decide⟩) hK hZ hG hA rfl hl.1 rfl (Nat.le_of_ble_eq_true rfl) ⟨by decide, by decide⟩ dX8_init_20 (fun r_9 S28 ad H locs hp hx_S28 had hG => ?_)
  obtain ⟨rfl, h⟩ := hp
  have h := h hx_S28
  have hl : lv_has ls 1 [(0, .ref (ad k0))] := by rw [had k0 hk24]; exact hl
  refine W.eq (g2 := F0 m 23 ls [.ref (ad (gN S15)), .ref (ad k0)]) (by rw [had k0 hk24, had (gN S15) hk22] <;> rfl) ?_
  refine W.widen (k := 4) (n := 148) (by decide) (by decide) ?_
  have had0 := fun k (hk : k < gN S0) => (had k (Nat.lt_of_lt_of_le hk hsh.1)).trans (had0 k hk)
  have hsh := hx_S28.tr hsh
  have hk30 := hx_S28.lt hk24
  have hq31 := hx_S28.kd hk24 hq25
  have hk32 := hx_S28.lt hk26
  have hq33 := hx_S28.kd hk26 hq27
  have hk34 := hx_S28.lt hk22
  have hq35 := hx_S28.kd hk22 hq23
  refine r_putF (ci := 8) (C := RX8) (T := TX8) (N := 12) hx hb hts hin8 tyX8 tyX8_ok nmX8 hown hK hG hk30 (cell_8 hq31) rfl 1 (by decide) lk_16 (fun _ h9 => h9) rfl hmn rfl rfl rfl (Nat.le_of_ble_eq_true rfl) (S' := sR S28 k0 1 (some (gN S15))) rfl (pu_8_1 hq31 (some (gN S15))) dX8_init_23 (fun H locs hG => ?_)
  obtain ⟨S36, eS_S36⟩ : ∃ z : GS, z = sR S28 k0 1 (some (gN S15)) := ⟨_, rfl⟩
  have h := h S36 eS_S36
  rw [← eS_S36] at hG
  have hs_S36 : gSh S36 S28 := by rw [eS_S36]; exact gSh.r _ _ _ _
  have hsh := (gExt.ofSh hs_S36).tr hsh
  have hk37 := hs_S36.lt hk30
  have hq38 := hs_S36.kd hq31
  have hk39 := hs_S36.lt hk32
  have hq40 := hs_S36.kd hq33
  have hk41 := hs_S36.lt hk34
  have hq42 := hs_S36.kd hq35
  refine lv_aload_n hx hb dX8_init_26 rfl (lv_at hl 0 rfl) ?_
  obtain ⟨hcd43, h⟩ := h
  refine r_new (ci := 1) (C := RX1) (T := TX1) (N := 9) (fs := [.int 0, .int 0, .int 0, .int 0, .int 0, .int 0, .int 0, .int 0, .int 0]) hx hb hts hin1 tyX1 tyX1_ok hown (hts (.classLink RX8 19 RX1) (by decide +kernel)) (hts (.instantiable RX1 9) (by decide +kernel)) (hts (.initialized RX1) (by decide +kernel)) hK hG hA hcd43 rfl (fun j hj => match j, hj with | 0, _ => rfl | 1, _ => rfl | 2, _ => rfl | 3, _ => rfl | 4, _ => rfl | 5, _ => rfl | 6, _ => rfl | 7, _ => rfl | 8, _ => rfl | j + 9, hj => absurd hj (by omega)) (fun _ => rfl) (by decide) (by decide) dX8_init_27 (fun ad H had hG => ?_)
  have hl : lv_has ls 1 [(0, .ref (ad k0))] := by rw [had k0 hk37]; exact hl
  refine W.eq (g2 := F0 m 30 ls [.ref (ad (gN S36)), .ref (ad k0)]) (by rw [had k0 hk37] <;> rfl) ?_
  refine W.widen (k := 5) (n := 157) (by decide) (by decide) ?_
  obtain ⟨S44, eS_S44⟩ : ∃ z : GS, z = nwS S36 1 0 := ⟨_, rfl⟩
  have h := h S44 eS_S44
  rw [← eS_S44] at hG
  have hx_S44 : gExt S44 S36 := by rw [eS_S44]; exact gExt.nw _ _ _
  have had0 := fun k (hk : k < gN S0) => (had k (Nat.lt_of_lt_of_le hk hsh.1)).trans (had0 k hk)
  have hsh := hx_S44.tr hsh
  have hk45 : gN S36 < gN S44 := by rw [eS_S44]; exact Nat.lt_succ_self _
  have hq46 : gK S44 (gN S36) = 1 := by rw [eS_S44]; exact va_up_self _ _ _
  have hk47 := hx_S44.lt hk37
  have hq48 := hx_S44.kd hk37 hq38
  have hk49 := hx_S44.lt hk39
  have hq50 := hx_S44.kd hk39 hq40
  have hk51 := hx_S44.lt hk41
  have hq52 := hx_S44.kd hk41 hq42
  refine lv_dup hx hb dX8_init_30 rfl ?_
  refine r_callIN (za := za) (k := gN S36) (As := []) (rest := [.ref (ad (gN S36)), .ref (ad k0)]) (tX1_init l S44 (gN S36)  _ h) ⟨hx, hb, hml, hown, hts⟩ ⟨va_cnB 0 hts gX8_init_X1_init_n21 rfl rfl rfl (hZ.2.2.2.2.1 (.methodLinkNest RX8 21 yX1_init "PauseLog") (by decide +kernel)) (hts (.initialized RX1) (by decide +kernel)) (by decide +kernel) ⟨by decide, by decide⟩, rfl, hts (.instanceMethod yX1_init) (by decide +kernel)⟩ hK hG hA rfl hl.1 rfl (Nat.le_of_ble_eq_true rfl) ⟨by decide, by decide⟩ dX8_init_31 (fun r_9 S53 H locs hp hs_S53 hG => ?_)
  obtain ⟨rfl, h⟩ := hp
  have h := h hs_S53
  refine W.eq (g2 := F0 m 34 ls [.ref (ad (gN S36)), .ref (ad k0)]) rfl ?_
  have hsh := (gExt.ofSh hs_S53).tr hsh
  have hk55 := hs_S53.lt hk47
  have hq56 := hs_S53.kd hq48
  have hk57 := hs_S53.lt hk49
  have hq58 := hs_S53.kd hq50
  have hk59 := hs_S53.lt hk51
  have hq60 := hs_S53.kd hq52
  have hk61 := hs_S53.lt hk45
  have hq62 := hs_S53.kd hq46
  refine r_putF (ci := 8) (C := RX8) (T := TX8) (N := 12) hx hb hts hin8 tyX8 tyX8_ok nmX8 hown hK hG hk55 (cell_8 hq56) rfl 2 (by decide) lk_22 (fun _ h9 => h9) rfl hmn rfl rfl rfl (Nat.le_of_ble_eq_true rfl) (S' := sR S53 k0 2 (some (gN S36))) rfl (pu_8_2 hq56 (some (gN S36))) dX8_init_34 (fun H locs hG => ?_)
  obtain ⟨S63, eS_S63⟩ : ∃ z : GS, z = sR S53 k0 2 (some (gN S36)) := ⟨_, rfl⟩
  have h := h S63 eS_S63
  rw [← eS_S63] at hG
  have hs_S63 : gSh S63 S53 := by rw [eS_S63]; exact gSh.r _ _ _ _
  have hsh := (gExt.ofSh hs_S63).tr hsh
  have hk64 := hs_S63.lt hk55
  have hq65 := hs_S63.kd hq56
  have hk66 := hs_S63.lt hk57
  have hq67 := hs_S63.kd hq58
  have hk68 := hs_S63.lt hk59
  have hq69 := hs_S63.kd hq60
  have hk70 := hs_S63.lt hk61
  have hq71 := hs_S63.kd hq62
  refine lv_aload_n hx hb dX8_init_37 rfl (lv_at hl 0 rfl) ?_
  obtain ⟨hcd72, h⟩ := h
  refine r_new (ci := 3) (C := RX3) (T := TX3) (N := 2) (fs := [.null, .int 0]) hx hb hts hin3 tyX3 tyX3_ok hown (hts (.classLink RX8 26 RX3) (by decide +kernel)) (hts (.instantiable RX3 2) (by decide +kernel)) (hts (.initialized RX3) (by decide +kernel)) hK hG hA hcd72 rfl (fun j hj => match j, hj with | 0, _ => rfl | 1, _ => rfl | j + 2, hj => absurd hj (by omega)) (fun _ => rfl) (by decide) (by decide) dX8_init_38 (fun ad H had hG => ?_)
  have hl : lv_has ls 1 [(0, .ref (ad k0))] := by rw [had k0 hk64]; exact hl
  refine W.eq (g2 := F0 m 41 ls [.ref (ad (gN S63)), .ref (ad k0)]) (by rw [had k0 hk64] <;> rfl) ?_
  refine W.widen (k := 6) (n := 159) (by decide) (by decide) ?_
  obtain ⟨S73, eS_S73⟩ : ∃ z : GS, z = nwS S63 3 0 := ⟨_, rfl⟩
  have h := h S73 eS_S73
  rw [← eS_S73] at hG
  have hx_S73 : gExt S73 S63 := by rw [eS_S73]; exact gExt.nw _ _ _
  have had0 := fun k (hk : k < gN S0) => (had k (Nat.lt_of_lt_of_le hk hsh.1)).trans (had0 k hk)
  have hsh := hx_S73.tr hsh
  have hk74 : gN S63 < gN S73 := by rw [eS_S73]; exact Nat.lt_succ_self _
  have hq75 : gK S73 (gN S63) = 3 := by rw [eS_S73]; exact va_up_self _ _ _
  have hk76 := hx_S73.lt hk64
  have hq77 := hx_S73.kd hk64 hq65
  have hk78 := hx_S73.lt hk66
  have hq79 := hx_S73.kd hk66 hq67
  have hk80 := hx_S73.lt hk68
  have hq81 := hx_S73.kd hk68 hq69
  have hk82 := hx_S73.lt hk70
  have hq83 := hx_S73.kd hk70 hq71
  refine lv_dup hx hb dX8_init_41 rfl ?_
  refine a_callI (As := []) (rest := [.ref (ad (gN S63)), .ref (ad k0)]) (tX3_init l S73 (gN S63)  _ h) rfl ⟨hx, hb, hml, hown, hts⟩ (cwI 0 hts gX8_init_X3_init rfl rfl rfl (hts (.initialized RX3) (by decide +kernel)) (hts (.methodLink RX8 28 yX3_init) (by decide +kernel)) (hts (.instanceMethod yX3_init) (by decide +kernel)) rfl (by decide +kernel) ⟨by decide, by decide⟩) hK hZ hG hA rfl hl.1 rfl (Nat.le_of_ble_eq_true rfl) ⟨by decide, by decide⟩ dX8_init_42 (fun r_9 S84 ad H locs hp hx_S84 had hG => ?_)
  obtain ⟨rfl, h⟩ := hp
  have h := h hx_S84
  have hl : lv_has ls 1 [(0, .ref (ad k0))] := by rw [had k0 hk76]; exact hl
  refine W.eq (g2 := F0 m 45 ls [.ref (ad (gN S63)), .ref (ad k0)]) (by rw [had k0 hk76, had (gN S63) hk74] <;> rfl) ?_
  refine W.widen (k := 7) (n := 199) (by decide) (by decide) ?_
  have had0 := fun k (hk : k < gN S0) => (had k (Nat.lt_of_lt_of_le hk hsh.1)).trans (had0 k hk)
  have hsh := hx_S84.tr hsh
  have hk86 := hx_S84.lt hk76
  have hq87 := hx_S84.kd hk76 hq77
  have hk88 := hx_S84.lt hk78
  have hq89 := hx_S84.kd hk78 hq79
  have hk90 := hx_S84.lt hk80
  have hq91 := hx_S84.kd hk80 hq81
  have hk92 := hx_S84.lt hk82
  have hq93 := hx_S84.kd hk82 hq83
  have hk94 := hx_S84.lt hk74
  have hq95 := hx_S84.kd hk74 hq75
  refine r_putF (ci := 8) (C := RX8) (T := TX8) (N := 12) hx hb hts hin8 tyX8 tyX8_ok nmX8 hown hK hG hk86 (cell_8 hq87) rfl 3 (by decide) lk_29 (fun _ h9 => h9) rfl hmn rfl rfl rfl (Nat.le_of_ble_eq_true rfl) (S' := sR S84 k0 3 (some (gN S63))) rfl (pu_8_3 hq87 (some (gN S63))) dX8_init_45 (fun H locs hG => ?_)
  obtain ⟨S96, eS_S96⟩ : ∃ z : GS, z = sR S84 k0 3 (some (gN S63)) := ⟨_, rfl⟩
  have h := h S96 eS_S96
  rw [← eS_S96] at hG
  have hs_S96 : gSh S96 S84 := by rw [eS_S96]; exact gSh.r _ _ _ _
  have hsh := (gExt.ofSh hs_S96).tr hsh
  have hk97 := hs_S96.lt hk86
  have hq98 := hs_S96.kd hq87
  have hk99 := hs_S96.lt hk88
  have hq100 := hs_S96.kd hq89
  have hk101 := hs_S96.lt hk90
  have hq102 := hs_S96.kd hq91
  have hk103 := hs_S96.lt hk92
  have hq104 := hs_S96.kd hq93
  have hk105 := hs_S96.lt hk94
  have hq106 := hs_S96.kd hq95
  refine lv_aload_n hx hb dX8_init_48 rfl (lv_at hl 0 rfl) ?_
  obtain ⟨hcd107, h⟩ := h
  refine r_new (ci := 0) (C := RX0) (T := TX0) (N := 5) (fs := [.null, .null, .null, .int 0, .int 0]) hx hb hts hin0 tyX0 tyX0_ok hown (hts (.classLink RX8 33 RX0) (by decide +kernel)) (hts (.instantiable RX0 5) (by decide +kernel)) (hts (.initialized RX0) (by decide +kernel)) hK hG hA hcd107 rfl (fun j hj => match j, hj with | 0, _ => rfl | 1, _ => rfl | 2, _ => rfl | 3, _ => rfl | 4, _ => rfl | j + 5, hj => absurd hj (by omega)) (fun _ => rfl) (by decide) (by decide) dX8_init_49 (fun ad H had hG => ?_)
  have hl : lv_has ls 1 [(0, .ref (ad k0))] := by rw [had k0 hk97]; exact hl
  refine W.eq (g2 := F0 m 52 ls [.ref (ad (gN S96)), .ref (ad k0)]) (by rw [had k0 hk97] <;> rfl) ?_
  refine W.widen (k := 8) (n := 204) (by decide) (by decide) ?_
  obtain ⟨S108, eS_S108⟩ : ∃ z : GS, z = nwS S96 0 0 := ⟨_, rfl⟩
  have h := h S108 eS_S108
  rw [← eS_S108] at hG
  have hx_S108 : gExt S108 S96 := by rw [eS_S108]; exact gExt.nw _ _ _
  have had0 := fun k (hk : k < gN S0) => (had k (Nat.lt_of_lt_of_le hk hsh.1)).trans (had0 k hk)
  have hsh := hx_S108.tr hsh
  have hk109 : gN S96 < gN S108 := by rw [eS_S108]; exact Nat.lt_succ_self _
  have hq110 : gK S108 (gN S96) = 0 := by rw [eS_S108]; exact va_up_self _ _ _
  have hk111 := hx_S108.lt hk97
  have hq112 := hx_S108.kd hk97 hq98
  have hk113 := hx_S108.lt hk99
  have hq114 := hx_S108.kd hk99 hq100
  have hk115 := hx_S108.lt hk101
  have hq116 := hx_S108.kd hk101 hq102
  have hk117 := hx_S108.lt hk103
  have hq118 := hx_S108.kd hk103 hq104
  have hk119 := hx_S108.lt hk105
  have hq120 := hx_S108.kd hk105 hq106
  refine lv_dup hx hb dX8_init_52 rfl ?_
  refine a_callI (As := []) (rest := [.ref (ad (gN S96)), .ref (ad k0)]) (tX0_init l S108 (gN S96)  _ h) rfl ⟨hx, hb, hml, hown, hts⟩ (cwI 0 hts gX8_init_X0_init rfl rfl rfl (hts (.initialized RX0) (by decide +kernel)) (hts (.methodLink RX8 35 yX0_init) (by decide +kernel)) (hts (.instanceMethod yX0_init) (by decide +kernel)) rfl (by decide +kernel) ⟨by decide, by decide⟩) hK hZ hG hA rfl hl.1 rfl (Nat.le_of_ble_eq_true rfl) ⟨by decide, by decide⟩ dX8_init_53 (fun r_9 S121 ad H locs hp hx_S121 had hG => ?_)
  obtain ⟨rfl, h⟩ := hp
  have h := h hx_S121
  have hl : lv_has ls 1 [(0, .ref (ad k0))] := by rw [had k0 hk111]; exact hl
  refine W.eq (g2 := F0 m 56 ls [.ref (ad (gN S96)), .ref (ad k0)]) (by rw [had k0 hk111, had (gN S96) hk109] <;> rfl) ?_
  refine W.widen (k := 11) (n := 240) (by decide) (by decide) ?_
  have had0 := fun k (hk : k < gN S0) => (had k (Nat.lt_of_lt_of_le hk hsh.1)).trans (had0 k hk)
  have hsh := hx_S121.tr hsh
  have hk123 := hx_S121.lt hk111
  have hq124 := hx_S121.kd hk111 hq112
  have hk125 := hx_S121.lt hk113
  have hq126 := hx_S121.kd hk113 hq114
  have hk127 := hx_S121.lt hk115
  have hq128 := hx_S121.kd hk115 hq116
  have hk129 := hx_S121.lt hk117
  have hq130 := hx_S121.kd hk117 hq118
  have hk131 := hx_S121.lt hk119
  have hq132 := hx_S121.kd hk119 hq120
  have hk133 := hx_S121.lt hk109
  have hq134 := hx_S121.kd hk109 hq110
  refine r_putF (ci := 8) (C := RX8) (T := TX8) (N := 12) hx hb hts hin8 tyX8 tyX8_ok nmX8 hown hK hG hk123 (cell_8 hq124) rfl 4 (by decide) lk_36 (fun _ h9 => h9) rfl hmn rfl rfl rfl (Nat.le_of_ble_eq_true rfl) (S' := sR S121 k0 4 (some (gN S96))) rfl (pu_8_4 hq124 (some (gN S96))) dX8_init_56 (fun H locs hG => ?_)
  obtain ⟨S135, eS_S135⟩ : ∃ z : GS, z = sR S121 k0 4 (some (gN S96)) := ⟨_, rfl⟩
  have h := h S135 eS_S135
  rw [← eS_S135] at hG
  have hs_S135 : gSh S135 S121 := by rw [eS_S135]; exact gSh.r _ _ _ _
  have hsh := (gExt.ofSh hs_S135).tr hsh
  have hk136 := hs_S135.lt hk123
  have hq137 := hs_S135.kd hq124
  have hk138 := hs_S135.lt hk125
  have hq139 := hs_S135.kd hq126
  have hk140 := hs_S135.lt hk127
  have hq141 := hs_S135.kd hq128
  have hk142 := hs_S135.lt hk129
  have hq143 := hs_S135.kd hq130
  have hk144 := hs_S135.lt hk131
  have hq145 := hs_S135.kd hq132
  have hk146 := hs_S135.lt hk133
  have hq147 := hs_S135.kd hq134
  refine lv_aload_n hx hb dX8_init_59 rfl (lv_at hl 0 rfl) ?_
  obtain ⟨hcd148, h⟩ := h
  refine r_new (ci := 7) (C := RX7) (T := TX7) (N := 3) (fs := [.long 0, .int 0, .int 0]) hx hb hts hin7 tyX7 tyX7_ok hown (hts (.classLink RX8 40 RX7) (by decide +kernel)) (hts (.instantiable RX7 3) (by decide +kernel)) (hts (.initialized RX7) (by decide +kernel)) hK hG hA hcd148 rfl (fun j hj => match j, hj with | 0, _ => rfl | 1, _ => rfl | 2, _ => rfl | j + 3, hj => absurd hj (by omega)) (fun _ => rfl) (by decide) (by decide) dX8_init_60 (fun ad H had hG => ?_)
  have hl : lv_has ls 1 [(0, .ref (ad k0))] := by rw [had k0 hk136]; exact hl
  refine W.eq (g2 := F0 m 63 ls [.ref (ad (gN S135)), .ref (ad k0)]) (by rw [had k0 hk136] <;> rfl) ?_
  refine W.widen (k := 12) (n := 243) (by decide) (by decide) ?_
  obtain ⟨S149, eS_S149⟩ : ∃ z : GS, z = nwS S135 7 0 := ⟨_, rfl⟩
  have h := h S149 eS_S149
  rw [← eS_S149] at hG
  have hx_S149 : gExt S149 S135 := by rw [eS_S149]; exact gExt.nw _ _ _
  have had0 := fun k (hk : k < gN S0) => (had k (Nat.lt_of_lt_of_le hk hsh.1)).trans (had0 k hk)
  have hsh := hx_S149.tr hsh
  have hk150 : gN S135 < gN S149 := by rw [eS_S149]; exact Nat.lt_succ_self _
  have hq151 : gK S149 (gN S135) = 7 := by rw [eS_S149]; exact va_up_self _ _ _
  have hk152 := hx_S149.lt hk136
  have hq153 := hx_S149.kd hk136 hq137
  have hk154 := hx_S149.lt hk138
  have hq155 := hx_S149.kd hk138 hq139
  have hk156 := hx_S149.lt hk140
  have hq157 := hx_S149.kd hk140 hq141
  have hk158 := hx_S149.lt hk142
  have hq159 := hx_S149.kd hk142 hq143
  have hk160 := hx_S149.lt hk144
  have hq161 := hx_S149.kd hk144 hq145
  have hk162 := hx_S149.lt hk146
  have hq163 := hx_S149.kd hk146 hq147
  refine lv_dup hx hb dX8_init_63 rfl ?_
  refine r_callI (za := za) (k := gN S135) (As := []) (rest := [.ref (ad (gN S135)), .ref (ad k0)]) (tX7_init l S149 (gN S135)  _ h) ⟨hx, hb, hml, hown, hts⟩ (cwI 0 hts gX8_init_X7_init rfl rfl rfl (hts (.initialized RX7) (by decide +kernel)) (hts (.methodLink RX8 42 yX7_init) (by decide +kernel)) (hts (.instanceMethod yX7_init) (by decide +kernel)) rfl (by decide +kernel) ⟨by decide, by decide⟩) hK hG hA rfl hl.1 rfl (Nat.le_of_ble_eq_true rfl) ⟨by decide, by decide⟩ dX8_init_64 (fun r_9 S164 H locs hp hs_S164 hG => ?_)
  obtain ⟨rfl, h⟩ := hp
  have h := h hs_S164
  refine W.eq (g2 := F0 m 67 ls [.ref (ad (gN S135)), .ref (ad k0)]) rfl ?_
  have hsh := (gExt.ofSh hs_S164).tr hsh
  have hk166 := hs_S164.lt hk152
  have hq167 := hs_S164.kd hq153
  have hk168 := hs_S164.lt hk154
  have hq169 := hs_S164.kd hq155
  have hk170 := hs_S164.lt hk156
  have hq171 := hs_S164.kd hq157
  have hk172 := hs_S164.lt hk158
  have hq173 := hs_S164.kd hq159
  have hk174 := hs_S164.lt hk160
  have hq175 := hs_S164.kd hq161
  have hk176 := hs_S164.lt hk162
  have hq177 := hs_S164.kd hq163
  have hk178 := hs_S164.lt hk150
  have hq179 := hs_S164.kd hq151
  refine r_putF (ci := 8) (C := RX8) (T := TX8) (N := 12) hx hb hts hin8 tyX8 tyX8_ok nmX8 hown hK hG hk166 (cell_8 hq167) rfl 5 (by decide) lk_43 (fun _ h9 => h9) rfl hmn rfl rfl rfl (Nat.le_of_ble_eq_true rfl) (S' := sR S164 k0 5 (some (gN S135))) rfl (pu_8_5 hq167 (some (gN S135))) dX8_init_67 (fun H locs hG => ?_)
  obtain ⟨S180, eS_S180⟩ : ∃ z : GS, z = sR S164 k0 5 (some (gN S135)) := ⟨_, rfl⟩
  have h := h S180 eS_S180
  rw [← eS_S180] at hG
  have hs_S180 : gSh S180 S164 := by rw [eS_S180]; exact gSh.r _ _ _ _
  have hsh := (gExt.ofSh hs_S180).tr hsh
  have hk181 := hs_S180.lt hk166
  have hq182 := hs_S180.kd hq167
  have hk183 := hs_S180.lt hk168
  have hq184 := hs_S180.kd hq169
  have hk185 := hs_S180.lt hk170
  have hq186 := hs_S180.kd hq171
  have hk187 := hs_S180.lt hk172
  have hq188 := hs_S180.kd hq173
  have hk189 := hs_S180.lt hk174
  have hq190 := hs_S180.kd hq175
  have hk191 := hs_S180.lt hk176
  have hq192 := hs_S180.kd hq177
  have hk193 := hs_S180.lt hk178
  have hq194 := hs_S180.kd hq179
  refine lv_aload_n hx hb dX8_init_70 rfl (lv_at hl 0 rfl) ?_
  obtain ⟨hcd195, h⟩ := h
  refine r_new (ci := 5) (C := RX5) (T := TX5) (N := 6) (fs := [.null, .int 0, .long 0, .long 0, .long 0, .long 0]) hx hb hts hin5 tyX5 tyX5_ok hown (hts (.classLink RX8 47 RX5) (by decide +kernel)) (hts (.instantiable RX5 6) (by decide +kernel)) (hts (.initialized RX5) (by decide +kernel)) hK hG hA hcd195 rfl (fun j hj => match j, hj with | 0, _ => rfl | 1, _ => rfl | 2, _ => rfl | 3, _ => rfl | 4, _ => rfl | 5, _ => rfl | j + 6, hj => absurd hj (by omega)) (fun _ => rfl) (by decide) (by decide) dX8_init_71 (fun ad H had hG => ?_)
  have hl : lv_has ls 1 [(0, .ref (ad k0))] := by rw [had k0 hk181]; exact hl
  refine W.eq (g2 := F0 m 74 ls [.ref (ad (gN S180)), .ref (ad k0)]) (by rw [had k0 hk181] <;> rfl) ?_
  refine W.widen (k := 13) (n := 249) (by decide) (by decide) ?_
  obtain ⟨S196, eS_S196⟩ : ∃ z : GS, z = nwS S180 5 0 := ⟨_, rfl⟩
  have h := h S196 eS_S196
  rw [← eS_S196] at hG
  have hx_S196 : gExt S196 S180 := by rw [eS_S196]; exact gExt.nw _ _ _
  have had0 := fun k (hk : k < gN S0) => (had k (Nat.lt_of_lt_of_le hk hsh.1)).trans (had0 k hk)
  have hsh := hx_S196.tr hsh
  have hk197 : gN S180 < gN S196 := by rw [eS_S196]; exact Nat.lt_succ_self _
  have hq198 : gK S196 (gN S180) = 5 := by rw [eS_S196]; exact va_up_self _ _ _
  have hk199 := hx_S196.lt hk181
  have hq200 := hx_S196.kd hk181 hq182
  have hk201 := hx_S196.lt hk183
  have hq202 := hx_S196.kd hk183 hq184
  have hk203 := hx_S196.lt hk185
  have hq204 := hx_S196.kd hk185 hq186
  have hk205 := hx_S196.lt hk187
  have hq206 := hx_S196.kd hk187 hq188
  have hk207 := hx_S196.lt hk189
  have hq208 := hx_S196.kd hk189 hq190
  have hk209 := hx_S196.lt hk191
  have hq210 := hx_S196.kd hk191 hq192
  have hk211 := hx_S196.lt hk193
  have hq212 := hx_S196.kd hk193 hq194
  refine lv_dup hx hb dX8_init_74 rfl ?_
  refine r_callIN (za := za) (k := gN S180) (As := []) (rest := [.ref (ad (gN S180)), .ref (ad k0)]) (tX5_init l S196 (gN S180)  _ h) ⟨hx, hb, hml, hown, hts⟩ ⟨va_cnB 0 hts gX8_init_X5_init_n49 rfl rfl rfl (hZ.2.2.2.2.1 (.methodLinkNest RX8 49 yX5_init "PauseLog") (by decide +kernel)) (hts (.initialized RX5) (by decide +kernel)) (by decide +kernel) ⟨by decide, by decide⟩, rfl, hts (.instanceMethod yX5_init) (by decide +kernel)⟩ hK hG hA rfl hl.1 rfl (Nat.le_of_ble_eq_true rfl) ⟨by decide, by decide⟩ dX8_init_75 (fun r_9 S213 H locs hp hs_S213 hG => ?_)
  obtain ⟨rfl, h⟩ := hp
  have h := h hs_S213
  refine W.eq (g2 := F0 m 78 ls [.ref (ad (gN S180)), .ref (ad k0)]) rfl ?_
  have hsh := (gExt.ofSh hs_S213).tr hsh
  have hk215 := hs_S213.lt hk199
  have hq216 := hs_S213.kd hq200
  have hk217 := hs_S213.lt hk201
  have hq218 := hs_S213.kd hq202
  have hk219 := hs_S213.lt hk203
  have hq220 := hs_S213.kd hq204
  have hk221 := hs_S213.lt hk205
  have hq222 := hs_S213.kd hq206
  have hk223 := hs_S213.lt hk207
  have hq224 := hs_S213.kd hq208
  have hk225 := hs_S213.lt hk209
  have hq226 := hs_S213.kd hq210
  have hk227 := hs_S213.lt hk211
  have hq228 := hs_S213.kd hq212
  have hk229 := hs_S213.lt hk197
  have hq230 := hs_S213.kd hq198
  refine r_putF (ci := 8) (C := RX8) (T := TX8) (N := 12) hx hb hts hin8 tyX8 tyX8_ok nmX8 hown hK hG hk215 (cell_8 hq216) rfl 6 (by decide) lk_50 (fun _ h9 => h9) rfl hmn rfl rfl rfl (Nat.le_of_ble_eq_true rfl) (S' := sR S213 k0 6 (some (gN S180))) rfl (pu_8_6 hq216 (some (gN S180))) dX8_init_78 (fun H locs hG => ?_)
  obtain ⟨S231, eS_S231⟩ : ∃ z : GS, z = sR S213 k0 6 (some (gN S180)) := ⟨_, rfl⟩
  have h := h S231 eS_S231
  rw [← eS_S231] at hG
  have hs_S231 : gSh S231 S213 := by rw [eS_S231]; exact gSh.r _ _ _ _
  have hsh := (gExt.ofSh hs_S231).tr hsh
  have hk232 := hs_S231.lt hk215
  have hq233 := hs_S231.kd hq216
  have hk234 := hs_S231.lt hk217
  have hq235 := hs_S231.kd hq218
  have hk236 := hs_S231.lt hk219
  have hq237 := hs_S231.kd hq220
  have hk238 := hs_S231.lt hk221
  have hq239 := hs_S231.kd hq222
  have hk240 := hs_S231.lt hk223
  have hq241 := hs_S231.kd hq224
  have hk242 := hs_S231.lt hk225
  have hq243 := hs_S231.kd hq226
  have hk244 := hs_S231.lt hk227
  have hq245 := hs_S231.kd hq228
  have hk246 := hs_S231.lt hk229
  have hq247 := hs_S231.kd hq230
  refine lv_aload_n hx hb dX8_init_81 rfl (lv_at hl 0 rfl) ?_
  refine lv_iconst (v := (-1)) hx hb dX8_init_82 (by decide) ?_
  refine r_put (ci := 8) (C := RX8) (T := TX8) (N := 12) hx hb hts hin8 tyX8 tyX8_ok nmX8 hown hK hG hk232 (cell_8 hq233) rfl 9 (by decide) lk_54 (fun _ h9 => h9) rfl rfl rfl (Nat.le_of_ble_eq_true rfl) (S' := sX S231 k0 9 (-1)) rfl (pu_8_9 hq233 (-1)) dX8_init_83 (fun H locs hG => ?_)
  obtain ⟨S248, eS_S248⟩ : ∃ z : GS, z = sX S231 k0 9 (-1) := ⟨_, rfl⟩
  have h := h S248 eS_S248
  rw [← eS_S248] at hG
  have hs_S248 : gSh S248 S231 := by rw [eS_S248]; exact gSh.x _ _ _ _
  have hsh := (gExt.ofSh hs_S248).tr hsh
  have hk249 := hs_S248.lt hk232
  have hq250 := hs_S248.kd hq233
  have hk251 := hs_S248.lt hk234
  have hq252 := hs_S248.kd hq235
  have hk253 := hs_S248.lt hk236
  have hq254 := hs_S248.kd hq237
  have hk255 := hs_S248.lt hk238
  have hq256 := hs_S248.kd hq239
  have hk257 := hs_S248.lt hk240
  have hq258 := hs_S248.kd hq241
  have hk259 := hs_S248.lt hk242
  have hq260 := hs_S248.kd hq243
  have hk261 := hs_S248.lt hk244
  have hq262 := hs_S248.kd hq245
  have hk263 := hs_S248.lt hk246
  have hq264 := hs_S248.kd hq247
  exact W.widen (k := 13) (n := 249) (by decide) (by decide) (W.vret hx hb hr (fun t ht hW => r_endA (r := none) hAe hG hsh had0 ⟨rfl, h⟩ rfl ht) hG.2.2.2.2 dX8_init_86)
