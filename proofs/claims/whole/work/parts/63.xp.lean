def wX1_putTook (S : GS) (k0 : Nat) (x1 : Nat) (Q : GS → Prop) : Prop :=
  k0 < gN S ∧ gK S k0 = 1 ∧ x1 < gN S ∧ gK S x1 = 6 ∧ wX6_addDecimal S x1 (gX S k0 8) (fun S5 => gSh S5 S → wX6_addWord S5 x1 34 (fun S11 => gSh S11 S5 → Q S11))
set_option maxHeartbeats 4000000 in
set_option maxRecDepth 100000 in
theorem tX1_putTook (l : Launch) (S : GS) (k0 : Nat) (x1 : Nat) (Q : GS → Prop) (h : wX1_putTook S k0 x1 Q) : CZ l yX1_putTook wsX1_putTook 5 S (gA [vR (some k0), vR (some x1)]) (fun r S9 => r = none ∧ Q S9) := by
  refine CZ.ofW (cc := cX1_putTook) (maxL := 2) (ret := none) RX1 (by decide) rfl rfl (fun _ _ _ => Nat.le_of_ble_eq_true rfl) ?_
  intro p e s m args below meth c D Y za zv ad A ls hAe hx hb hr hml hts hown hlocks hK hZ hA hG hl
  obtain ⟨S0, hS0⟩ : ∃ z : GS, z = S := ⟨_, rfl⟩
  rw [← hS0] at hAe
  rw [← hS0]
  have hin1 : ∀ w ∈ wsX10, w ∈ wsX1_putTook := by decide +kernel
  have lk_41 := hts (.fieldLink RX1 41 "PauseLog$Entry" "took" "I") (by decide +kernel)
  have hl : lv_has ls 2 [(0, .ref (ad k0)), (1, .ref (ad x1))] := hl
  have hsh : gSh S S0 := by rw [hS0]; exact gSh.rf S
  obtain ⟨H, eH⟩ : ∃ z : Heap, z = s.heap := ⟨_, rfl⟩
  obtain ⟨locs, eL⟩ : ∃ z : List Loc, z = [] := ⟨_, rfl⟩
  have hG : gS D Y ad A s.heap S H locs := by rw [eH, eL]; exact hG
  suffices hgoal : W p l e (rmD 5) s m args below meth c H locs 0 0 (MQ below (gE D Y za ad S0 s.heap.size (fun r S9 => r = none ∧ Q S9)) args s 0 0 A) (F0 m 0 ls []) by rw [eH, eL] at hgoal; exact hgoal
  unfold wX1_putTook at h
  refine lv_aload_n hx hb dX1_putTook_0 rfl (lv_at hl 1 rfl) ?_
  refine lv_aload_n hx hb dX1_putTook_1 rfl (lv_at hl 0 rfl) ?_
  obtain ⟨hk1, hq2, h⟩ := h
  refine g_get (ci := 1) (C := RX1) (T := TX1) (N := 9) hx hb hts hin1 hown hK hG hk1 (cell_1 hq2) rfl 8 (by decide) lk_41 (fun _ h9 => h9) (v := .int (gX S k0 8)) rfl dX1_putTook_2 ?_
  obtain ⟨hk3, hq4, h⟩ := h
  refine r_callV (za := za) (k := x1) (ci := 6) (C := RX6) (T := TX6) (N := 2) (As := [vI (gX S k0 8)]) (rest := []) (tX6_addDecimal l S x1 (gX S k0 8) _ h) ⟨hx, hb, hml, hown, hts⟩ (cwV 1 hts gX1_putTook_X6_addDecimal rfl rfl rfl (by decide +kernel) ⟨by decide, by decide⟩) hK hG hA hk3 (cell_6 hq4) rfl rfl hl.1 rfl (Nat.le_of_ble_eq_true rfl) ⟨Nat.zero_le _, Nat.zero_le _⟩ dX1_putTook_5 (fun r_9 S5 H locs hp hs_S5 hG => ?_)
  obtain ⟨rfl, h⟩ := hp
  have h := h hs_S5
  refine W.eq (g2 := F0 m 8 ls []) rfl ?_
  have hsh := hs_S5.tr hsh
  have hk7 := hs_S5.lt hk1
  have hq8 := hs_S5.kd hq2
  have hk9 := hs_S5.lt hk3
  have hq10 := hs_S5.kd hq4
  refine lv_aload_n hx hb dX1_putTook_8 rfl (lv_at hl 1 rfl) ?_
  refine va_ldcS hx hb hown (hZ.2.2.2.1 34 (by decide)) dX1_putTook_9 ?_
  refine z_callV (As := [.ref (za 34)]) (rest := []) (tX6_addWord l S5 x1 34 _ h) rfl ⟨hx, hb, hml, hown, hts⟩ (cwV 1 hts gX1_putTook_X6_addWord rfl rfl rfl (by decide +kernel) ⟨by decide, by decide⟩) hK hZ hG hA (va_recv hK hG.1 (ci := 6) (q := (RX6, TX6, 2)) rfl (wl_get hk9 (cell_6 hq10))) rfl hl.1 rfl (Nat.le_of_ble_eq_true rfl) ⟨Nat.zero_le _, Nat.zero_le _⟩ dX1_putTook_11 (fun r_9 S11 H locs hp hs_S11 hG => ?_)
  obtain ⟨rfl, h⟩ := hp
  have h := h hs_S11
  refine W.eq (g2 := F0 m 14 ls []) rfl ?_
  have hsh := hs_S11.tr hsh
  have hk13 := hs_S11.lt hk7
  have hq14 := hs_S11.kd hq8
  have hk15 := hs_S11.lt hk9
  have hq16 := hs_S11.kd hq10
  exact W.vret hx hb hr (fun t ht hW => r_end (r := none) hAe hG hsh ⟨rfl, h⟩ rfl ht) hG.2.2.2.2 dX1_putTook_14
def wX1_putSizes (S : GS) (k0 : Nat) (x1 : Nat) (Q : GS → Prop) : Prop :=
  k0 < gN S ∧ gK S k0 = 1 ∧ x1 < gN S ∧ gK S x1 = 6 ∧ wX6_addSize S x1 (gX S k0 5) (fun S5 => gSh S5 S → wX6_addWord S5 x1 33 (fun S11 => gSh S11 S5 → wX6_addSize S11 x1 (gX S11 k0 6) (fun S17 => gSh S17 S11 → Q S17)))
set_option maxHeartbeats 4000000 in
set_option maxRecDepth 100000 in
theorem tX1_putSizes (l : Launch) (S : GS) (k0 : Nat) (x1 : Nat) (Q : GS → Prop) (h : wX1_putSizes S k0 x1 Q) : CZ l yX1_putSizes wsX1_putSizes 5 S (gA [vR (some k0), vR (some x1)]) (fun r S9 => r = none ∧ Q S9) := by
  refine CZ.ofW (cc := cX1_putSizes) (maxL := 2) (ret := none) RX1 (by decide) rfl rfl (fun _ _ _ => Nat.le_of_ble_eq_true rfl) ?_
  intro p e s m args below meth c D Y za zv ad A ls hAe hx hb hr hml hts hown hlocks hK hZ hA hG hl
  obtain ⟨S0, hS0⟩ : ∃ z : GS, z = S := ⟨_, rfl⟩
  rw [← hS0] at hAe
  rw [← hS0]
  have hin1 : ∀ w ∈ wsX10, w ∈ wsX1_putSizes := by decide +kernel
  have lk_28 := hts (.fieldLink RX1 28 "PauseLog$Entry" "before" "I") (by decide +kernel)
  have lk_35 := hts (.fieldLink RX1 35 "PauseLog$Entry" "after" "I") (by decide +kernel)
  have hl : lv_has ls 2 [(0, .ref (ad k0)), (1, .ref (ad x1))] := hl
  have hsh : gSh S S0 := by rw [hS0]; exact gSh.rf S
  obtain ⟨H, eH⟩ : ∃ z : Heap, z = s.heap := ⟨_, rfl⟩
  obtain ⟨locs, eL⟩ : ∃ z : List Loc, z = [] := ⟨_, rfl⟩
  have hG : gS D Y ad A s.heap S H locs := by rw [eH, eL]; exact hG
  suffices hgoal : W p l e (rmD 5) s m args below meth c H locs 0 0 (MQ below (gE D Y za ad S0 s.heap.size (fun r S9 => r = none ∧ Q S9)) args s 0 0 A) (F0 m 0 ls []) by rw [eH, eL] at hgoal; exact hgoal
  unfold wX1_putSizes at h
  refine lv_aload_n hx hb dX1_putSizes_0 rfl (lv_at hl 1 rfl) ?_
  refine lv_aload_n hx hb dX1_putSizes_1 rfl (lv_at hl 0 rfl) ?_
  obtain ⟨hk1, hq2, h⟩ := h
  refine g_get (ci := 1) (C := RX1) (T := TX1) (N := 9) hx hb hts hin1 hown hK hG hk1 (cell_1 hq2) rfl 5 (by decide) lk_28 (fun _ h9 => h9) (v := .int (gX S k0 5)) rfl dX1_putSizes_2 ?_
  obtain ⟨hk3, hq4, h⟩ := h
  refine r_callV (za := za) (k := x1) (ci := 6) (C := RX6) (T := TX6) (N := 2) (As := [vI (gX S k0 5)]) (rest := []) (tX6_addSize l S x1 (gX S k0 5) _ h) ⟨hx, hb, hml, hown, hts⟩ (cwV 1 hts gX1_putSizes_X6_addSize rfl rfl rfl (by decide +kernel) ⟨by decide, by decide⟩) hK hG hA hk3 (cell_6 hq4) rfl rfl hl.1 rfl (Nat.le_of_ble_eq_true rfl) ⟨Nat.zero_le _, Nat.zero_le _⟩ dX1_putSizes_5 (fun r_9 S5 H locs hp hs_S5 hG => ?_)
  obtain ⟨rfl, h⟩ := hp
  have h := h hs_S5
  refine W.eq (g2 := F0 m 8 ls []) rfl ?_
  have hsh := hs_S5.tr hsh
  have hk7 := hs_S5.lt hk1
  have hq8 := hs_S5.kd hq2
  have hk9 := hs_S5.lt hk3
  have hq10 := hs_S5.kd hq4
  refine lv_aload_n hx hb dX1_putSizes_8 rfl (lv_at hl 1 rfl) ?_
  refine va_ldcS hx hb hown (hZ.2.2.2.1 33 (by decide)) dX1_putSizes_9 ?_
  refine z_callV (As := [.ref (za 33)]) (rest := []) (tX6_addWord l S5 x1 33 _ h) rfl ⟨hx, hb, hml, hown, hts⟩ (cwV 1 hts gX1_putSizes_X6_addWord rfl rfl rfl (by decide +kernel) ⟨by decide, by decide⟩) hK hZ hG hA (va_recv hK hG.1 (ci := 6) (q := (RX6, TX6, 2)) rfl (wl_get hk9 (cell_6 hq10))) rfl hl.1 rfl (Nat.le_of_ble_eq_true rfl) ⟨Nat.zero_le _, Nat.zero_le _⟩ dX1_putSizes_11 (fun r_9 S11 H locs hp hs_S11 hG => ?_)
  obtain ⟨rfl, h⟩ := hp
  have h := h hs_S11
  refine W.eq (g2 := F0 m 14 ls []) rfl ?_
  have hsh := hs_S11.tr hsh
  have hk13 := hs_S11.lt hk7
  have hq14 := hs_S11.kd hq8
  have hk15 := hs_S11.lt hk9
  have hq16 := hs_S11.kd hq10
  refine lv_aload_n hx hb dX1_putSizes_14 rfl (lv_at hl 1 rfl) ?_
  refine lv_aload_n hx hb dX1_putSizes_15 rfl (lv_at hl 0 rfl) ?_
  refine g_get (ci := 1) (C := RX1) (T := TX1) (N := 9) hx hb hts hin1 hown hK hG hk13 (cell_1 hq14) rfl 6 (by decide) lk_35 (fun _ h9 => h9) (v := .int (gX S11 k0 6)) rfl dX1_putSizes_16 ?_
  refine r_callV (za := za) (k := x1) (ci := 6) (C := RX6) (T := TX6) (N := 2) (As := [vI (gX S11 k0 6)]) (rest := []) (tX6_addSize l S11 x1 (gX S11 k0 6) _ h) ⟨hx, hb, hml, hown, hts⟩ (cwV 1 hts gX1_putSizes_X6_addSize rfl rfl rfl (by decide +kernel) ⟨by decide, by decide⟩) hK hG hA hk15 (cell_6 hq16) rfl rfl hl.1 rfl (Nat.le_of_ble_eq_true rfl) ⟨Nat.zero_le _, Nat.zero_le _⟩ dX1_putSizes_19 (fun r_9 S17 H locs hp hs_S17 hG => ?_)
  obtain ⟨rfl, h⟩ := hp
  have h := h hs_S17
  refine W.eq (g2 := F0 m 22 ls []) rfl ?_
  have hsh := hs_S17.tr hsh
  have hk19 := hs_S17.lt hk13
  have hq20 := hs_S17.kd hq14
  have hk21 := hs_S17.lt hk15
  have hq22 := hs_S17.kd hq16
  exact W.vret hx hb hr (fun t ht hW => r_end (r := none) hAe hG hsh ⟨rfl, h⟩ rfl ht) hG.2.2.2.2 dX1_putSizes_22
def wX1_putPause_84 (Q : GS → Prop) (k0 : Nat)  (S : GS) : Prop :=
  Q S
def wX1_putPause (S : GS) (k0 : Nat) (x1 : Nat) (Q : GS → Prop) : Prop :=
  x1 < gN S ∧ gK S x1 = 6 ∧ wX6_addWord S x1 28 (fun S3 => gSh S3 S → k0 < gN S3 ∧ gK S3 k0 = 1 ∧ wX8_kindWord S3 (gX S3 k0 1) (fun u10 S9 => gSh S9 S3 → wX6_addWord S9 x1 u10 (fun S15 => gSh S15 S9 → wX6_addWord S15 x1 29 (fun S21 => gSh S21 S15 → wX8_causeWord S21 (gX S21 k0 2) (fun u28 S27 => gSh S27 S21 → wX6_addWord S27 x1 u28 (fun S33 => gSh S33 S27 → wX6_addWord S33 x1 30 (fun S39 => gSh S39 S33 → (¬ (gX S39 k0 0) = 1 → wX1_putPause_84 Q k0  S39) ∧ ((gX S39 k0 0) = 1 → wX6_addWord S39 x1 31 (fun S45 => gSh S45 S39 → wX1_putSizes S45 k0 x1 (fun S51 => gSh S51 S45 → wX6_addWord S51 x1 32 (fun S57 => gSh S57 S51 → wX6_addSize S57 x1 (gX S57 k0 7) (fun S63 => gSh S63 S57 → wX6_addWord S63 x1 22 (fun S69 => gSh S69 S63 → wX1_putTook S69 k0 x1 (fun S75 => gSh S75 S69 → wX1_putPause_84 Q k0  S75))))))))))))))
set_option maxHeartbeats 4000000 in
set_option maxRecDepth 100000 in
theorem tX1_putPause (l : Launch) (S : GS) (k0 : Nat) (x1 : Nat) (Q : GS → Prop) (h : wX1_putPause S k0 x1 Q) : CZ l yX1_putPause wsX1_putPause 6 S (gA [vR (some k0), vR (some x1)]) (fun r S9 => r = none ∧ Q S9) := by
  refine CZ.ofW (cc := cX1_putPause) (maxL := 2) (ret := none) RX1 (by decide) rfl rfl (fun _ _ _ => Nat.le_of_ble_eq_true rfl) ?_
  intro p e s m args below meth c D Y za zv ad A ls hAe hx hb hr hml hts hown hlocks hK hZ hA hG hl
  obtain ⟨S0, hS0⟩ : ∃ z : GS, z = S := ⟨_, rfl⟩
  rw [← hS0] at hAe
  rw [← hS0]
  have hin1 : ∀ w ∈ wsX10, w ∈ wsX1_putPause := by decide +kernel
  have lk_15 := hts (.fieldLink RX1 15 "PauseLog$Entry" "kind" "I") (by decide +kernel)
  have lk_18 := hts (.fieldLink RX1 18 "PauseLog$Entry" "cause" "I") (by decide +kernel)
  have lk_9 := hts (.fieldLink RX1 9 "PauseLog$Entry" "shape" "I") (by decide +kernel)
  have lk_38 := hts (.fieldLink RX1 38 "PauseLog$Entry" "capacity" "I") (by decide +kernel)
  have b_84 : ∀   (S : GS) (H : Heap) (locs : List Loc) (ls : Array Slot), wX1_putPause_84 Q k0  S → gSh S S0 → gS D Y ad A s.heap S H locs → lv_has ls 2 [] → W p l e (rmD 6) s m args below meth c H locs 0 0 (MQ below (gE D Y za ad S0 s.heap.size (fun r S9 => r = none ∧ Q S9)) args s 0 0 A) (F0 m 84 ls []) := by
    intro   S H locs ls h hsh hG hl
    unfold wX1_putPause_84 at h
    exact W.vret hx hb hr (fun t ht hW => r_end (r := none) hAe hG hsh ⟨rfl, h⟩ rfl ht) hG.2.2.2.2 dX1_putPause_84
  have hl : lv_has ls 2 [(0, .ref (ad k0)), (1, .ref (ad x1))] := hl
  have hsh : gSh S S0 := by rw [hS0]; exact gSh.rf S
  obtain ⟨H, eH⟩ : ∃ z : Heap, z = s.heap := ⟨_, rfl⟩
  obtain ⟨locs, eL⟩ : ∃ z : List Loc, z = [] := ⟨_, rfl⟩
  have hG : gS D Y ad A s.heap S H locs := by rw [eH, eL]; exact hG
  suffices hgoal : W p l e (rmD 6) s m args below meth c H locs 0 0 (MQ below (gE D Y za ad S0 s.heap.size (fun r S9 => r = none ∧ Q S9)) args s 0 0 A) (F0 m 0 ls []) by rw [eH, eL] at hgoal; exact hgoal
  unfold wX1_putPause at h
  refine lv_aload_n hx hb dX1_putPause_0 rfl (lv_at hl 1 rfl) ?_
  refine va_ldcS hx hb hown (hZ.2.2.2.1 28 (by decide)) dX1_putPause_1 ?_
  obtain ⟨hk1, hq2, h⟩ := h
  refine z_callV (As := [.ref (za 28)]) (rest := []) (tX6_addWord l S x1 28 _ h) rfl ⟨hx, hb, hml, hown, hts⟩ (cwV 1 hts gX1_putPause_X6_addWord rfl rfl rfl (by decide +kernel) ⟨by decide, by decide⟩) hK hZ hG hA (va_recv hK hG.1 (ci := 6) (q := (RX6, TX6, 2)) rfl (wl_get hk1 (cell_6 hq2))) rfl hl.1 rfl (Nat.le_of_ble_eq_true rfl) ⟨Nat.zero_le _, Nat.zero_le _⟩ dX1_putPause_3 (fun r_9 S3 H locs hp hs_S3 hG => ?_)
  obtain ⟨rfl, h⟩ := hp
  have h := h hs_S3
  refine W.eq (g2 := F0 m 6 ls []) rfl ?_
  have hsh := hs_S3.tr hsh
  have hk5 := hs_S3.lt hk1
  have hq6 := hs_S3.kd hq2
  refine lv_aload_n hx hb dX1_putPause_6 rfl (lv_at hl 1 rfl) ?_
  refine lv_aload_n hx hb dX1_putPause_7 rfl (lv_at hl 0 rfl) ?_
  obtain ⟨hk7, hq8, h⟩ := h
  refine g_get (ci := 1) (C := RX1) (T := TX1) (N := 9) hx hb hts hin1 hown hK hG hk7 (cell_1 hq8) rfl 1 (by decide) lk_15 (fun _ h9 => h9) (v := .int (gX S3 k0 1)) rfl dX1_putPause_8 ?_
  refine z_callSN (As := [.int (gX S3 k0 1)]) (rest := [.ref (ad x1)]) (tX8_kindWord l S3 (gX S3 k0 1) _ h) rfl ⟨hx, hb, hml, hown, hts⟩ ⟨va_cnB 1 hts gX1_putPause_X8_kindWord_n89 rfl rfl rfl (hZ.2.2.2.2.1 (.methodLinkNest RX1 89 yX8_kindWord "PauseLog") (by decide +kernel)) (hts (.initialized RX8) (by decide +kernel)) (by decide +kernel) ⟨by decide, by decide⟩, hts (.static yX8_kindWord) (by decide +kernel), trivial⟩ hK hZ hG hA rfl hl.1 rfl (Nat.le_of_ble_eq_true rfl) ⟨Nat.zero_le _, Nat.zero_le _⟩ dX1_putPause_11 (fun r_9 S9 H locs hp hs_S9 hG => ?_)
  obtain ⟨u10, rfl, h⟩ := hp
  have h := h hs_S9
  refine W.eq (g2 := F0 m 14 ls [.ref (za u10), .ref (ad x1)]) rfl ?_
  have hsh := hs_S9.tr hsh
  have hk11 := hs_S9.lt hk5
  have hq12 := hs_S9.kd hq6
  have hk13 := hs_S9.lt hk7
  have hq14 := hs_S9.kd hq8
  refine z_callV (As := [.ref (za u10)]) (rest := []) (tX6_addWord l S9 x1 u10 _ h) rfl ⟨hx, hb, hml, hown, hts⟩ (cwV 1 hts gX1_putPause_X6_addWord rfl rfl rfl (by decide +kernel) ⟨by decide, by decide⟩) hK hZ hG hA (va_recv hK hG.1 (ci := 6) (q := (RX6, TX6, 2)) rfl (wl_get hk11 (cell_6 hq12))) rfl hl.1 rfl (Nat.le_of_ble_eq_true rfl) ⟨Nat.zero_le _, Nat.zero_le _⟩ dX1_putPause_14 (fun r_9 S15 H locs hp hs_S15 hG => ?_)
  obtain ⟨rfl, h⟩ := hp
  have h := h hs_S15
  refine W.eq (g2 := F0 m 17 ls []) rfl ?_
  have hsh := hs_S15.tr hsh
  have hk17 := hs_S15.lt hk11
  have hq18 := hs_S15.kd hq12
  have hk19 := hs_S15.lt hk13
  have hq20 := hs_S15.kd hq14
  refine lv_aload_n hx hb dX1_putPause_17 rfl (lv_at hl 1 rfl) ?_
  refine va_ldcS hx hb hown (hZ.2.2.2.1 29 (by decide)) dX1_putPause_18 ?_
  refine z_callV (As := [.ref (za 29)]) (rest := []) (tX6_addWord l S15 x1 29 _ h) rfl ⟨hx, hb, hml, hown, hts⟩ (cwV 1 hts gX1_putPause_X6_addWord rfl rfl rfl (by decide +kernel) ⟨by decide, by decide⟩) hK hZ hG hA (va_recv hK hG.1 (ci := 6) (q := (RX6, TX6, 2)) rfl (wl_get hk17 (cell_6 hq18))) rfl hl.1 rfl (Nat.le_of_ble_eq_true rfl) ⟨Nat.zero_le _, Nat.zero_le _⟩ dX1_putPause_20 (fun r_9 S21 H locs hp hs_S21 hG => ?_)
  obtain ⟨rfl, h⟩ := hp
  have h := h hs_S21
  refine W.eq (g2 := F0 m 23 ls []) rfl ?_
  have hsh := hs_S21.tr hsh
  have hk23 := hs_S21.lt hk17
  have hq24 := hs_S21.kd hq18
  have hk25 := hs_S21.lt hk19
  have hq26 := hs_S21.kd hq20
  refine lv_aload_n hx hb dX1_putPause_23 rfl (lv_at hl 1 rfl) ?_
  refine lv_aload_n hx hb dX1_putPause_24 rfl (lv_at hl 0 rfl) ?_
  refine g_get (ci := 1) (C := RX1) (T := TX1) (N := 9) hx hb hts hin1 hown hK hG hk25 (cell_1 hq26) rfl 2 (by decide) lk_18 (fun _ h9 => h9) (v := .int (gX S21 k0 2)) rfl dX1_putPause_25 ?_
  refine z_callSN (As := [.int (gX S21 k0 2)]) (rest := [.ref (ad x1)]) (tX8_causeWord l S21 (gX S21 k0 2) _ h) rfl ⟨hx, hb, hml, hown, hts⟩ ⟨va_cnB 1 hts gX1_putPause_X8_causeWord_n95 rfl rfl rfl (hZ.2.2.2.2.1 (.methodLinkNest RX1 95 yX8_causeWord "PauseLog") (by decide +kernel)) (hts (.initialized RX8) (by decide +kernel)) (by decide +kernel) ⟨by decide, by decide⟩, hts (.static yX8_causeWord) (by decide +kernel), trivial⟩ hK hZ hG hA rfl hl.1 rfl (Nat.le_of_ble_eq_true rfl) ⟨Nat.zero_le _, Nat.zero_le _⟩ dX1_putPause_28 (fun r_9 S27 H locs hp hs_S27 hG => ?_)
  obtain ⟨u28, rfl, h⟩ := hp
  have h := h hs_S27
  refine W.eq (g2 := F0 m 31 ls [.ref (za u28), .ref (ad x1)]) rfl ?_
  have hsh := hs_S27.tr hsh
  have hk29 := hs_S27.lt hk23
  have hq30 := hs_S27.kd hq24
  have hk31 := hs_S27.lt hk25
  have hq32 := hs_S27.kd hq26
  refine z_callV (As := [.ref (za u28)]) (rest := []) (tX6_addWord l S27 x1 u28 _ h) rfl ⟨hx, hb, hml, hown, hts⟩ (cwV 1 hts gX1_putPause_X6_addWord rfl rfl rfl (by decide +kernel) ⟨by decide, by decide⟩) hK hZ hG hA (va_recv hK hG.1 (ci := 6) (q := (RX6, TX6, 2)) rfl (wl_get hk29 (cell_6 hq30))) rfl hl.1 rfl (Nat.le_of_ble_eq_true rfl) ⟨Nat.zero_le _, Nat.zero_le _⟩ dX1_putPause_31 (fun r_9 S33 H locs hp hs_S33 hG => ?_)
  obtain ⟨rfl, h⟩ := hp
  have h := h hs_S33
  refine W.eq (g2 := F0 m 34 ls []) rfl ?_
  have hsh := hs_S33.tr hsh
  have hk35 := hs_S33.lt hk29
  have hq36 := hs_S33.kd hq30
  have hk37 := hs_S33.lt hk31
  have hq38 := hs_S33.kd hq32
  refine lv_aload_n hx hb dX1_putPause_34 rfl (lv_at hl 1 rfl) ?_
  refine va_ldcS hx hb hown (hZ.2.2.2.1 30 (by decide)) dX1_putPause_35 ?_
  refine z_callV (As := [.ref (za 30)]) (rest := []) (tX6_addWord l S33 x1 30 _ h) rfl ⟨hx, hb, hml, hown, hts⟩ (cwV 1 hts gX1_putPause_X6_addWord rfl rfl rfl (by decide +kernel) ⟨by decide, by decide⟩) hK hZ hG hA (va_recv hK hG.1 (ci := 6) (q := (RX6, TX6, 2)) rfl (wl_get hk35 (cell_6 hq36))) rfl hl.1 rfl (Nat.le_of_ble_eq_true rfl) ⟨Nat.zero_le _, Nat.zero_le _⟩ dX1_putPause_37 (fun r_9 S39 H locs hp hs_S39 hG => ?_)
  obtain ⟨rfl, h⟩ := hp
  have h := h hs_S39
  refine W.eq (g2 := F0 m 40 ls []) rfl ?_
  have hsh := hs_S39.tr hsh
  have hk41 := hs_S39.lt hk35
  have hq42 := hs_S39.kd hq36
  have hk43 := hs_S39.lt hk37
  have hq44 := hs_S39.kd hq38
  refine lv_aload_n hx hb dX1_putPause_40 rfl (lv_at hl 0 rfl) ?_
  refine g_get (ci := 1) (C := RX1) (T := TX1) (N := 9) hx hb hts hin1 hown hK hG hk43 (cell_1 hq44) rfl 0 (by decide) lk_9 (fun _ h9 => h9) (v := .int (gX S39 k0 0)) rfl dX1_putPause_41 ?_
  refine lv_iconst (v := 1) hx hb dX1_putPause_44 (by decide) ?_
  refine lv_icmp_ne (tgt := 84) hx hb dX1_putPause_45 (by decide) (fun c_45 => ?_) (fun c_45 => ?_)
  · have h := h.1 c_45
    exact b_84  S39 H locs ls h hsh hG (lv_sub hl [] rfl)
  · have h := h.2 c_45
    refine lv_aload_n hx hb dX1_putPause_48 rfl (lv_at hl 1 rfl) ?_
    refine va_ldcS hx hb hown (hZ.2.2.2.1 31 (by decide)) dX1_putPause_49 ?_
    refine z_callV (As := [.ref (za 31)]) (rest := []) (tX6_addWord l S39 x1 31 _ h) rfl ⟨hx, hb, hml, hown, hts⟩ (cwV 1 hts gX1_putPause_X6_addWord rfl rfl rfl (by decide +kernel) ⟨by decide, by decide⟩) hK hZ hG hA (va_recv hK hG.1 (ci := 6) (q := (RX6, TX6, 2)) rfl (wl_get hk41 (cell_6 hq42))) rfl hl.1 rfl (Nat.le_of_ble_eq_true rfl) ⟨Nat.zero_le _, Nat.zero_le _⟩ dX1_putPause_51 (fun r_9 S45 H locs hp hs_S45 hG => ?_)
    obtain ⟨rfl, h⟩ := hp
    have h := h hs_S45
    refine W.eq (g2 := F0 m 54 ls []) rfl ?_
    have hsh := hs_S45.tr hsh
    have hk47 := hs_S45.lt hk41
    have hq48 := hs_S45.kd hq42
    have hk49 := hs_S45.lt hk43
    have hq50 := hs_S45.kd hq44
    refine lv_aload_n hx hb dX1_putPause_54 rfl (lv_at hl 0 rfl) ?_
    refine lv_aload_n hx hb dX1_putPause_55 rfl (lv_at hl 1 rfl) ?_
    refine z_callV (As := [.ref (ad x1)]) (rest := []) (tX1_putSizes l S45 k0 x1 _ h) rfl ⟨hx, hb, hml, hown, hts⟩ (cwV 1 hts gX1_putPause_X1_putSizes rfl rfl rfl (by decide +kernel) ⟨by decide, by decide⟩) hK hZ hG hA (va_recv hK hG.1 (ci := 1) (q := (RX1, TX1, 9)) rfl (wl_get hk49 (cell_1 hq50))) rfl hl.1 rfl (Nat.le_of_ble_eq_true rfl) ⟨Nat.zero_le _, Nat.zero_le _⟩ dX1_putPause_56 (fun r_9 S51 H locs hp hs_S51 hG => ?_)
    obtain ⟨rfl, h⟩ := hp
    have h := h hs_S51
    refine W.eq (g2 := F0 m 59 ls []) rfl ?_
    have hsh := hs_S51.tr hsh
    have hk53 := hs_S51.lt hk47
    have hq54 := hs_S51.kd hq48
    have hk55 := hs_S51.lt hk49
    have hq56 := hs_S51.kd hq50
    refine lv_aload_n hx hb dX1_putPause_59 rfl (lv_at hl 1 rfl) ?_
    refine va_ldcS hx hb hown (hZ.2.2.2.1 32 (by decide)) dX1_putPause_60 ?_
    refine z_callV (As := [.ref (za 32)]) (rest := []) (tX6_addWord l S51 x1 32 _ h) rfl ⟨hx, hb, hml, hown, hts⟩ (cwV 1 hts gX1_putPause_X6_addWord rfl rfl rfl (by decide +kernel) ⟨by decide, by decide⟩) hK hZ hG hA (va_recv hK hG.1 (ci := 6) (q := (RX6, TX6, 2)) rfl (wl_get hk53 (cell_6 hq54))) rfl hl.1 rfl (Nat.le_of_ble_eq_true rfl) ⟨Nat.zero_le _, Nat.zero_le _⟩ dX1_putPause_62 (fun r_9 S57 H locs hp hs_S57 hG => ?_)
    obtain ⟨rfl, h⟩ := hp
    have h := h hs_S57
    refine W.eq (g2 := F0 m 65 ls []) rfl ?_
    have hsh := hs_S57.tr hsh
    have hk59 := hs_S57.lt hk53
    have hq60 := hs_S57.kd hq54
    have hk61 := hs_S57.lt hk55
    have hq62 := hs_S57.kd hq56
    refine lv_aload_n hx hb dX1_putPause_65 rfl (lv_at hl 1 rfl) ?_
    refine lv_aload_n hx hb dX1_putPause_66 rfl (lv_at hl 0 rfl) ?_
    refine g_get (ci := 1) (C := RX1) (T := TX1) (N := 9) hx hb hts hin1 hown hK hG hk61 (cell_1 hq62) rfl 7 (by decide) lk_38 (fun _ h9 => h9) (v := .int (gX S57 k0 7)) rfl dX1_putPause_67 ?_
    refine r_callV (za := za) (k := x1) (ci := 6) (C := RX6) (T := TX6) (N := 2) (As := [vI (gX S57 k0 7)]) (rest := []) (tX6_addSize l S57 x1 (gX S57 k0 7) _ h) ⟨hx, hb, hml, hown, hts⟩ (cwV 1 hts gX1_putPause_X6_addSize rfl rfl rfl (by decide +kernel) ⟨by decide, by decide⟩) hK hG hA hk59 (cell_6 hq60) rfl rfl hl.1 rfl (Nat.le_of_ble_eq_true rfl) ⟨Nat.zero_le _, Nat.zero_le _⟩ dX1_putPause_70 (fun r_9 S63 H locs hp hs_S63 hG => ?_)
    obtain ⟨rfl, h⟩ := hp
    have h := h hs_S63
    refine W.eq (g2 := F0 m 73 ls []) rfl ?_
    have hsh := hs_S63.tr hsh
    have hk65 := hs_S63.lt hk59
    have hq66 := hs_S63.kd hq60
    have hk67 := hs_S63.lt hk61
    have hq68 := hs_S63.kd hq62
    refine lv_aload_n hx hb dX1_putPause_73 rfl (lv_at hl 1 rfl) ?_
    refine va_ldcS hx hb hown (hZ.2.2.2.1 22 (by decide)) dX1_putPause_74 ?_
    refine z_callV (As := [.ref (za 22)]) (rest := []) (tX6_addWord l S63 x1 22 _ h) rfl ⟨hx, hb, hml, hown, hts⟩ (cwV 1 hts gX1_putPause_X6_addWord rfl rfl rfl (by decide +kernel) ⟨by decide, by decide⟩) hK hZ hG hA (va_recv hK hG.1 (ci := 6) (q := (RX6, TX6, 2)) rfl (wl_get hk65 (cell_6 hq66))) rfl hl.1 rfl (Nat.le_of_ble_eq_true rfl) ⟨Nat.zero_le _, Nat.zero_le _⟩ dX1_putPause_76 (fun r_9 S69 H locs hp hs_S69 hG => ?_)
    obtain ⟨rfl, h⟩ := hp
    have h := h hs_S69
    refine W.eq (g2 := F0 m 79 ls []) rfl ?_
    have hsh := hs_S69.tr hsh
    have hk71 := hs_S69.lt hk65
    have hq72 := hs_S69.kd hq66
    have hk73 := hs_S69.lt hk67
    have hq74 := hs_S69.kd hq68
    refine lv_aload_n hx hb dX1_putPause_79 rfl (lv_at hl 0 rfl) ?_
    refine lv_aload_n hx hb dX1_putPause_80 rfl (lv_at hl 1 rfl) ?_
    refine z_callV (As := [.ref (ad x1)]) (rest := []) (tX1_putTook l S69 k0 x1 _ h) rfl ⟨hx, hb, hml, hown, hts⟩ (cwV 1 hts gX1_putPause_X1_putTook rfl rfl rfl (by decide +kernel) ⟨by decide, by decide⟩) hK hZ hG hA (va_recv hK hG.1 (ci := 1) (q := (RX1, TX1, 9)) rfl (wl_get hk73 (cell_1 hq74))) rfl hl.1 rfl (Nat.le_of_ble_eq_true rfl) ⟨Nat.zero_le _, Nat.zero_le _⟩ dX1_putPause_81 (fun r_9 S75 H locs hp hs_S75 hG => ?_)
    obtain ⟨rfl, h⟩ := hp
    have h := h hs_S75
    refine W.eq (g2 := F0 m 84 ls []) rfl ?_
    have hsh := hs_S75.tr hsh
    have hk77 := hs_S75.lt hk71
    have hq78 := hs_S75.kd hq72
    have hk79 := hs_S75.lt hk73
    have hq80 := hs_S75.kd hq74
    exact b_84  S75 H locs ls h hsh hG (lv_sub hl [] rfl)
def wX1_putOn_141 (Q : GS → Prop) (k0 : Nat)  (S : GS) : Prop :=
  Q S
def wX1_putOn (S : GS) (k0 : Nat) (x1 : Nat) (Q : GS → Prop) : Prop :=
  x1 < gN S ∧ gK S x1 = 6 ∧ wX6_clear S x1  (fun S3 => gSh S3 S → wX6_addWord S3 x1 20 (fun S7 => gSh S7 S3 → k0 < gN S7 ∧ gK S7 k0 = 1 ∧ wX6_addDecimal S7 x1 (gX S7 k0 4) (fun S13 => gSh S13 S7 → wX6_addWord S13 x1 21 (fun S19 => gSh S19 S13 → wX6_addNumber S19 x1 (gX S19 k0 3) (fun S25 => gSh S25 S19 → wX6_addWord S25 x1 22 (fun S31 => gSh S31 S25 → ((gX S31 k0 0) = 2 → wX6_addWord S31 x1 23 (fun S37 => gSh S37 S31 → wX1_putSizes S37 k0 x1 (fun S43 => gSh S43 S37 → wX1_putOn_141 Q k0  S43))) ∧ ((gX S31 k0 0) = 3 → wX6_addWord S31 x1 24 (fun S49 => gSh S49 S31 → wX1_putSizes S49 k0 x1 (fun S55 => gSh S55 S49 → wX1_putOn_141 Q k0  S55))) ∧ ((gX S31 k0 0) = 4 → wX6_addWord S31 x1 25 (fun S61 => gSh S61 S31 → wX1_putOn_141 Q k0  S61)) ∧ ((gX S31 k0 0) = 5 → wX6_addWord S31 x1 26 (fun S67 => gSh S67 S31 → wX1_putTook S67 k0 x1 (fun S73 => gSh S73 S67 → wX1_putOn_141 Q k0  S73))) ∧ ((gX S31 k0 0) = 6 → wX6_addWord S31 x1 27 (fun S79 => gSh S79 S31 → wX1_putOn_141 Q k0  S79)) ∧ (¬ (gX S31 k0 0) = 2 → ¬ (gX S31 k0 0) = 3 → ¬ (gX S31 k0 0) = 4 → ¬ (gX S31 k0 0) = 5 → ¬ (gX S31 k0 0) = 6 → wX1_putPause S31 k0 x1 (fun S85 => gSh S85 S31 → wX1_putOn_141 Q k0  S85))))))))
set_option maxHeartbeats 4000000 in
set_option maxRecDepth 100000 in
theorem tX1_putOn (l : Launch) (S : GS) (k0 : Nat) (x1 : Nat) (Q : GS → Prop) (h : wX1_putOn S k0 x1 Q) : CZ l yX1_putOn wsX1_putOn 7 S (gA [vR (some k0), vR (some x1)]) (fun r S9 => r = none ∧ Q S9) := by
  refine CZ.ofW (cc := cX1_putOn) (maxL := 2) (ret := none) RX1 (by decide) rfl rfl (fun _ _ _ => Nat.le_of_ble_eq_true rfl) ?_
  intro p e s m args below meth c D Y za zv ad A ls hAe hx hb hr hml hts hown hlocks hK hZ hA hG hl
  obtain ⟨S0, hS0⟩ : ∃ z : GS, z = S := ⟨_, rfl⟩
  rw [← hS0] at hAe
  rw [← hS0]
  have hin1 : ∀ w ∈ wsX10, w ∈ wsX1_putOn := by decide +kernel
  have lk_24 := hts (.fieldLink RX1 24 "PauseLog$Entry" "time" "I") (by decide +kernel)
  have lk_21 := hts (.fieldLink RX1 21 "PauseLog$Entry" "id" "I") (by decide +kernel)
  have lk_9 := hts (.fieldLink RX1 9 "PauseLog$Entry" "shape" "I") (by decide +kernel)
  have b_141 : ∀   (S : GS) (H : Heap) (locs : List Loc) (ls : Array Slot), wX1_putOn_141 Q k0  S → gSh S S0 → gS D Y ad A s.heap S H locs → lv_has ls 2 [] → W p l e (rmD 7) s m args below meth c H locs 0 0 (MQ below (gE D Y za ad S0 s.heap.size (fun r S9 => r = none ∧ Q S9)) args s 0 0 A) (F0 m 141 ls []) := by
    intro   S H locs ls h hsh hG hl
    unfold wX1_putOn_141 at h
    exact W.vret hx hb hr (fun t ht hW => r_end (r := none) hAe hG hsh ⟨rfl, h⟩ rfl ht) hG.2.2.2.2 dX1_putOn_141
  have hl : lv_has ls 2 [(0, .ref (ad k0)), (1, .ref (ad x1))] := hl
  have hsh : gSh S S0 := by rw [hS0]; exact gSh.rf S
  obtain ⟨H, eH⟩ : ∃ z : Heap, z = s.heap := ⟨_, rfl⟩
  obtain ⟨locs, eL⟩ : ∃ z : List Loc, z = [] := ⟨_, rfl⟩
  have hG : gS D Y ad A s.heap S H locs := by rw [eH, eL]; exact hG
  suffices hgoal : W p l e (rmD 7) s m args below meth c H locs 0 0 (MQ below (gE D Y za ad S0 s.heap.size (fun r S9 => r = none ∧ Q S9)) args s 0 0 A) (F0 m 0 ls []) by rw [eH, eL] at hgoal; exact hgoal
  unfold wX1_putOn at h
  refine lv_aload_n hx hb dX1_putOn_0 rfl (lv_at hl 1 rfl) ?_
  obtain ⟨hk1, hq2, h⟩ := h
  refine r_callV (za := za) (k := x1) (ci := 6) (C := RX6) (T := TX6) (N := 2) (As := []) (rest := []) (tX6_clear l S x1  _ h) ⟨hx, hb, hml, hown, hts⟩ (cwV 0 hts gX1_putOn_X6_clear rfl rfl rfl (by decide +kernel) ⟨by decide, by decide⟩) hK hG hA hk1 (cell_6 hq2) rfl rfl hl.1 rfl (Nat.le_of_ble_eq_true rfl) ⟨Nat.zero_le _, Nat.zero_le _⟩ dX1_putOn_1 (fun r_9 S3 H locs hp hs_S3 hG => ?_)
  obtain ⟨rfl, h⟩ := hp
  have h := h hs_S3
  refine W.eq (g2 := F0 m 4 ls []) rfl ?_
  have hsh := hs_S3.tr hsh
  have hk5 := hs_S3.lt hk1
  have hq6 := hs_S3.kd hq2
  refine lv_aload_n hx hb dX1_putOn_4 rfl (lv_at hl 1 rfl) ?_
  refine va_ldcS hx hb hown (hZ.2.2.2.1 20 (by decide)) dX1_putOn_5 ?_
  refine z_callV (As := [.ref (za 20)]) (rest := []) (tX6_addWord l S3 x1 20 _ h) rfl ⟨hx, hb, hml, hown, hts⟩ (cwV 1 hts gX1_putOn_X6_addWord rfl rfl rfl (by decide +kernel) ⟨by decide, by decide⟩) hK hZ hG hA (va_recv hK hG.1 (ci := 6) (q := (RX6, TX6, 2)) rfl (wl_get hk5 (cell_6 hq6))) rfl hl.1 rfl (Nat.le_of_ble_eq_true rfl) ⟨Nat.zero_le _, Nat.zero_le _⟩ dX1_putOn_7 (fun r_9 S7 H locs hp hs_S7 hG => ?_)
  obtain ⟨rfl, h⟩ := hp
  have h := h hs_S7
  refine W.eq (g2 := F0 m 10 ls []) rfl ?_
  have hsh := hs_S7.tr hsh
  have hk9 := hs_S7.lt hk5
  have hq10 := hs_S7.kd hq6
  refine lv_aload_n hx hb dX1_putOn_10 rfl (lv_at hl 1 rfl) ?_
  refine lv_aload_n hx hb dX1_putOn_11 rfl (lv_at hl 0 rfl) ?_
  obtain ⟨hk11, hq12, h⟩ := h
  refine g_get (ci := 1) (C := RX1) (T := TX1) (N := 9) hx hb hts hin1 hown hK hG hk11 (cell_1 hq12) rfl 4 (by decide) lk_24 (fun _ h9 => h9) (v := .int (gX S7 k0 4)) rfl dX1_putOn_12 ?_
  refine r_callV (za := za) (k := x1) (ci := 6) (C := RX6) (T := TX6) (N := 2) (As := [vI (gX S7 k0 4)]) (rest := []) (tX6_addDecimal l S7 x1 (gX S7 k0 4) _ h) ⟨hx, hb, hml, hown, hts⟩ (cwV 1 hts gX1_putOn_X6_addDecimal rfl rfl rfl (by decide +kernel) ⟨by decide, by decide⟩) hK hG hA hk9 (cell_6 hq10) rfl rfl hl.1 rfl (Nat.le_of_ble_eq_true rfl) ⟨Nat.zero_le _, Nat.zero_le _⟩ dX1_putOn_15 (fun r_9 S13 H locs hp hs_S13 hG => ?_)
  obtain ⟨rfl, h⟩ := hp
  have h := h hs_S13
  refine W.eq (g2 := F0 m 18 ls []) rfl ?_
  have hsh := hs_S13.tr hsh
  have hk15 := hs_S13.lt hk9
  have hq16 := hs_S13.kd hq10
  have hk17 := hs_S13.lt hk11
  have hq18 := hs_S13.kd hq12
  refine lv_aload_n hx hb dX1_putOn_18 rfl (lv_at hl 1 rfl) ?_
  refine va_ldcS hx hb hown (hZ.2.2.2.1 21 (by decide)) dX1_putOn_19 ?_
  refine z_callV (As := [.ref (za 21)]) (rest := []) (tX6_addWord l S13 x1 21 _ h) rfl ⟨hx, hb, hml, hown, hts⟩ (cwV 1 hts gX1_putOn_X6_addWord rfl rfl rfl (by decide +kernel) ⟨by decide, by decide⟩) hK hZ hG hA (va_recv hK hG.1 (ci := 6) (q := (RX6, TX6, 2)) rfl (wl_get hk15 (cell_6 hq16))) rfl hl.1 rfl (Nat.le_of_ble_eq_true rfl) ⟨Nat.zero_le _, Nat.zero_le _⟩ dX1_putOn_21 (fun r_9 S19 H locs hp hs_S19 hG => ?_)
  obtain ⟨rfl, h⟩ := hp
  have h := h hs_S19
  refine W.eq (g2 := F0 m 24 ls []) rfl ?_
  have hsh := hs_S19.tr hsh
  have hk21 := hs_S19.lt hk15
  have hq22 := hs_S19.kd hq16
  have hk23 := hs_S19.lt hk17
  have hq24 := hs_S19.kd hq18
  refine lv_aload_n hx hb dX1_putOn_24 rfl (lv_at hl 1 rfl) ?_
  refine lv_aload_n hx hb dX1_putOn_25 rfl (lv_at hl 0 rfl) ?_
  refine g_get (ci := 1) (C := RX1) (T := TX1) (N := 9) hx hb hts hin1 hown hK hG hk23 (cell_1 hq24) rfl 3 (by decide) lk_21 (fun _ h9 => h9) (v := .int (gX S19 k0 3)) rfl dX1_putOn_26 ?_
  refine r_callV (za := za) (k := x1) (ci := 6) (C := RX6) (T := TX6) (N := 2) (As := [vI (gX S19 k0 3)]) (rest := []) (tX6_addNumber l S19 x1 (gX S19 k0 3) _ h) ⟨hx, hb, hml, hown, hts⟩ (cwV 1 hts gX1_putOn_X6_addNumber rfl rfl rfl (by decide +kernel) ⟨by decide, by decide⟩) hK hG hA hk21 (cell_6 hq22) rfl rfl hl.1 rfl (Nat.le_of_ble_eq_true rfl) ⟨Nat.zero_le _, Nat.zero_le _⟩ dX1_putOn_29 (fun r_9 S25 H locs hp hs_S25 hG => ?_)
  obtain ⟨rfl, h⟩ := hp
  have h := h hs_S25
  refine W.eq (g2 := F0 m 32 ls []) rfl ?_
  have hsh := hs_S25.tr hsh
  have hk27 := hs_S25.lt hk21
  have hq28 := hs_S25.kd hq22
  have hk29 := hs_S25.lt hk23
  have hq30 := hs_S25.kd hq24
  refine lv_aload_n hx hb dX1_putOn_32 rfl (lv_at hl 1 rfl) ?_
  refine va_ldcS hx hb hown (hZ.2.2.2.1 22 (by decide)) dX1_putOn_33 ?_
  refine z_callV (As := [.ref (za 22)]) (rest := []) (tX6_addWord l S25 x1 22 _ h) rfl ⟨hx, hb, hml, hown, hts⟩ (cwV 1 hts gX1_putOn_X6_addWord rfl rfl rfl (by decide +kernel) ⟨by decide, by decide⟩) hK hZ hG hA (va_recv hK hG.1 (ci := 6) (q := (RX6, TX6, 2)) rfl (wl_get hk27 (cell_6 hq28))) rfl hl.1 rfl (Nat.le_of_ble_eq_true rfl) ⟨Nat.zero_le _, Nat.zero_le _⟩ dX1_putOn_35 (fun r_9 S31 H locs hp hs_S31 hG => ?_)
  obtain ⟨rfl, h⟩ := hp
  have h := h hs_S31
  refine W.eq (g2 := F0 m 38 ls []) rfl ?_
  have hsh := hs_S31.tr hsh
  have hk33 := hs_S31.lt hk27
  have hq34 := hs_S31.kd hq28
  have hk35 := hs_S31.lt hk29
  have hq36 := hs_S31.kd hq30
  refine lv_aload_n hx hb dX1_putOn_38 rfl (lv_at hl 0 rfl) ?_
  refine g_get (ci := 1) (C := RX1) (T := TX1) (N := 9) hx hb hts hin1 hown hK hG hk35 (cell_1 hq36) rfl 0 (by decide) lk_9 (fun _ h9 => h9) (v := .int (gX S31 k0 0)) rfl dX1_putOn_39 ?_
  by_cases q_42_0 : (gX S31 k0 0) = 2
  · have h := h.1 q_42_0
    refine lv_tableIn (tgt := 76) hx hb dX1_putOn_42 (by rw [q_42_0]; decide) (by rw [q_42_0]; decide) (by rw [q_42_0]; rfl) (by decide) ?_
    refine lv_aload_n hx hb dX1_putOn_76 rfl (lv_at hl 1 rfl) ?_
    refine va_ldcS hx hb hown (hZ.2.2.2.1 23 (by decide)) dX1_putOn_77 ?_
    refine z_callV (As := [.ref (za 23)]) (rest := []) (tX6_addWord l S31 x1 23 _ h) rfl ⟨hx, hb, hml, hown, hts⟩ (cwV 1 hts gX1_putOn_X6_addWord rfl rfl rfl (by decide +kernel) ⟨by decide, by decide⟩) hK hZ hG hA (va_recv hK hG.1 (ci := 6) (q := (RX6, TX6, 2)) rfl (wl_get hk33 (cell_6 hq34))) rfl hl.1 rfl (Nat.le_of_ble_eq_true rfl) ⟨Nat.zero_le _, Nat.zero_le _⟩ dX1_putOn_79 (fun r_9 S37 H locs hp hs_S37 hG => ?_)
    obtain ⟨rfl, h⟩ := hp
    have h := h hs_S37
    refine W.eq (g2 := F0 m 82 ls []) rfl ?_
    have hsh := hs_S37.tr hsh
    have hk39 := hs_S37.lt hk33
    have hq40 := hs_S37.kd hq34
    have hk41 := hs_S37.lt hk35
    have hq42 := hs_S37.kd hq36
    refine lv_aload_n hx hb dX1_putOn_82 rfl (lv_at hl 0 rfl) ?_
    refine lv_aload_n hx hb dX1_putOn_83 rfl (lv_at hl 1 rfl) ?_
    refine z_callV (As := [.ref (ad x1)]) (rest := []) (tX1_putSizes l S37 k0 x1 _ h) rfl ⟨hx, hb, hml, hown, hts⟩ (cwV 1 hts gX1_putOn_X1_putSizes rfl rfl rfl (by decide +kernel) ⟨by decide, by decide⟩) hK hZ hG hA (va_recv hK hG.1 (ci := 1) (q := (RX1, TX1, 9)) rfl (wl_get hk41 (cell_1 hq42))) rfl hl.1 rfl (Nat.le_of_ble_eq_true rfl) ⟨Nat.zero_le _, Nat.zero_le _⟩ dX1_putOn_84 (fun r_9 S43 H locs hp hs_S43 hG => ?_)
    obtain ⟨rfl, h⟩ := hp
    have h := h hs_S43
    refine W.eq (g2 := F0 m 87 ls []) rfl ?_
    have hsh := hs_S43.tr hsh
    have hk45 := hs_S43.lt hk39
    have hq46 := hs_S43.kd hq40
    have hk47 := hs_S43.lt hk41
    have hq48 := hs_S43.kd hq42
    refine lv_goto (tgt := 141) hx hb dX1_putOn_87 (by decide) ?_
    exact b_141  S43 H locs ls h hsh hG (lv_sub hl [] rfl)
  by_cases q_42_1 : (gX S31 k0 0) = 3
  · have h := h.2.1 q_42_1
    refine lv_tableIn (tgt := 90) hx hb dX1_putOn_42 (by rw [q_42_1]; decide) (by rw [q_42_1]; decide) (by rw [q_42_1]; rfl) (by decide) ?_
    refine lv_aload_n hx hb dX1_putOn_90 rfl (lv_at hl 1 rfl) ?_
    refine va_ldcS hx hb hown (hZ.2.2.2.1 24 (by decide)) dX1_putOn_91 ?_
    refine z_callV (As := [.ref (za 24)]) (rest := []) (tX6_addWord l S31 x1 24 _ h) rfl ⟨hx, hb, hml, hown, hts⟩ (cwV 1 hts gX1_putOn_X6_addWord rfl rfl rfl (by decide +kernel) ⟨by decide, by decide⟩) hK hZ hG hA (va_recv hK hG.1 (ci := 6) (q := (RX6, TX6, 2)) rfl (wl_get hk33 (cell_6 hq34))) rfl hl.1 rfl (Nat.le_of_ble_eq_true rfl) ⟨Nat.zero_le _, Nat.zero_le _⟩ dX1_putOn_93 (fun r_9 S49 H locs hp hs_S49 hG => ?_)
    obtain ⟨rfl, h⟩ := hp
    have h := h hs_S49
    refine W.eq (g2 := F0 m 96 ls []) rfl ?_
    have hsh := hs_S49.tr hsh
    have hk51 := hs_S49.lt hk33
    have hq52 := hs_S49.kd hq34
    have hk53 := hs_S49.lt hk35
    have hq54 := hs_S49.kd hq36
    refine lv_aload_n hx hb dX1_putOn_96 rfl (lv_at hl 0 rfl) ?_
    refine lv_aload_n hx hb dX1_putOn_97 rfl (lv_at hl 1 rfl) ?_
    refine z_callV (As := [.ref (ad x1)]) (rest := []) (tX1_putSizes l S49 k0 x1 _ h) rfl ⟨hx, hb, hml, hown, hts⟩ (cwV 1 hts gX1_putOn_X1_putSizes rfl rfl rfl (by decide +kernel) ⟨by decide, by decide⟩) hK hZ hG hA (va_recv hK hG.1 (ci := 1) (q := (RX1, TX1, 9)) rfl (wl_get hk53 (cell_1 hq54))) rfl hl.1 rfl (Nat.le_of_ble_eq_true rfl) ⟨Nat.zero_le _, Nat.zero_le _⟩ dX1_putOn_98 (fun r_9 S55 H locs hp hs_S55 hG => ?_)
    obtain ⟨rfl, h⟩ := hp
    have h := h hs_S55
    refine W.eq (g2 := F0 m 101 ls []) rfl ?_
    have hsh := hs_S55.tr hsh
    have hk57 := hs_S55.lt hk51
    have hq58 := hs_S55.kd hq52
    have hk59 := hs_S55.lt hk53
    have hq60 := hs_S55.kd hq54
    refine lv_goto (tgt := 141) hx hb dX1_putOn_101 (by decide) ?_
    exact b_141  S55 H locs ls h hsh hG (lv_sub hl [] rfl)
  by_cases q_42_2 : (gX S31 k0 0) = 4
  · have h := h.2.2.1 q_42_2
    refine lv_tableIn (tgt := 104) hx hb dX1_putOn_42 (by rw [q_42_2]; decide) (by rw [q_42_2]; decide) (by rw [q_42_2]; rfl) (by decide) ?_
    refine lv_aload_n hx hb dX1_putOn_104 rfl (lv_at hl 1 rfl) ?_
    refine va_ldcS hx hb hown (hZ.2.2.2.1 25 (by decide)) dX1_putOn_105 ?_
    refine z_callV (As := [.ref (za 25)]) (rest := []) (tX6_addWord l S31 x1 25 _ h) rfl ⟨hx, hb, hml, hown, hts⟩ (cwV 1 hts gX1_putOn_X6_addWord rfl rfl rfl (by decide +kernel) ⟨by decide, by decide⟩) hK hZ hG hA (va_recv hK hG.1 (ci := 6) (q := (RX6, TX6, 2)) rfl (wl_get hk33 (cell_6 hq34))) rfl hl.1 rfl (Nat.le_of_ble_eq_true rfl) ⟨Nat.zero_le _, Nat.zero_le _⟩ dX1_putOn_107 (fun r_9 S61 H locs hp hs_S61 hG => ?_)
    obtain ⟨rfl, h⟩ := hp
    have h := h hs_S61
    refine W.eq (g2 := F0 m 110 ls []) rfl ?_
    have hsh := hs_S61.tr hsh
    have hk63 := hs_S61.lt hk33
    have hq64 := hs_S61.kd hq34
    have hk65 := hs_S61.lt hk35
    have hq66 := hs_S61.kd hq36
    refine lv_goto (tgt := 141) hx hb dX1_putOn_110 (by decide) ?_
    exact b_141  S61 H locs ls h hsh hG (lv_sub hl [] rfl)
  by_cases q_42_3 : (gX S31 k0 0) = 5
  · have h := h.2.2.2.1 q_42_3
    refine lv_tableIn (tgt := 113) hx hb dX1_putOn_42 (by rw [q_42_3]; decide) (by rw [q_42_3]; decide) (by rw [q_42_3]; rfl) (by decide) ?_
    refine lv_aload_n hx hb dX1_putOn_113 rfl (lv_at hl 1 rfl) ?_
    refine va_ldcS hx hb hown (hZ.2.2.2.1 26 (by decide)) dX1_putOn_114 ?_
    refine z_callV (As := [.ref (za 26)]) (rest := []) (tX6_addWord l S31 x1 26 _ h) rfl ⟨hx, hb, hml, hown, hts⟩ (cwV 1 hts gX1_putOn_X6_addWord rfl rfl rfl (by decide +kernel) ⟨by decide, by decide⟩) hK hZ hG hA (va_recv hK hG.1 (ci := 6) (q := (RX6, TX6, 2)) rfl (wl_get hk33 (cell_6 hq34))) rfl hl.1 rfl (Nat.le_of_ble_eq_true rfl) ⟨Nat.zero_le _, Nat.zero_le _⟩ dX1_putOn_116 (fun r_9 S67 H locs hp hs_S67 hG => ?_)
    obtain ⟨rfl, h⟩ := hp
    have h := h hs_S67
    refine W.eq (g2 := F0 m 119 ls []) rfl ?_
    have hsh := hs_S67.tr hsh
    have hk69 := hs_S67.lt hk33
    have hq70 := hs_S67.kd hq34
    have hk71 := hs_S67.lt hk35
    have hq72 := hs_S67.kd hq36
    refine lv_aload_n hx hb dX1_putOn_119 rfl (lv_at hl 0 rfl) ?_
    refine lv_aload_n hx hb dX1_putOn_120 rfl (lv_at hl 1 rfl) ?_
    refine z_callV (As := [.ref (ad x1)]) (rest := []) (tX1_putTook l S67 k0 x1 _ h) rfl ⟨hx, hb, hml, hown, hts⟩ (cwV 1 hts gX1_putOn_X1_putTook rfl rfl rfl (by decide +kernel) ⟨by decide, by decide⟩) hK hZ hG hA (va_recv hK hG.1 (ci := 1) (q := (RX1, TX1, 9)) rfl (wl_get hk71 (cell_1 hq72))) rfl hl.1 rfl (Nat.le_of_ble_eq_true rfl) ⟨Nat.zero_le _, Nat.zero_le _⟩ dX1_putOn_121 (fun r_9 S73 H locs hp hs_S73 hG => ?_)
    obtain ⟨rfl, h⟩ := hp
    have h := h hs_S73
    refine W.eq (g2 := F0 m 124 ls []) rfl ?_
    have hsh := hs_S73.tr hsh
    have hk75 := hs_S73.lt hk69
    have hq76 := hs_S73.kd hq70
    have hk77 := hs_S73.lt hk71
    have hq78 := hs_S73.kd hq72
    refine lv_goto (tgt := 141) hx hb dX1_putOn_124 (by decide) ?_
    exact b_141  S73 H locs ls h hsh hG (lv_sub hl [] rfl)
  by_cases q_42_4 : (gX S31 k0 0) = 6
  · have h := h.2.2.2.2.1 q_42_4
    refine lv_tableIn (tgt := 127) hx hb dX1_putOn_42 (by rw [q_42_4]; decide) (by rw [q_42_4]; decide) (by rw [q_42_4]; rfl) (by decide) ?_
    refine lv_aload_n hx hb dX1_putOn_127 rfl (lv_at hl 1 rfl) ?_
    refine va_ldcS hx hb hown (hZ.2.2.2.1 27 (by decide)) dX1_putOn_128 ?_
    refine z_callV (As := [.ref (za 27)]) (rest := []) (tX6_addWord l S31 x1 27 _ h) rfl ⟨hx, hb, hml, hown, hts⟩ (cwV 1 hts gX1_putOn_X6_addWord rfl rfl rfl (by decide +kernel) ⟨by decide, by decide⟩) hK hZ hG hA (va_recv hK hG.1 (ci := 6) (q := (RX6, TX6, 2)) rfl (wl_get hk33 (cell_6 hq34))) rfl hl.1 rfl (Nat.le_of_ble_eq_true rfl) ⟨Nat.zero_le _, Nat.zero_le _⟩ dX1_putOn_130 (fun r_9 S79 H locs hp hs_S79 hG => ?_)
    obtain ⟨rfl, h⟩ := hp
    have h := h hs_S79
    refine W.eq (g2 := F0 m 133 ls []) rfl ?_
    have hsh := hs_S79.tr hsh
    have hk81 := hs_S79.lt hk33
    have hq82 := hs_S79.kd hq34
    have hk83 := hs_S79.lt hk35
    have hq84 := hs_S79.kd hq36
    refine lv_goto (tgt := 141) hx hb dX1_putOn_133 (by decide) ?_
    exact b_141  S79 H locs ls h hsh hG (lv_sub hl [] rfl)
  have h := h.2.2.2.2.2 q_42_0 q_42_1 q_42_2 q_42_3 q_42_4
  refine lv_tableOut (tgt := 136) hx hb dX1_putOn_42 (tabL (lo := 2) (N := 6) (fun k h1 h2 => match k, h1, h2 with | 0, h1, _ => absurd h1 (by decide) | 1, h1, _ => absurd h1 (by decide) | 2, _, _ => q_42_0 | 3, _, _ => q_42_1 | 4, _, _ => q_42_2 | 5, _, _ => q_42_3 | 6, _, _ => q_42_4 | k + 7, _, h2 => absurd h2 (by omega)) (by decide)) (by decide) ?_
  refine lv_aload_n hx hb dX1_putOn_136 rfl (lv_at hl 0 rfl) ?_
  refine lv_aload_n hx hb dX1_putOn_137 rfl (lv_at hl 1 rfl) ?_
  refine z_callV (As := [.ref (ad x1)]) (rest := []) (tX1_putPause l S31 k0 x1 _ h) rfl ⟨hx, hb, hml, hown, hts⟩ (cwV 1 hts gX1_putOn_X1_putPause rfl rfl rfl (by decide +kernel) ⟨by decide, by decide⟩) hK hZ hG hA (va_recv hK hG.1 (ci := 1) (q := (RX1, TX1, 9)) rfl (wl_get hk35 (cell_1 hq36))) rfl hl.1 rfl (Nat.le_of_ble_eq_true rfl) ⟨Nat.zero_le _, Nat.zero_le _⟩ dX1_putOn_138 (fun r_9 S85 H locs hp hs_S85 hG => ?_)
  obtain ⟨rfl, h⟩ := hp
  have h := h hs_S85
  refine W.eq (g2 := F0 m 141 ls []) rfl ?_
  have hsh := hs_S85.tr hsh
  have hk87 := hs_S85.lt hk33
  have hq88 := hs_S85.kd hq34
  have hk89 := hs_S85.lt hk35
  have hq90 := hs_S85.kd hq36
  exact b_141  S85 H locs ls h hsh hG (lv_sub hl [] rfl)
