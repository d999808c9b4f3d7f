def wX8_drop (S : GS) (k0 : Nat) (x1 : Int32) (Q : Int32 → GS → Prop) (X : String → GS → Prop) : Prop :=
  ((0 : Int32) ≤ x1 → k0 < gN S ∧ gK S k0 = 8 ∧ ∃ q3 : Nat, gR S k0 0 = some q3 ∧ q3 < gN S ∧ gK S q3 = 6 ∧ wX6_cut S q3 x1 (fun u8 S7 => gSh S7 S → Q u8 S7)) ∧ (¬ (0 : Int32) ≤ x1 → X "java/lang/IllegalArgumentException" S)
set_option maxHeartbeats 4000000 in
set_option maxRecDepth 100000 in
theorem tX8_drop (l : Launch) (hst : l.stackTraces = false) (S : GS) (k0 : Nat) (x1 : Int32) (Q : Int32 → GS → Prop) (X : String → GS → Prop) (h : wX8_drop S k0 x1 Q X) : CT l yX8_drop wsX8_drop 6 S (gA [vR (some k0), vI x1]) (fun r S9 => ∃ x, r = some (vI x) ∧ Q x S9) X := by
  refine CT.ofW (cc := cX8_drop) (maxL := 2) (ret := (some .int)) RX8 (by decide) rfl rfl (fun _ _ _ => Nat.le_of_ble_eq_true rfl) ?_
  intro p e s m args below meth c D Y za zv ad A ls hAe hx hb hr hml hnt hts hown hlocks hK hZ hA hG hl
  obtain ⟨S0, hS0⟩ : ∃ z : GS, z = S := ⟨_, rfl⟩
  rw [← hS0] at hAe
  rw [← hS0]
  have hin8 : ∀ w ∈ wsX80, w ∈ wsX8_drop := by decide +kernel
  have lk_10 := hts (.fieldLink RX8 10 "PauseLog" "pad" "LPauseLog$Text;") (by decide +kernel)
  have hgw_A : ∀ w ∈ (vx_atS RX8 66 "java/lang/IllegalArgumentException" ["java/lang/RuntimeException", "java/lang/Exception"]).filter goodWord, w ∈ wsX8_drop := by decide +kernel
  have hl : lv_has ls 2 [(0, .ref (ad k0)), (1, .int x1)] := hl
  have hsh : gSh S S0 := by rw [hS0]; exact gSh.rf S
  obtain ⟨H, eH⟩ : ∃ z : Heap, z = s.heap := ⟨_, rfl⟩
  obtain ⟨locs, eL⟩ : ∃ z : List Loc, z = [] := ⟨_, rfl⟩
  have hG : gS D Y ad A s.heap S H locs := by rw [eH, eL]; exact hG
  suffices hgoal : W p l e (rmX 6) s m args below meth c H locs 0 0 (vx_MQ below (gE D Y za ad S0 s.heap.size (fun r S9 => ∃ x, r = some (vI x) ∧ Q x S9)) (gXc D Y ad S0 s.heap.size X) args s 1 6 A) (F0 m 0 ls []) by rw [eH, eL] at hgoal; exact hgoal
  unfold wX8_drop at h
  refine lv_iload_n hx hb dX8_drop_0 rfl (lv_at hl 1 rfl) ?_
  refine lv_if_ge (tgt := 14) hx hb dX8_drop_1 (by decide) (fun c_1 => ?_) (fun c_1 => ?_)
  · have h := h.1 c_1
    refine lv_aload_n hx hb dX8_drop_14 rfl (lv_at hl 0 rfl) ?_
    obtain ⟨hk1, hq2, h⟩ := h
    refine g_get (ci := 8) (C := RX8) (T := TX8) (N := 12) hx hb hts hin8 hown hK hG hk1 (cell_8 hq2) rfl 0 (by decide) lk_10 (fun _ h9 => h9) (v := rv ad (gR S k0 0)) rfl dX8_drop_15 ?_
    refine lv_iload_n hx hb dX8_drop_18 rfl (lv_at hl 1 rfl) ?_
    obtain ⟨q3, e4, h⟩ := h
    refine W.eq (g2 := F0 m 19 ls [.int x1, .ref (ad q3)]) (by rw [e4]; rfl) ?_
    obtain ⟨hk5, hq6, h⟩ := h
    refine r_callV (za := za) (k := q3) (ci := 6) (C := RX6) (T := TX6) (N := 2) (As := [vI x1]) (rest := []) (tX6_cut l S q3 x1 _ h) ⟨hx, hb, hml, hown, hts⟩ (cwV 1 hts gX8_drop_X6_cut rfl rfl rfl (by decide +kernel) ⟨by decide, by decide⟩) hK hG hA hk5 (cell_6 hq6) rfl rfl hl.1 rfl (Nat.le_of_ble_eq_true rfl) ⟨Nat.zero_le _, Nat.zero_le _⟩ dX8_drop_19 (fun r_9 S7 H locs hp hs_S7 hG => ?_)
    obtain ⟨u8, rfl, h⟩ := hp
    have h := h hs_S7
    refine W.eq (g2 := F0 m 22 ls [.int u8]) rfl ?_
    have hsh := hs_S7.tr hsh
    have hk9 := hs_S7.lt hk1
    have hq10 := hs_S7.kd hq2
    have hk11 := hs_S7.lt hk5
    have hq12 := hs_S7.kd hq6
    exact vx_ret (W.widen (k := 1) (n := 6) (Nat.zero_le _) (Nat.zero_le _) (W.iret (v := u8) hx hb hr (fun t ht hW => r_end (r := some (vI u8)) hAe hG hsh ⟨_, rfl, h⟩ rfl ht) hG.2.2.2.2 dX8_drop_22))
  · have h := h.2 c_1
    exact vx_throwS (names := ["java/lang/RuntimeException", "java/lang/Exception"]) hx hb hst hown (by decide) (by decide) (hts (.classLink RX8 62 "java/lang/IllegalArgumentException") (by decide +kernel)) (hts (.initialized "java/lang/IllegalArgumentException") (by decide +kernel)) (hZ.2.2.2.1 0 (by decide)) (vx_hat (fun w hw => hts w (hgw_A w hw)) zbad_A (fun w hw => va_Nw.use (zBad_ot w hw) (hZ.2.2.2.2.2.2.2.1 w hw))) zgood_A hZ.2.2.2.2.2.1 hZ.2.2.2.2.2.2.1 hG.2.2 (hl.1.trans hml.symm) dX8_drop_4 dX8_drop_7 dX8_drop_8 dX8_drop_10 dX8_drop_13 (fun x hx => (hnt x hx).elim) (by decide) (Nat.le_of_ble_eq_true rfl) (Nat.le_refl _) (Nat.le_refl _) hlocks (fun t hvm hsz hkp => gXc_of hAe hG hsh h hsz hkp) hG.2.2.2.2 (Nat.le_refl _) (Nat.le_refl _)
def wX8_write (S : GS) (k0 : Nat) (x1 : Int32) (x2 : Int32) (x3 : Int32) (x4 : Int32) (x5 : Int32) (x6 : Int32) (x7 : Int32) (Q : Int32 → GS → Prop) (X : String → GS → Prop) : Prop :=
  k0 < gN S ∧ gK S k0 = 8 ∧ ∃ q3 : Nat, gR S k0 2 = some q3 ∧ q3 < gN S ∧ gK S q3 = 1 ∧ wX1_setShape S q3 x1 (fun u8 S7 => gSh S7 S → (¬ u8 = 0 → ∃ q13 : Nat, gR S7 k0 2 = some q13 ∧ q13 < gN S7 ∧ gK S7 q13 = 1 ∧ ∀ S17 : GS, S17 = sX S7 q13 3 x2 → ∃ q24 : Nat, gR S17 k0 2 = some q24 ∧ q24 < gN S17 ∧ gK S17 q24 = 1 ∧ ∀ S28 : GS, S28 = sX S17 q24 4 x3 → ∃ q37 : Nat, gR S28 k0 2 = some q37 ∧ q37 < gN S28 ∧ gK S28 q37 = 1 ∧ ∀ S41 : GS, S41 = sX S28 q37 5 x4 → ∃ q52 : Nat, gR S41 k0 2 = some q52 ∧ q52 < gN S41 ∧ gK S41 q52 = 1 ∧ ∀ S56 : GS, S56 = sX S41 q52 6 x5 → ∃ q69 : Nat, gR S56 k0 2 = some q69 ∧ q69 < gN S56 ∧ gK S56 q69 = 1 ∧ ∀ S73 : GS, S73 = sX S56 q69 7 x6 → ∃ q88 : Nat, gR S73 k0 2 = some q88 ∧ q88 < gN S73 ∧ gK S73 q88 = 1 ∧ ∀ S92 : GS, S92 = sX S73 q88 8 x7 → ∃ q109 : Nat, gR S92 k0 2 = some q109 ∧ q109 < gN S92 ∧ gK S92 q109 = 1 ∧ wX1_hasText S92 q109  (fun u114 S113 => gSh S113 S92 → (¬ u114 = 0 → ∃ q133 : Nat, gR S113 k0 0 = some q133 ∧ ∃ q135 : Nat, gR S113 k0 2 = some q135 ∧ q135 < gN S113 ∧ gK S113 q135 = 1 ∧ wX1_putOn S113 q135 q133 (fun S139 => gSh S139 S113 → ∃ q161 : Nat, gR S139 k0 0 = some q161 ∧ q161 < gN S139 ∧ gK S139 q161 = 6 ∧ Q (gX S139 q161 1) S139)) ∧ (u114 = 0 → X "java/lang/IllegalArgumentException" S113))) ∧ (u8 = 0 → X "java/lang/IllegalArgumentException" S7))
set_option maxHeartbeats 4000000 in
set_option maxRecDepth 100000 in
theorem tX8_write (l : Launch) (hst : l.stackTraces = false) (S : GS) (k0 : Nat) (x1 : Int32) (x2 : Int32) (x3 : Int32) (x4 : Int32) (x5 : Int32) (x6 : Int32) (x7 : Int32) (Q : Int32 → GS → Prop) (X : String → GS → Prop) (h : wX8_write S k0 x1 x2 x3 x4 x5 x6 x7 Q X) : CT l yX8_write wsX8_write 8 S (gA [vR (some k0), vI x1, vI x2, vI x3, vI x4, vI x5, vI x6, vI x7]) (fun r S9 => ∃ x, r = some (vI x) ∧ Q x S9) X := by
  refine CT.ofW (cc := cX8_write) (maxL := 8) (ret := (some .int)) RX8 (by decide) rfl rfl (fun _ _ _ => Nat.le_of_ble_eq_true rfl) ?_
  intro p e s m args below meth c D Y za zv ad A ls hAe hx hb hr hml hnt hts hown hlocks hK hZ hA hG hl
  obtain ⟨S0, hS0⟩ : ∃ z : GS, z = S := ⟨_, rfl⟩
  rw [← hS0] at hAe
  rw [← hS0]
  have hin1 : ∀ w ∈ wsX10, w ∈ wsX8_write := by decide +kernel
  have hin6 : ∀ w ∈ wsX60, w ∈ wsX8_write := by decide +kernel
  have hin8 : ∀ w ∈ wsX80, w ∈ wsX8_write := by decide +kernel
  have lk_22 := hts (.fieldLink RX8 22 "PauseLog" "entry" "LPauseLog$Entry;") (by decide +kernel)
  have lk_79 := hts (.fieldLink RX8 79 "PauseLog$Entry" "id" "I") (by decide +kernel)
  have lk_82 := hts (.fieldLink RX8 82 "PauseLog$Entry" "time" "I") (by decide +kernel)
  have lk_85 := hts (.fieldLink RX8 85 "PauseLog$Entry" "before" "I") (by decide +kernel)
  have lk_88 := hts (.fieldLink RX8 88 "PauseLog$Entry" "after" "I") (by decide +kernel)
  have lk_91 := hts (.fieldLink RX8 91 "PauseLog$Entry" "capacity" "I") (by decide +kernel)
  have lk_94 := hts (.fieldLink RX8 94 "PauseLog$Entry" "took" "I") (by decide +kernel)
  have lk_10 := hts (.fieldLink RX8 10 "PauseLog" "pad" "LPauseLog$Text;") (by decide +kernel)
  have lk_107 := hts (.fieldLink RX8 107 "PauseLog$Text" "length" "I") (by decide +kernel)
  have hgw_A : ∀ w ∈ (vx_atS RX8 66 "java/lang/IllegalArgumentException" ["java/lang/RuntimeException", "java/lang/Exception"]).filter goodWord, w ∈ wsX8_write := by decide +kernel
  have hl : lv_has ls 8 [(0, .ref (ad k0)), (1, .int x1), (2, .int x2), (3, .int x3), (4, .int x4), (5, .int x5), (6, .int x6), (7, .int x7)] := hl
  have hsh : gSh S S0 := by rw [hS0]; exact gSh.rf S
  obtain ⟨H, eH⟩ : ∃ z : Heap, z = s.heap := ⟨_, rfl⟩
  obtain ⟨locs, eL⟩ : ∃ z : List Loc, z = [] := ⟨_, rfl⟩
  have hG : gS D Y ad A s.heap S H locs := by rw [eH, eL]; exact hG
  suffices hgoal : W p l e (rmX 8) s m args below meth c H locs 0 0 (vx_MQ below (gE D Y za ad S0 s.heap.size (fun r S9 => ∃ x, r = some (vI x) ∧ Q x S9)) (gXc D Y ad S0 s.heap.size X) args s 1 6 A) (F0 m 0 ls []) by rw [eH, eL] at hgoal; exact hgoal
  unfold wX8_write at h
  refine lv_aload_n hx hb dX8_write_0 rfl (lv_at hl 0 rfl) ?_
  obtain ⟨hk1, hq2, h⟩ := h
  refine g_get (ci := 8) (C := RX8) (T := TX8) (N := 12) hx hb hts hin8 hown hK hG hk1 (cell_8 hq2) rfl 2 (by decide) lk_22 (fun _ h9 => h9) (v := rv ad (gR S k0 2)) rfl dX8_write_1 ?_
  refine lv_iload_n hx hb dX8_write_4 rfl (lv_at hl 1 rfl) ?_
  obtain ⟨q3, e4, h⟩ := h
  refine W.eq (g2 := F0 m 5 ls [.int x1, .ref (ad q3)]) (by rw [e4]; rfl) ?_
  obtain ⟨hk5, hq6, h⟩ := h
  refine r_callV (za := za) (k := q3) (ci := 1) (C := RX1) (T := TX1) (N := 9) (As := [vI x1]) (rest := []) (tX1_setShape l S q3 x1 _ h) ⟨hx, hb, hml, hown, hts⟩ (cwV 1 hts gX8_write_X1_setShape rfl rfl rfl (by decide +kernel) ⟨by decide, by decide⟩) hK hG hA hk5 (cell_1 hq6) rfl rfl hl.1 rfl (Nat.le_of_ble_eq_true rfl) ⟨Nat.zero_le _, Nat.zero_le _⟩ dX8_write_5 (fun r_9 S7 H locs hp hs_S7 hG => ?_)
  obtain ⟨u8, rfl, h⟩ := hp
  have h := h hs_S7
  refine W.eq (g2 := F0 m 8 ls [.int u8]) rfl ?_
  have hsh := hs_S7.tr hsh
  have hk9 := hs_S7.lt hk1
  have hq10 := hs_S7.kd hq2
  have hk11 := hs_S7.lt hk5
  have hq12 := hs_S7.kd hq6
  refine lv_if_ne (tgt := 21) hx hb dX8_write_8 (by decide) (fun c_8 => ?_) (fun c_8 => ?_)
  · have h := h.1 c_8
    refine lv_aload_n hx hb dX8_write_21 rfl (lv_at hl 0 rfl) ?_
    refine g_get (ci := 8) (C := RX8) (T := TX8) (N := 12) hx hb hts hin8 hown hK hG hk9 (cell_8 hq10) rfl 2 (by decide) lk_22 (fun _ h9 => h9) (v := rv ad (gR S7 k0 2)) rfl dX8_write_22 ?_
    refine lv_iload_n hx hb dX8_write_25 rfl (lv_at hl 2 rfl) ?_
    obtain ⟨q13, e14, h⟩ := h
    refine W.eq (g2 := F0 m 26 ls [.int x2, .ref (ad q13)]) (by rw [e14]; rfl) ?_
    obtain ⟨hk15, hq16, h⟩ := h
    refine r_put (ci := 1) (C := RX1) (T := TX1) (N := 9) hx hb hts hin1 tyX1 tyX1_ok nmX1 hown hK hG hk15 (cell_1 hq16) rfl 3 (by decide) lk_79 (fun _ h9 => h9) rfl rfl rfl (Nat.le_of_ble_eq_true rfl) (S' := sX S7 q13 3 x2) rfl (pu_1_3 hq16 x2) dX8_write_26 (fun H locs hG => ?_)
    obtain ⟨S17, eS_S17⟩ : ∃ z : GS, z = sX S7 q13 3 x2 := ⟨_, rfl⟩
    have h := h S17 eS_S17
    rw [← eS_S17] at hG
    have hs_S17 : gSh S17 S7 := by rw [eS_S17]; exact gSh.x _ _ _ _
    have hsh := hs_S17.tr hsh
    have hk18 := hs_S17.lt hk9
    have hq19 := hs_S17.kd hq10
    have hk20 := hs_S17.lt hk11
    have hq21 := hs_S17.kd hq12
    have hk22 := hs_S17.lt hk15
    have hq23 := hs_S17.kd hq16
    refine lv_aload_n hx hb dX8_write_29 rfl (lv_at hl 0 rfl) ?_
    refine g_get (ci := 8) (C := RX8) (T := TX8) (N := 12) hx hb hts hin8 hown hK hG hk18 (cell_8 hq19) rfl 2 (by decide) lk_22 (fun _ h9 => h9) (v := rv ad (gR S17 k0 2)) rfl dX8_write_30 ?_
    refine lv_iload_n hx hb dX8_write_33 rfl (lv_at hl 3 rfl) ?_
    obtain ⟨q24, e25, h⟩ := h
    refine W.eq (g2 := F0 m 34 ls [.int x3, .ref (ad q24)]) (by rw [e25]; rfl) ?_
    obtain ⟨hk26, hq27, h⟩ := h
    refine r_put (ci := 1) (C := RX1) (T := TX1) (N := 9) hx hb hts hin1 tyX1 tyX1_ok nmX1 hown hK hG hk26 (cell_1 hq27) rfl 4 (by decide) lk_82 (fun _ h9 => h9) rfl rfl rfl (Nat.le_of_ble_eq_true rfl) (S' := sX S17 q24 4 x3) rfl (pu_1_4 hq27 x3) dX8_write_34 (fun H locs hG => ?_)
    obtain ⟨S28, eS_S28⟩ : ∃ z : GS, z = sX S17 q24 4 x3 := ⟨_, rfl⟩
    have h := h S28 eS_S28
    rw [← eS_S28] at hG
    have hs_S28 : gSh S28 S17 := by rw [eS_S28]; exact gSh.x _ _ _ _
    have hsh := hs_S28.tr hsh
    have hk29 := hs_S28.lt hk18
    have hq30 := hs_S28.kd hq19
    have hk31 := hs_S28.lt hk20
    have hq32 := hs_S28.kd hq21
    have hk33 := hs_S28.lt hk22
    have hq34 := hs_S28.kd hq23
    have hk35 := hs_S28.lt hk26
    have hq36 := hs_S28.kd hq27
    refine lv_aload_n hx hb dX8_write_37 rfl (lv_at hl 0 rfl) ?_
    refine g_get (ci := 8) (C := RX8) (T := TX8) (N := 12) hx hb hts hin8 hown hK hG hk29 (cell_8 hq30) rfl 2 (by decide) lk_22 (fun _ h9 => h9) (v := rv ad (gR S28 k0 2)) rfl dX8_write_38 ?_
    refine lv_iload hx hb dX8_write_41 (lv_at hl 4 rfl) ?_
    obtain ⟨q37, e38, h⟩ := h
    refine W.eq (g2 := F0 m 43 ls [.int x4, .ref (ad q37)]) (by rw [e38]; rfl) ?_
    obtain ⟨hk39, hq40, h⟩ := h
    refine r_put (ci := 1) (C := RX1) (T := TX1) (N := 9) hx hb hts hin1 tyX1 tyX1_ok nmX1 hown hK hG hk39 (cell_1 hq40) rfl 5 (by decide) lk_85 (fun _ h9 => h9) rfl rfl rfl (Nat.le_of_ble_eq_true rfl) (S' := sX S28 q37 5 x4) rfl (pu_1_5 hq40 x4) dX8_write_43 (fun H locs hG => ?_)
    obtain ⟨S41, eS_S41⟩ : ∃ z : GS, z = sX S28 q37 5 x4 := ⟨_, rfl⟩
    have h := h S41 eS_S41
    rw [← eS_S41] at hG
    have hs_S41 : gSh S41 S28 := by rw [eS_S41]; exact gSh.x _ _ _ _
    have hsh := hs_S41.tr hsh
    have hk42 := hs_S41.lt hk29
    have hq43 := hs_S41.kd hq30
    have hk44 := hs_S41.lt hk31
    have hq45 := hs_S41.kd hq32
    have hk46 := hs_S41.lt hk33
    have hq47 := hs_S41.kd hq34
    have hk48 := hs_S41.lt hk35
    have hq49 := hs_S41.kd hq36
    have hk50 := hs_S41.lt hk39
    have hq51 := hs_S41.kd hq40
    refine lv_aload_n hx hb dX8_write_46 rfl (lv_at hl 0 rfl) ?_
    refine g_get (ci := 8) (C := RX8) (T := TX8) (N := 12) hx hb hts hin8 hown hK hG hk42 (cell_8 hq43) rfl 2 (by decide) lk_22 (fun _ h9 => h9) (v := rv ad (gR S41 k0 2)) rfl dX8_write_47 ?_
    refine lv_iload hx hb dX8_write_50 (lv_at hl 5 rfl) ?_
    obtain ⟨q52, e53, h⟩ := h
    refine W.eq (g2 := F0 m 52 ls [.int x5, .ref (ad q52)]) (by rw [e53]; rfl) ?_
    obtain ⟨hk54, hq55, h⟩ := h
    refine r_put (ci := 1) (C := RX1) (T := TX1) (N := 9) hx hb hts hin1 tyX1 tyX1_ok nmX1 hown hK hG hk54 (cell_1 hq55) rfl 6 (by decide) lk_88 (fun _ h9 => h9) rfl rfl rfl (Nat.le_of_ble_eq_true rfl) (S' := sX S41 q52 6 x5) rfl (pu_1_6 hq55 x5) dX8_write_52 (fun H locs hG => ?_)
    obtain ⟨S56, eS_S56⟩ : ∃ z : GS, z = sX S41 q52 6 x5 := ⟨_, rfl⟩
    have h := h S56 eS_S56
    rw [← eS_S56] at hG
    have hs_S56 : gSh S56 S41 := by rw [eS_S56]; exact gSh.x _ _ _ _
    have hsh := hs_S56.tr hsh
    have hk57 := hs_S56.lt hk42
    have hq58 := hs_S56.kd hq43
    have hk59 := hs_S56.lt hk44
    have hq60 := hs_S56.kd hq45
    have hk61 := hs_S56.lt hk46
    have hq62 := hs_S56.kd hq47
    have hk63 := hs_S56.lt hk48
    have hq64 := hs_S56.kd hq49
    have hk65 := hs_S56.lt hk50
    have hq66 := hs_S56.kd hq51
    have hk67 := hs_S56.lt hk54
    have hq68 := hs_S56.kd hq55
    refine lv_aload_n hx hb dX8_write_55 rfl (lv_at hl 0 rfl) ?_
    refine g_get (ci := 8) (C := RX8) (T := TX8) (N := 12) hx hb hts hin8 hown hK hG hk57 (cell_8 hq58) rfl 2 (by decide) lk_22 (fun _ h9 => h9) (v := rv ad (gR S56 k0 2)) rfl dX8_write_56 ?_
    refine lv_iload hx hb dX8_write_59 (lv_at hl 6 rfl) ?_
    obtain ⟨q69, e70, h⟩ := h
    refine W.eq (g2 := F0 m 61 ls [.int x6, .ref (ad q69)]) (by rw [e70]; rfl) ?_
    obtain ⟨hk71, hq72, h⟩ := h
    refine r_put (ci := 1) (C := RX1) (T := TX1) (N := 9) hx hb hts hin1 tyX1 tyX1_ok nmX1 hown hK hG hk71 (cell_1 hq72) rfl 7 (by decide) lk_91 (fun _ h9 => h9) rfl rfl rfl (Nat.le_of_ble_eq_true rfl) (S' := sX S56 q69 7 x6) rfl (pu_1_7 hq72 x6) dX8_write_61 (fun H locs hG => ?_)
    obtain ⟨S73, eS_S73⟩ : ∃ z : GS, z = sX S56 q69 7 x6 := ⟨_, rfl⟩
    have h := h S73 eS_S73
    rw [← eS_S73] at hG
    have hs_S73 : gSh S73 S56 := by rw [eS_S73]; exact gSh.x _ _ _ _
    have hsh := hs_S73.tr hsh
    have hk74 := hs_S73.lt hk57
    have hq75 := hs_S73.kd hq58
    have hk76 := hs_S73.lt hk59
    have hq77 := hs_S73.kd hq60
    have hk78 := hs_S73.lt hk61
    have hq79 := hs_S73.kd hq62
    have hk80 := hs_S73.lt hk63
    have hq81 := hs_S73.kd hq64
    have hk82 := hs_S73.lt hk65
    have hq83 := hs_S73.kd hq66
    have hk84 := hs_S73.lt hk67
    have hq85 := hs_S73.kd hq68
    have hk86 := hs_S73.lt hk71
    have hq87 := hs_S73.kd hq72
    refine lv_aload_n hx hb dX8_write_64 rfl (lv_at hl 0 rfl) ?_
    refine g_get (ci := 8) (C := RX8) (T := TX8) (N := 12) hx hb hts hin8 hown hK hG hk74 (cell_8 hq75) rfl 2 (by decide) lk_22 (fun _ h9 => h9) (v := rv ad (gR S73 k0 2)) rfl dX8_write_65 ?_
    refine lv_iload hx hb dX8_write_68 (lv_at hl 7 rfl) ?_
    obtain ⟨q88, e89, h⟩ := h
    refine W.eq (g2 := F0 m 70 ls [.int x7, .ref (ad q88)]) (by rw [e89]; rfl) ?_
    obtain ⟨hk90, hq91, h⟩ := h
    refine r_put (ci := 1) (C := RX1) (T := TX1) (N := 9) hx hb hts hin1 tyX1 tyX1_ok nmX1 hown hK hG hk90 (cell_1 hq91) rfl 8 (by decide) lk_94 (fun _ h9 => h9) rfl rfl rfl (Nat.le_of_ble_eq_true rfl) (S' := sX S73 q88 8 x7) rfl (pu_1_8 hq91 x7) dX8_write_70 (fun H locs hG => ?_)
    obtain ⟨S92, eS_S92⟩ : ∃ z : GS, z = sX S73 q88 8 x7 := ⟨_, rfl⟩
    have h := h S92 eS_S92
    rw [← eS_S92] at hG
    have hs_S92 : gSh S92 S73 := by rw [eS_S92]; exact gSh.x _ _ _ _
    have hsh := hs_S92.tr hsh
    have hk93 := hs_S92.lt hk74
    have hq94 := hs_S92.kd hq75
    have hk95 := hs_S92.lt hk76
    have hq96 := hs_S92.kd hq77
    have hk97 := hs_S92.lt hk78
    have hq98 := hs_S92.kd hq79
    have hk99 := hs_S92.lt hk80
    have hq100 := hs_S92.kd hq81
    have hk101 := hs_S92.lt hk82
    have hq102 := hs_S92.kd hq83
    have hk103 := hs_S92.lt hk84
    have hq104 := hs_S92.kd hq85
    have hk105 := hs_S92.lt hk86
    have hq106 := hs_S92.kd hq87
    have hk107 := hs_S92.lt hk90
    have hq108 := hs_S92.kd hq91
    refine lv_aload_n hx hb dX8_write_73 rfl (lv_at hl 0 rfl) ?_
    refine g_get (ci := 8) (C := RX8) (T := TX8) (N := 12) hx hb hts hin8 hown hK hG hk93 (cell_8 hq94) rfl 2 (by decide) lk_22 (fun _ h9 => h9) (v := rv ad (gR S92 k0 2)) rfl dX8_write_74 ?_
    obtain ⟨q109, e110, h⟩ := h
    refine W.eq (g2 := F0 m 77 ls [.ref (ad q109)]) (by rw [e110]; rfl) ?_
    obtain ⟨hk111, hq112, h⟩ := h
    refine r_callV (za := za) (k := q109) (ci := 1) (C := RX1) (T := TX1) (N := 9) (As := []) (rest := []) (tX1_hasText l S92 q109  _ h) ⟨hx, hb, hml, hown, hts⟩ (cwV 0 hts gX8_write_X1_hasText rfl rfl rfl (by decide +kernel) ⟨by decide, by decide⟩) hK hG hA hk111 (cell_1 hq112) rfl rfl hl.1 rfl (Nat.le_of_ble_eq_true rfl) ⟨Nat.zero_le _, Nat.zero_le _⟩ dX8_write_77 (fun r_9 S113 H locs hp hs_S113 hG => ?_)
    obtain ⟨u114, rfl, h⟩ := hp
    have h := h hs_S113
    refine W.eq (g2 := F0 m 80 ls [.int u114]) rfl ?_
    have hsh := hs_S113.tr hsh
    have hk115 := hs_S113.lt hk93
    have hq116 := hs_S113.kd hq94
    have hk117 := hs_S113.lt hk95
    have hq118 := hs_S113.kd hq96
    have hk119 := hs_S113.lt hk97
    have hq120 := hs_S113.kd hq98
    have hk121 := hs_S113.lt hk99
    have hq122 := hs_S113.kd hq100
    have hk123 := hs_S113.lt hk101
    have hq124 := hs_S113.kd hq102
    have hk125 := hs_S113.lt hk103
    have hq126 := hs_S113.kd hq104
    have hk127 := hs_S113.lt hk105
    have hq128 := hs_S113.kd hq106
    have hk129 := hs_S113.lt hk107
    have hq130 := hs_S113.kd hq108
    have hk131 := hs_S113.lt hk111
    have hq132 := hs_S113.kd hq112
    refine lv_if_ne (tgt := 93) hx hb dX8_write_80 (by decide) (fun c_80 => ?_) (fun c_80 => ?_)
    · have h := h.1 c_80
      refine lv_aload_n hx hb dX8_write_93 rfl (lv_at hl 0 rfl) ?_
      refine g_get (ci := 8) (C := RX8) (T := TX8) (N := 12) hx hb hts hin8 hown hK hG hk115 (cell_8 hq116) rfl 2 (by decide) lk_22 (fun _ h9 => h9) (v := rv ad (gR S113 k0 2)) rfl dX8_write_94 ?_
      refine lv_aload_n hx hb dX8_write_97 rfl (lv_at hl 0 rfl) ?_
      refine g_get (ci := 8) (C := RX8) (T := TX8) (N := 12) hx hb hts hin8 hown hK hG hk115 (cell_8 hq116) rfl 0 (by decide) lk_10 (fun _ h9 => h9) (v := rv ad (gR S113 k0 0)) rfl dX8_write_98 ?_
      obtain ⟨q133, e134, h⟩ := h
      refine W.eq (g2 := F0 m 101 ls [.ref (ad q133), rv ad (gR S113 k0 2)]) (by rw [e134]; rfl) ?_
      obtain ⟨q135, e136, h⟩ := h
      refine W.eq (g2 := F0 m 101 ls [.ref (ad q133), .ref (ad q135)]) (by rw [e136]; rfl) ?_
      obtain ⟨hk137, hq138, h⟩ := h
      refine z_callV (As := [.ref (ad q133)]) (rest := []) (tX1_putOn l S113 q135 q133 _ h) rfl ⟨hx, hb, hml, hown, hts⟩ (cwV 1 hts gX8_write_X1_putOn rfl rfl rfl (by decide +kernel) ⟨by decide, by decide⟩) hK hZ hG hA (va_recv hK hG.1 (ci := 1) (q := (RX1, TX1, 9)) rfl (wl_get hk137 (cell_1 hq138))) rfl hl.1 rfl (Nat.le_of_ble_eq_true rfl) ⟨Nat.zero_le _, Nat.zero_le _⟩ dX8_write_101 (fun r_9 S139 H locs hp hs_S139 hG => ?_)
      obtain ⟨rfl, h⟩ := hp
      have h := h hs_S139
      refine W.eq (g2 := F0 m 104 ls []) rfl ?_
      have hsh := hs_S139.tr hsh
      have hk141 := hs_S139.lt hk115
      have hq142 := hs_S139.kd hq116
      have hk143 := hs_S139.lt hk117
      have hq144 := hs_S139.kd hq118
      have hk145 := hs_S139.lt hk119
      have hq146 := hs_S139.kd hq120
      have hk147 := hs_S139.lt hk121
      have hq148 := hs_S139.kd hq122
      have hk149 := hs_S139.lt hk123
      have hq150 := hs_S139.kd hq124
      have hk151 := hs_S139.lt hk125
      have hq152 := hs_S139.kd hq126
      have hk153 := hs_S139.lt hk127
      have hq154 := hs_S139.kd hq128
      have hk155 := hs_S139.lt hk129
      have hq156 := hs_S139.kd hq130
      have hk157 := hs_S139.lt hk131
      have hq158 := hs_S139.kd hq132
      have hk159 := hs_S139.lt hk137
      have hq160 := hs_S139.kd hq138
      refine lv_aload_n hx hb dX8_write_104 rfl (lv_at hl 0 rfl) ?_
      refine g_get (ci := 8) (C := RX8) (T := TX8) (N := 12) hx hb hts hin8 hown hK hG hk141 (cell_8 hq142) rfl 0 (by decide) lk_10 (fun _ h9 => h9) (v := rv ad (gR S139 k0 0)) rfl dX8_write_105 ?_
      obtain ⟨q161, e162, h⟩ := h
      refine W.eq (g2 := F0 m 108 ls [.ref (ad q161)]) (by rw [e162]; rfl) ?_
      obtain ⟨hk163, hq164, h⟩ := h
      refine g_get (ci := 6) (C := RX6) (T := TX6) (N := 2) hx hb hts hin6 hown hK hG hk163 (cell_6 hq164) rfl 1 (by decide) lk_107 (fun _ h9 => h9) (v := .int (gX S139 q161 1)) rfl dX8_write_108 ?_
      exact vx_ret (W.widen (k := 1) (n := 6) (Nat.zero_le _) (Nat.zero_le _) (W.iret (v := gX S139 q161 1) hx hb hr (fun t ht hW => r_end (r := some (vI (gX S139 q161 1))) hAe hG hsh ⟨_, rfl, h⟩ rfl ht) hG.2.2.2.2 dX8_write_111))
    · have h := h.2 c_80
      exact vx_throwS (names := ["java/lang/RuntimeException", "java/lang/Exception"]) hx hb hst hown (by decide) (by decide) (hts (.classLink RX8 62 "java/lang/IllegalArgumentException") (by decide +kernel)) (hts (.initialized "java/lang/IllegalArgumentException") (by decide +kernel)) (hZ.2.2.2.1 2 (by decide)) (vx_hat (fun w hw => hts w (hgw_A w hw)) zbad_A (fun w hw => va_Nw.use (zBad_ot w hw) (hZ.2.2.2.2.2.2.2.1 w hw))) zgood_A hZ.2.2.2.2.2.1 hZ.2.2.2.2.2.2.1 hG.2.2 (hl.1.trans hml.symm) dX8_write_83 dX8_write_86 dX8_write_87 dX8_write_89 dX8_write_92 (fun x hx => (hnt x hx).elim) (by decide) (Nat.le_of_ble_eq_true rfl) (Nat.le_refl _) (Nat.le_refl _) hlocks (fun t hvm hsz hkp => gXc_of hAe hG hsh h hsz hkp) hG.2.2.2.2 (Nat.le_refl _) (Nat.le_refl _)
  · have h := h.2 c_8
    exact vx_throwS (names := ["java/lang/RuntimeException", "java/lang/Exception"]) hx hb hst hown (by decide) (by decide) (hts (.classLink RX8 62 "java/lang/IllegalArgumentException") (by decide +kernel)) (hts (.initialized "java/lang/IllegalArgumentException") (by decide +kernel)) (hZ.2.2.2.1 1 (by decide)) (vx_hat (fun w hw => hts w (hgw_A w hw)) zbad_A (fun w hw => va_Nw.use (zBad_ot w hw) (hZ.2.2.2.2.2.2.2.1 w hw))) zgood_A hZ.2.2.2.2.2.1 hZ.2.2.2.2.2.2.1 hG.2.2 (hl.1.trans hml.symm) dX8_write_11 dX8_write_14 dX8_write_15 dX8_write_17 dX8_write_20 (fun x hx => (hnt x hx).elim) (by decide) (Nat.le_of_ble_eq_true rfl) (Nat.le_refl _) (Nat.le_refl _) hlocks (fun t hvm hsz hkp => gXc_of hAe hG hsh h hsz hkp) hG.2.2.2.2 (Nat.le_refl _) (Nat.le_refl _)
