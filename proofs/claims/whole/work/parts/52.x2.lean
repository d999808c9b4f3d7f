def wX2_isPause_13 (Q : Int32 → GS → Prop) (k0 : Nat) (t0 : Int32) (S : GS) : Prop :=
  (t0 = 0 ∨ t0 = 1) ∧ Q t0 S
def wX2_isPause (S : GS) (k0 : Nat) (Q : Int32 → GS → Prop) : Prop :=
  k0 < gN S ∧ gK S k0 = 2 ∧ ((2 : Int32) < (gX S k0 4) → wX2_isPause_13 Q k0 0 S) ∧ (¬ (2 : Int32) < (gX S k0 4) → wX2_isPause_13 Q k0 1 S)
set_option maxHeartbeats 4000000 in
set_option maxRecDepth 100000 in
theorem tX2_isPause (l : Launch) (S : GS) (k0 : Nat) (Q : Int32 → GS → Prop) (h : wX2_isPause S k0 Q) : CS l yX2_isPause wsX2_isPause 0 S [vR (some k0)] (fun r S9 => ∃ x, r = some (vI x) ∧ Q x S9) := by
  refine CS.ofW (cc := cX2_isPause) (maxL := 1) (ret := (some .boolean)) RX2 (by decide) rfl rfl (fun _ _ => Nat.le_of_ble_eq_true rfl) ?_
  intro p e s m args below meth c D Y za ad A ls hAe hx hb hr hml hts hown hlocks hK hA hG hl
  obtain ⟨S0, hS0⟩ : ∃ z : GS, z = S := ⟨_, rfl⟩
  rw [← hS0] at hAe
  rw [← hS0]
  have hin2 : ∀ w ∈ wsX20, w ∈ wsX2_isPause := by decide +kernel
  have lk_37 := hts (.fieldLink RX2 37 "PauseLog$Event" "kind" "I") (by decide +kernel)
  have b_13 : ∀  (t0 : Int32) (S : GS) (H : Heap) (locs : List Loc) (ls : Array Slot), wX2_isPause_13 Q k0 t0 S → gSh S S0 → gS D Y ad A s.heap S H locs → lv_has ls 1 [] → W p l e (rmD 0) s m args below meth c H locs 0 0 (MQ below (gE D Y za ad S0 s.heap.size (fun r S9 => ∃ x, r = some (vI x) ∧ Q x S9)) args s 0 0 A) (F0 m 13 ls [.int t0]) := by
    intro  t0 S H locs ls h hsh hG hl
    unfold wX2_isPause_13 at h
    obtain ⟨hz1, h⟩ := h
    exact W.zret (v := t0) hx hb hr (nar01 hz1) (fun t ht hW => r_end (r := some (vI t0)) hAe hG hsh ⟨_, rfl, h⟩ rfl ht) hG.2.2.2.2 dX2_isPause_13
  have hl : lv_has ls 1 [(0, .ref (ad k0))] := hl
  have hsh : gSh S S0 := by rw [hS0]; exact gSh.rf S
  obtain ⟨H, eH⟩ : ∃ z : Heap, z = s.heap := ⟨_, rfl⟩
  obtain ⟨locs, eL⟩ : ∃ z : List Loc, z = [] := ⟨_, rfl⟩
  have hG : gS D Y ad A s.heap S H locs := by rw [eH, eL]; exact hG
  suffices hgoal : W p l e (rmD 0) s m args below meth c H locs 0 0 (MQ below (gE D Y za ad S0 s.heap.size (fun r S9 => ∃ x, r = some (vI x) ∧ Q x S9)) args s 0 0 A) (F0 m 0 ls []) by rw [eH, eL] at hgoal; exact hgoal
  unfold wX2_isPause at h
  refine lv_aload_n hx hb dX2_isPause_0 rfl (lv_at hl 0 rfl) ?_
  obtain ⟨hk2, hq3, h⟩ := h
  refine g_get (ci := 2) (C := RX2) (T := TX2) (N := 15) hx hb hts hin2 hown hK hG hk2 (cell_2 hq3) rfl 4 (by decide) lk_37 (fun _ h9 => h9) (v := .int (gX S k0 4)) rfl dX2_isPause_1 ?_
  refine lv_iconst (v := 2) hx hb dX2_isPause_4 (by decide) ?_
  refine lv_icmp_gt (tgt := 12) hx hb dX2_isPause_5 (by decide) (fun c_5 => ?_) (fun c_5 => ?_)
  · have h := h.1 c_5
    refine lv_iconst (v := 0) hx hb dX2_isPause_12 (by decide) ?_
    exact b_13 0 S H locs ls h hsh hG (lv_sub hl [] rfl)
  · have h := h.2 c_5
    refine lv_iconst (v := 1) hx hb dX2_isPause_8 (by decide) ?_
    refine lv_goto (tgt := 13) hx hb dX2_isPause_9 (by decide) ?_
    exact b_13 1 S H locs ls h hsh hG (lv_sub hl [] rfl)
def wX2_microsecondsUntil (S : GS) (k0 : Nat) (x1 : Nat) (Q : Int64 → GS → Prop) : Prop :=
  x1 < gN S ∧ gK S x1 = 1 ∧ k0 < gN S ∧ gK S k0 = 2 ∧ Q (1000 * (Int32.toInt64 ((gX S x1 4) - (gX S k0 3)))) S
set_option maxHeartbeats 4000000 in
set_option maxRecDepth 100000 in
theorem tX2_microsecondsUntil (l : Launch) (S : GS) (k0 : Nat) (x1 : Nat) (Q : Int64 → GS → Prop) (h : wX2_microsecondsUntil S k0 x1 Q) : CS l yX2_microsecondsUntil wsX2_microsecondsUntil 0 S [vR (some k0), vR (some x1)] (fun r S9 => ∃ x, r = some (vL x) ∧ Q x S9) := by
  refine CS.ofW (cc := cX2_microsecondsUntil) (maxL := 2) (ret := (some .long)) RX2 (by decide) rfl rfl (fun _ _ => Nat.le_of_ble_eq_true rfl) ?_
  intro p e s m args below meth c D Y za ad A ls hAe hx hb hr hml hts hown hlocks hK hA hG hl
  obtain ⟨S0, hS0⟩ : ∃ z : GS, z = S := ⟨_, rfl⟩
  rw [← hS0] at hAe
  rw [← hS0]
  have hin1 : ∀ w ∈ wsX10, w ∈ wsX2_microsecondsUntil := by decide +kernel
  have hin2 : ∀ w ∈ wsX20, w ∈ wsX2_microsecondsUntil := by decide +kernel
  have lk_80 := hts (.constantLong RX2 80 (1000)) (by decide +kernel)
  have lk_28 := hts (.fieldLink RX2 28 "PauseLog$Entry" "time" "I") (by decide +kernel)
  have lk_31 := hts (.fieldLink RX2 31 "PauseLog$Event" "beginTime" "I") (by decide +kernel)
  have hl : lv_has ls 2 [(0, .ref (ad k0)), (1, .ref (ad x1))] := hl
  have hsh : gSh S S0 := by rw [hS0]; exact gSh.rf S
  obtain ⟨H, eH⟩ : ∃ z : Heap, z = s.heap := ⟨_, rfl⟩
  obtain ⟨locs, eL⟩ : ∃ z : List Loc, z = [] := ⟨_, rfl⟩
  have hG : gS D Y ad A s.heap S H locs := by rw [eH, eL]; exact hG
  suffices hgoal : W p l e (rmD 0) s m args below meth c H locs 0 0 (MQ below (gE D Y za ad S0 s.heap.size (fun r S9 => ∃ x, r = some (vL x) ∧ Q x S9)) args s 0 0 A) (F0 m 0 ls []) by rw [eH, eL] at hgoal; exact hgoal
  unfold wX2_microsecondsUntil at h
  refine lv_ldc2 hx hb hown lk_80 dX2_microsecondsUntil_0 ?_
  refine lv_aload_n hx hb dX2_microsecondsUntil_3 rfl (lv_at hl 1 rfl) ?_
  obtain ⟨hk1, hq2, h⟩ := h
  refine g_get (ci := 1) (C := RX1) (T := TX1) (N := 9) hx hb hts hin1 hown hK hG hk1 (cell_1 hq2) rfl 4 (by decide) lk_28 (fun _ h9 => h9) (v := .int (gX S x1 4)) rfl dX2_microsecondsUntil_4 ?_
  refine lv_aload_n hx hb dX2_microsecondsUntil_7 rfl (lv_at hl 0 rfl) ?_
  obtain ⟨hk3, hq4, h⟩ := h
  refine g_get (ci := 2) (C := RX2) (T := TX2) (N := 15) hx hb hts hin2 hown hK hG hk3 (cell_2 hq4) rfl 3 (by decide) lk_31 (fun _ h9 => h9) (v := .int (gX S k0 3)) rfl dX2_microsecondsUntil_8 ?_
  refine lv_isub hx hb dX2_microsecondsUntil_11 ?_
  refine lv_i2l hx hb dX2_microsecondsUntil_12 rfl ?_
  refine lv_lmul hx hb dX2_microsecondsUntil_13 ?_
  exact W.lret (v := 1000 * (Int32.toInt64 ((gX S x1 4) - (gX S k0 3)))) hx hb hr (fun t ht hW => r_end (r := some (vL (1000 * (Int32.toInt64 ((gX S x1 4) - (gX S k0 3)))))) hAe hG hsh ⟨_, rfl, h⟩ rfl ht) hG.2.2.2.2 dX2_microsecondsUntil_14
def wX2_isTooShortFor_23 (Q : Int32 → GS → Prop) (k0 : Nat) (t0 : Int32) (S : GS) : Prop :=
  (t0 = 0 ∨ t0 = 1) ∧ Q t0 S
def wX2_isTooShortFor (S : GS) (k0 : Nat) (x1 : Nat) (Q : Int32 → GS → Prop) : Prop :=
  x1 < gN S ∧ gK S x1 = 1 ∧ k0 < gN S ∧ gK S k0 = 2 ∧ wX2_microsecondsUntil S k0 x1 (fun u7 S6 => gSh S6 S → ((lg_cmp (Int32.toInt64 (gX S x1 8)) (u7 + 999)) ≤ 0 → wX2_isTooShortFor_23 Q k0 0 S6) ∧ (¬ (lg_cmp (Int32.toInt64 (gX S x1 8)) (u7 + 999)) ≤ 0 → wX2_isTooShortFor_23 Q k0 1 S6))
set_option maxHeartbeats 4000000 in
set_option maxRecDepth 100000 in
theorem tX2_isTooShortFor (l : Launch) (S : GS) (k0 : Nat) (x1 : Nat) (Q : Int32 → GS → Prop) (h : wX2_isTooShortFor S k0 x1 Q) : CS l yX2_isTooShortFor wsX2_isTooShortFor 1 S [vR (some k0), vR (some x1)] (fun r S9 => ∃ x, r = some (vI x) ∧ Q x S9) := by
  refine CS.ofW (cc := cX2_isTooShortFor) (maxL := 2) (ret := (some .boolean)) RX2 (by decide) rfl rfl (fun _ _ => Nat.le_of_ble_eq_true rfl) ?_
  intro p e s m args below meth c D Y za ad A ls hAe hx hb hr hml hts hown hlocks hK hA hG hl
  obtain ⟨S0, hS0⟩ : ∃ z : GS, z = S := ⟨_, rfl⟩
  rw [← hS0] at hAe
  rw [← hS0]
  have hin1 : ∀ w ∈ wsX10, w ∈ wsX2_isTooShortFor := by decide +kernel
  have lk_71 := hts (.fieldLink RX2 71 "PauseLog$Entry" "took" "I") (by decide +kernel)
  have lk_78 := hts (.constantLong RX2 78 (999)) (by decide +kernel)
  have b_23 : ∀  (t0 : Int32) (S : GS) (H : Heap) (locs : List Loc) (ls : Array Slot), wX2_isTooShortFor_23 Q k0 t0 S → gSh S S0 → gS D Y ad A s.heap S H locs → lv_has ls 2 [] → W p l e (rmD 1) s m args below meth c H locs 0 0 (MQ below (gE D Y za ad S0 s.heap.size (fun r S9 => ∃ x, r = some (vI x) ∧ Q x S9)) args s 0 0 A) (F0 m 23 ls [.int t0]) := by
    intro  t0 S H locs ls h hsh hG hl
    unfold wX2_isTooShortFor_23 at h
    obtain ⟨hz1, h⟩ := h
    exact W.zret (v := t0) hx hb hr (nar01 hz1) (fun t ht hW => r_end (r := some (vI t0)) hAe hG hsh ⟨_, rfl, h⟩ rfl ht) hG.2.2.2.2 dX2_isTooShortFor_23
  have hl : lv_has ls 2 [(0, .ref (ad k0)), (1, .ref (ad x1))] := hl
  have hsh : gSh S S0 := by rw [hS0]; exact gSh.rf S
  obtain ⟨H, eH⟩ : ∃ z : Heap, z = s.heap := ⟨_, rfl⟩
  obtain ⟨locs, eL⟩ : ∃ z : List Loc, z = [] := ⟨_, rfl⟩
  have hG : gS D Y ad A s.heap S H locs := by rw [eH, eL]; exact hG
  suffices hgoal : W p l e (rmD 1) s m args below meth c H locs 0 0 (MQ below (gE D Y za ad S0 s.heap.size (fun r S9 => ∃ x, r = some (vI x) ∧ Q x S9)) args s 0 0 A) (F0 m 0 ls []) by rw [eH, eL] at hgoal; exact hgoal
  unfold wX2_isTooShortFor at h
  refine lv_aload_n hx hb dX2_isTooShortFor_0 rfl (lv_at hl 1 rfl) ?_
  obtain ⟨hk2, hq3, h⟩ := h
  refine g_get (ci := 1) (C := RX1) (T := TX1) (N := 9) hx hb hts hin1 hown hK hG hk2 (cell_1 hq3) rfl 8 (by decide) lk_71 (fun _ h9 => h9) (v := .int (gX S x1 8)) rfl dX2_isTooShortFor_1 ?_
  refine lv_i2l hx hb dX2_isTooShortFor_4 rfl ?_
  refine lv_aload_n hx hb dX2_isTooShortFor_5 rfl (lv_at hl 0 rfl) ?_
  refine lv_aload_n hx hb dX2_isTooShortFor_6 rfl (lv_at hl 1 rfl) ?_
  obtain ⟨hk4, hq5, h⟩ := h
  refine r_callV (za := za) (k := k0) (ci := 2) (C := RX2) (T := TX2) (N := 15) (As := [vR (some x1)]) (rest := [.long (Int32.toInt64 (gX S x1 8))]) (tX2_microsecondsUntil l S k0 x1 _ h) ⟨hx, hb, hml, hown, hts⟩ (cwV 1 hts gX2_isTooShortFor_X2_microsecondsUntil rfl rfl rfl (by decide +kernel) ⟨by decide, by decide⟩) hK hG hA hk4 (cell_2 hq5) rfl rfl hl.1 rfl (Nat.le_of_ble_eq_true rfl) ⟨Nat.zero_le _, Nat.zero_le _⟩ dX2_isTooShortFor_7 (fun r_9 S6 H locs hp hs_S6 hG => ?_)
  obtain ⟨u7, rfl, h⟩ := hp
  have h := h hs_S6
  refine W.eq (g2 := F0 m 10 ls [.long u7, .long (Int32.toInt64 (gX S x1 8))]) rfl ?_
  have hsh := hs_S6.tr hsh
  have hk8 := hs_S6.lt hk2
  have hq9 := hs_S6.kd hq3
  have hk10 := hs_S6.lt hk4
  have hq11 := hs_S6.kd hq5
  refine lv_ldc2 hx hb hown lk_78 dX2_isTooShortFor_10 ?_
  refine lv_ladd hx hb dX2_isTooShortFor_13 ?_
  refine W.lcmp hx hb dX2_isTooShortFor_14 ?_
  refine lv_if_le (tgt := 22) hx hb dX2_isTooShortFor_15 (by decide) (fun c_15 => ?_) (fun c_15 => ?_)
  · have h := h.1 c_15
    refine lv_iconst (v := 0) hx hb dX2_isTooShortFor_22 (by decide) ?_
    exact b_23 0 S6 H locs ls h hsh hG (lv_sub hl [] rfl)
  · have h := h.2 c_15
    refine lv_iconst (v := 1) hx hb dX2_isTooShortFor_18 (by decide) ?_
    refine lv_goto (tgt := 23) hx hb dX2_isTooShortFor_19 (by decide) ?_
    exact b_23 1 S6 H locs ls h hsh hG (lv_sub hl [] rfl)
def wX2_isAnotherPauseThan_27 (Q : Int32 → GS → Prop) (k0 : Nat) (t0 : Int32) (S : GS) : Prop :=
  (t0 = 0 ∨ t0 = 1) ∧ Q t0 S
def wX2_isAnotherPauseThan_22 (Q : Int32 → GS → Prop) (k0 : Nat)  (S : GS) : Prop :=
  wX2_isAnotherPauseThan_27 Q k0 1 S
def wX2_isAnotherPauseThan (S : GS) (k0 : Nat) (x1 : Nat) (Q : Int32 → GS → Prop) : Prop :=
  x1 < gN S ∧ gK S x1 = 1 ∧ k0 < gN S ∧ gK S k0 = 2 ∧ (¬ (gX S x1 1) = (gX S k0 4) → wX2_isAnotherPauseThan_22 Q k0  S) ∧ ((gX S x1 1) = (gX S k0 4) → ((gX S x1 2) = (gX S k0 2) → wX2_isAnotherPauseThan_27 Q k0 0 S) ∧ (¬ (gX S x1 2) = (gX S k0 2) → wX2_isAnotherPauseThan_22 Q k0  S))
set_option maxHeartbeats 4000000 in
set_option maxRecDepth 100000 in
theorem tX2_isAnotherPauseThan (l : Launch) (S : GS) (k0 : Nat) (x1 : Nat) (Q : Int32 → GS → Prop) (h : wX2_isAnotherPauseThan S k0 x1 Q) : CS l yX2_isAnotherPauseThan wsX2_isAnotherPauseThan 0 S [vR (some k0), vR (some x1)] (fun r S9 => ∃ x, r = some (vI x) ∧ Q x S9) := by
  refine CS.ofW (cc := cX2_isAnotherPauseThan) (maxL := 2) (ret := (some .boolean)) RX2 (by decide) rfl rfl (fun _ _ => Nat.le_of_ble_eq_true rfl) ?_
  intro p e s m args below meth c D Y za ad A ls hAe hx hb hr hml hts hown hlocks hK hA hG hl
  obtain ⟨S0, hS0⟩ : ∃ z : GS, z = S := ⟨_, rfl⟩
  rw [← hS0] at hAe
  rw [← hS0]
  have hin1 : ∀ w ∈ wsX10, w ∈ wsX2_isAnotherPauseThan := by decide +kernel
  have hin2 : ∀ w ∈ wsX20, w ∈ wsX2_isAnotherPauseThan := by decide +kernel
  have lk_34 := hts (.fieldLink RX2 34 "PauseLog$Entry" "kind" "I") (by decide +kernel)
  have lk_37 := hts (.fieldLink RX2 37 "PauseLog$Event" "kind" "I") (by decide +kernel)
  have lk_24 := hts (.fieldLink RX2 24 "PauseLog$Entry" "cause" "I") (by decide +kernel)
  have lk_27 := hts (.fieldLink RX2 27 "PauseLog$Event" "cause" "I") (by decide +kernel)
  have b_27 : ∀  (t0 : Int32) (S : GS) (H : Heap) (locs : List Loc) (ls : Array Slot), wX2_isAnotherPauseThan_27 Q k0 t0 S → gSh S S0 → gS D Y ad A s.heap S H locs → lv_has ls 2 [] → W p l e (rmD 0) s m args below meth c H locs 0 0 (MQ below (gE D Y za ad S0 s.heap.size (fun r S9 => ∃ x, r = some (vI x) ∧ Q x S9)) args s 0 0 A) (F0 m 27 ls [.int t0]) := by
    intro  t0 S H locs ls h hsh hG hl
    unfold wX2_isAnotherPauseThan_27 at h
    obtain ⟨hz1, h⟩ := h
    exact W.zret (v := t0) hx hb hr (nar01 hz1) (fun t ht hW => r_end (r := some (vI t0)) hAe hG hsh ⟨_, rfl, h⟩ rfl ht) hG.2.2.2.2 dX2_isAnotherPauseThan_27
  have b_22 : ∀   (S : GS) (H : Heap) (locs : List Loc) (ls : Array Slot), wX2_isAnotherPauseThan_22 Q k0  S → gSh S S0 → gS D Y ad A s.heap S H locs → lv_has ls 2 [] → W p l e (rmD 0) s m args below meth c H locs 0 0 (MQ below (gE D Y za ad S0 s.heap.size (fun r S9 => ∃ x, r = some (vI x) ∧ Q x S9)) args s 0 0 A) (F0 m 22 ls []) := by
    intro   S H locs ls h hsh hG hl
    unfold wX2_isAnotherPauseThan_22 at h
    refine lv_iconst (v := 1) hx hb dX2_isAnotherPauseThan_22 (by decide) ?_
    refine lv_goto (tgt := 27) hx hb dX2_isAnotherPauseThan_23 (by decide) ?_
    exact b_27 1 S H locs ls h hsh hG (lv_sub hl [] rfl)
  have hl : lv_has ls 2 [(0, .ref (ad k0)), (1, .ref (ad x1))] := hl
  have hsh : gSh S S0 := by rw [hS0]; exact gSh.rf S
  obtain ⟨H, eH⟩ : ∃ z : Heap, z = s.heap := ⟨_, rfl⟩
  obtain ⟨locs, eL⟩ : ∃ z : List Loc, z = [] := ⟨_, rfl⟩
  have hG : gS D Y ad A s.heap S H locs := by rw [eH, eL]; exact hG
  suffices hgoal : W p l e (rmD 0) s m args below meth c H locs 0 0 (MQ below (gE D Y za ad S0 s.heap.size (fun r S9 => ∃ x, r = some (vI x) ∧ Q x S9)) args s 0 0 A) (F0 m 0 ls []) by rw [eH, eL] at hgoal; exact hgoal
  unfold wX2_isAnotherPauseThan at h
  refine lv_aload_n hx hb dX2_isAnotherPauseThan_0 rfl (lv_at hl 1 rfl) ?_
  obtain ⟨hk2, hq3, h⟩ := h
  refine g_get (ci := 1) (C := RX1) (T := TX1) (N := 9) hx hb hts hin1 hown hK hG hk2 (cell_1 hq3) rfl 1 (by decide) lk_34 (fun _ h9 => h9) (v := .int (gX S x1 1)) rfl dX2_isAnotherPauseThan_1 ?_
  refine lv_aload_n hx hb dX2_isAnotherPauseThan_4 rfl (lv_at hl 0 rfl) ?_
  obtain ⟨hk4, hq5, h⟩ := h
  refine g_get (ci := 2) (C := RX2) (T := TX2) (N := 15) hx hb hts hin2 hown hK hG hk4 (cell_2 hq5) rfl 4 (by decide) lk_37 (fun _ h9 => h9) (v := .int (gX S k0 4)) rfl dX2_isAnotherPauseThan_5 ?_
  refine lv_icmp_ne (tgt := 22) hx hb dX2_isAnotherPauseThan_8 (by decide) (fun c_8 => ?_) (fun c_8 => ?_)
  · have h := h.1 c_8
    exact b_22  S H locs ls h hsh hG (lv_sub hl [] rfl)
  · have h := h.2 c_8
    refine lv_aload_n hx hb dX2_isAnotherPauseThan_11 rfl (lv_at hl 1 rfl) ?_
    refine g_get (ci := 1) (C := RX1) (T := TX1) (N := 9) hx hb hts hin1 hown hK hG hk2 (cell_1 hq3) rfl 2 (by decide) lk_24 (fun _ h9 => h9) (v := .int (gX S x1 2)) rfl dX2_isAnotherPauseThan_12 ?_
    refine lv_aload_n hx hb dX2_isAnotherPauseThan_15 rfl (lv_at hl 0 rfl) ?_
    refine g_get (ci := 2) (C := RX2) (T := TX2) (N := 15) hx hb hts hin2 hown hK hG hk4 (cell_2 hq5) rfl 2 (by decide) lk_27 (fun _ h9 => h9) (v := .int (gX S k0 2)) rfl dX2_isAnotherPauseThan_16 ?_
    refine lv_icmp_eq (tgt := 26) hx hb dX2_isAnotherPauseThan_19 (by decide) (fun c_19 => ?_) (fun c_19 => ?_)
    · have h := h.1 c_19
      refine lv_iconst (v := 0) hx hb dX2_isAnotherPauseThan_26 (by decide) ?_
      exact b_27 0 S H locs ls h hsh hG (lv_sub hl [] rfl)
    · have h := h.2 c_19
      exact b_22  S H locs ls h hsh hG (lv_sub hl [] rfl)
def wX2_hasNoRoomIn_75 (Q : Int32 → GS → Prop) (k0 : Nat) (t0 : Int32) (S : GS) : Prop :=
  (t0 = 0 ∨ t0 = 1) ∧ Q t0 S
def wX2_hasNoRoomIn_70 (Q : Int32 → GS → Prop) (k0 : Nat)  (S : GS) : Prop :=
  wX2_hasNoRoomIn_75 Q k0 1 S
def wX2_hasNoRoomIn (S : GS) (k0 : Nat) (x1 : Nat) (Q : Int32 → GS → Prop) : Prop :=
  x1 < gN S ∧ gK S x1 = 1 ∧ ((gX S x1 7) < (gX S x1 5) → wX2_hasNoRoomIn_70 Q k0  S) ∧ (¬ (gX S x1 7) < (gX S x1 5) → ((gX S x1 7) < (gX S x1 6) → wX2_hasNoRoomIn_70 Q k0  S) ∧ (¬ (gX S x1 7) < (gX S x1 6) → k0 < gN S ∧ gK S k0 = 2 ∧ ((gX S x1 5) < ((if (gX S k0 10) < 0 then 0 else (gX S k0 10)) + (if (gX S k0 12) < 0 then 0 else (gX S k0 12))) → wX2_hasNoRoomIn_70 Q k0  S) ∧ (¬ (gX S x1 5) < ((if (gX S k0 10) < 0 then 0 else (gX S k0 10)) + (if (gX S k0 12) < 0 then 0 else (gX S k0 12))) → (((if (gX S k0 11) < 0 then 0 else (gX S k0 11)) + (if (gX S k0 13) < 0 then 0 else (gX S k0 13))) ≤ (gX S x1 6) → wX2_hasNoRoomIn_75 Q k0 0 S) ∧ (¬ ((if (gX S k0 11) < 0 then 0 else (gX S k0 11)) + (if (gX S k0 13) < 0 then 0 else (gX S k0 13))) ≤ (gX S x1 6) → wX2_hasNoRoomIn_70 Q k0  S))))
set_option maxHeartbeats 4000000 in
set_option maxRecDepth 100000 in
theorem tX2_hasNoRoomIn (l : Launch) (S : GS) (k0 : Nat) (x1 : Nat) (Q : Int32 → GS → Prop) (h : wX2_hasNoRoomIn S k0 x1 Q) : CS l yX2_hasNoRoomIn wsX2_hasNoRoomIn 1 S [vR (some k0), vR (some x1)] (fun r S9 => ∃ x, r = some (vI x) ∧ Q x S9) := by
  refine CS.ofW (cc := cX2_hasNoRoomIn) (maxL := 2) (ret := (some .boolean)) RX2 (by decide) rfl rfl (fun _ _ => Nat.le_of_ble_eq_true rfl) ?_
  intro p e s m args below meth c D Y za ad A ls hAe hx hb hr hml hts hown hlocks hK hA hG hl
  obtain ⟨S0, hS0⟩ : ∃ z : GS, z = S := ⟨_, rfl⟩
  rw [← hS0] at hAe
  rw [← hS0]
  have hin1 : ∀ w ∈ wsX10, w ∈ wsX2_hasNoRoomIn := by decide +kernel
  have hin2 : ∀ w ∈ wsX20, w ∈ wsX2_hasNoRoomIn := by decide +kernel
  have lk_62 := hts (.fieldLink RX2 62 "PauseLog$Entry" "before" "I") (by decide +kernel)
  have lk_64 := hts (.fieldLink RX2 64 "PauseLog$Entry" "capacity" "I") (by decide +kernel)
  have lk_63 := hts (.fieldLink RX2 63 "PauseLog$Entry" "after" "I") (by decide +kernel)
  have lk_47 := hts (.fieldLink RX2 47 "PauseLog$Event" "edenBefore" "I") (by decide +kernel)
  have lk_53 := hts (.fieldLink RX2 53 "PauseLog$Event" "oldBefore" "I") (by decide +kernel)
  have lk_50 := hts (.fieldLink RX2 50 "PauseLog$Event" "edenAfter" "I") (by decide +kernel)
  have lk_56 := hts (.fieldLink RX2 56 "PauseLog$Event" "oldAfter" "I") (by decide +kernel)
  have b_75 : ∀  (t0 : Int32) (S : GS) (H : Heap) (locs : List Loc) (ls : Array Slot), wX2_hasNoRoomIn_75 Q k0 t0 S → gSh S S0 → gS D Y ad A s.heap S H locs → lv_has ls 2 [] → W p l e (rmD 1) s m args below meth c H locs 0 0 (MQ below (gE D Y za ad S0 s.heap.size (fun r S9 => ∃ x, r = some (vI x) ∧ Q x S9)) args s 0 0 A) (F0 m 75 ls [.int t0]) := by
    intro  t0 S H locs ls h hsh hG hl
    unfold wX2_hasNoRoomIn_75 at h
    obtain ⟨hz1, h⟩ := h
    exact W.zret (v := t0) hx hb hr (nar01 hz1) (fun t ht hW => r_end (r := some (vI t0)) hAe hG hsh ⟨_, rfl, h⟩ rfl ht) hG.2.2.2.2 dX2_hasNoRoomIn_75
  have b_70 : ∀   (S : GS) (H : Heap) (locs : List Loc) (ls : Array Slot), wX2_hasNoRoomIn_70 Q k0  S → gSh S S0 → gS D Y ad A s.heap S H locs → lv_has ls 2 [] → W p l e (rmD 1) s m args below meth c H locs 0 0 (MQ below (gE D Y za ad S0 s.heap.size (fun r S9 => ∃ x, r = some (vI x) ∧ Q x S9)) args s 0 0 A) (F0 m 70 ls []) := by
    intro   S H locs ls h hsh hG hl
    unfold wX2_hasNoRoomIn_70 at h
    refine lv_iconst (v := 1) hx hb dX2_hasNoRoomIn_70 (by decide) ?_
    refine lv_goto (tgt := 75) hx hb dX2_hasNoRoomIn_71 (by decide) ?_
    exact b_75 1 S H locs ls h hsh hG (lv_sub hl [] rfl)
  have hl : lv_has ls 2 [(0, .ref (ad k0)), (1, .ref (ad x1))] := hl
  have hsh : gSh S S0 := by rw [hS0]; exact gSh.rf S
  obtain ⟨H, eH⟩ : ∃ z : Heap, z = s.heap := ⟨_, rfl⟩
  obtain ⟨locs, eL⟩ : ∃ z : List Loc, z = [] := ⟨_, rfl⟩
  have hG : gS D Y ad A s.heap S H locs := by rw [eH, eL]; exact hG
  suffices hgoal : W p l e (rmD 1) s m args below meth c H locs 0 0 (MQ below (gE D Y za ad S0 s.heap.size (fun r S9 => ∃ x, r = some (vI x) ∧ Q x S9)) args s 0 0 A) (F0 m 0 ls []) by rw [eH, eL] at hgoal; exact hgoal
  unfold wX2_hasNoRoomIn at h
  refine lv_aload_n hx hb dX2_hasNoRoomIn_0 rfl (lv_at hl 1 rfl) ?_
  obtain ⟨hk2, hq3, h⟩ := h
  refine g_get (ci := 1) (C := RX1) (T := TX1) (N := 9) hx hb hts hin1 hown hK hG hk2 (cell_1 hq3) rfl 5 (by decide) lk_62 (fun _ h9 => h9) (v := .int (gX S x1 5)) rfl dX2_hasNoRoomIn_1 ?_
  refine lv_aload_n hx hb dX2_hasNoRoomIn_4 rfl (lv_at hl 1 rfl) ?_
  refine g_get (ci := 1) (C := RX1) (T := TX1) (N := 9) hx hb hts hin1 hown hK hG hk2 (cell_1 hq3) rfl 7 (by decide) lk_64 (fun _ h9 => h9) (v := .int (gX S x1 7)) rfl dX2_hasNoRoomIn_5 ?_
  refine lv_icmp_gt (tgt := 70) hx hb dX2_hasNoRoomIn_8 (by decide) (fun c_8 => ?_) (fun c_8 => ?_)
  · have h := h.1 c_8
    exact b_70  S H locs ls h hsh hG (lv_sub hl [] rfl)
  · have h := h.2 c_8
    refine lv_aload_n hx hb dX2_hasNoRoomIn_11 rfl (lv_at hl 1 rfl) ?_
    refine g_get (ci := 1) (C := RX1) (T := TX1) (N := 9) hx hb hts hin1 hown hK hG hk2 (cell_1 hq3) rfl 6 (by decide) lk_63 (fun _ h9 => h9) (v := .int (gX S x1 6)) rfl dX2_hasNoRoomIn_12 ?_
    refine lv_aload_n hx hb dX2_hasNoRoomIn_15 rfl (lv_at hl 1 rfl) ?_
    refine g_get (ci := 1) (C := RX1) (T := TX1) (N := 9) hx hb hts hin1 hown hK hG hk2 (cell_1 hq3) rfl 7 (by decide) lk_64 (fun _ h9 => h9) (v := .int (gX S x1 7)) rfl dX2_hasNoRoomIn_16 ?_
    refine lv_icmp_gt (tgt := 70) hx hb dX2_hasNoRoomIn_19 (by decide) (fun c_19 => ?_) (fun c_19 => ?_)
    · have h := h.1 c_19
      exact b_70  S H locs ls h hsh hG (lv_sub hl [] rfl)
    · have h := h.2 c_19
      refine lv_aload_n hx hb dX2_hasNoRoomIn_22 rfl (lv_at hl 1 rfl) ?_
      refine g_get (ci := 1) (C := RX1) (T := TX1) (N := 9) hx hb hts hin1 hown hK hG hk2 (cell_1 hq3) rfl 5 (by decide) lk_62 (fun _ h9 => h9) (v := .int (gX S x1 5)) rfl dX2_hasNoRoomIn_23 ?_
      refine lv_aload_n hx hb dX2_hasNoRoomIn_26 rfl (lv_at hl 0 rfl) ?_
      obtain ⟨hk4, hq5, h⟩ := h
      refine g_get (ci := 2) (C := RX2) (T := TX2) (N := 15) hx hb hts hin2 hown hK hG hk4 (cell_2 hq5) rfl 10 (by decide) lk_47 (fun _ h9 => h9) (v := .int (gX S k0 10)) rfl dX2_hasNoRoomIn_27 ?_
      refine lv_iconst (v := 0) hx hb dX2_hasNoRoomIn_30 (by decide) ?_
      refine va_mmax hx hb (hml.trans hl.1.symm) hown (hts (.methodLink RX2 65 Lib.Math.max.name) (by decide +kernel)) (hts (.static Lib.Math.max.name) (by decide +kernel)) (hts (.initialized "java/lang/Math") (by decide +kernel)) (hts (.code Lib.Math.max.name Lib.Math.max.code 2 (some .int)) (by decide +kernel)) (by decide) (Nat.le_of_ble_eq_true rfl) (Nat.le_refl _) (Nat.le_refl _) dX2_hasNoRoomIn_31 ?_
      refine lv_aload_n hx hb dX2_hasNoRoomIn_34 rfl (lv_at hl 0 rfl) ?_
      refine g_get (ci := 2) (C := RX2) (T := TX2) (N := 15) hx hb hts hin2 hown hK hG hk4 (cell_2 hq5) rfl 12 (by decide) lk_53 (fun _ h9 => h9) (v := .int (gX S k0 12)) rfl dX2_hasNoRoomIn_35 ?_
      refine lv_iconst (v := 0) hx hb dX2_hasNoRoomIn_38 (by decide) ?_
      refine va_mmax hx hb (hml.trans hl.1.symm) hown (hts (.methodLink RX2 65 Lib.Math.max.name) (by decide +kernel)) (hts (.static Lib.Math.max.name) (by decide +kernel)) (hts (.initialized "java/lang/Math") (by decide +kernel)) (hts (.code Lib.Math.max.name Lib.Math.max.code 2 (some .int)) (by decide +kernel)) (by decide) (Nat.le_of_ble_eq_true rfl) (Nat.le_refl _) (Nat.le_refl _) dX2_hasNoRoomIn_39 ?_
      refine lv_iadd hx hb dX2_hasNoRoomIn_42 ?_
      refine lv_icmp_lt (tgt := 70) hx hb dX2_hasNoRoomIn_43 (by decide) (fun c_43 => ?_) (fun c_43 => ?_)
      · have h := h.1 c_43
        exact b_70  S H locs ls h hsh hG (lv_sub hl [] rfl)
      · have h := h.2 c_43
        refine lv_aload_n hx hb dX2_hasNoRoomIn_46 rfl (lv_at hl 1 rfl) ?_
        refine g_get (ci := 1) (C := RX1) (T := TX1) (N := 9) hx hb hts hin1 hown hK hG hk2 (cell_1 hq3) rfl 6 (by decide) lk_63 (fun _ h9 => h9) (v := .int (gX S x1 6)) rfl dX2_hasNoRoomIn_47 ?_
        refine lv_aload_n hx hb dX2_hasNoRoomIn_50 rfl (lv_at hl 0 rfl) ?_
        refine g_get (ci := 2) (C := RX2) (T := TX2) (N := 15) hx hb hts hin2 hown hK hG hk4 (cell_2 hq5) rfl 11 (by decide) lk_50 (fun _ h9 => h9) (v := .int (gX S k0 11)) rfl dX2_hasNoRoomIn_51 ?_
        refine lv_iconst (v := 0) hx hb dX2_hasNoRoomIn_54 (by decide) ?_
        refine va_mmax hx hb (hml.trans hl.1.symm) hown (hts (.methodLink RX2 65 Lib.Math.max.name) (by decide +kernel)) (hts (.static Lib.Math.max.name) (by decide +kernel)) (hts (.initialized "java/lang/Math") (by decide +kernel)) (hts (.code Lib.Math.max.name Lib.Math.max.code 2 (some .int)) (by decide +kernel)) (by decide) (Nat.le_of_ble_eq_true rfl) (Nat.le_refl _) (Nat.le_refl _) dX2_hasNoRoomIn_55 ?_
        refine lv_aload_n hx hb dX2_hasNoRoomIn_58 rfl (lv_at hl 0 rfl) ?_
        refine g_get (ci := 2) (C := RX2) (T := TX2) (N := 15) hx hb hts hin2 hown hK hG hk4 (cell_2 hq5) rfl 13 (by decide) lk_56 (fun _ h9 => h9) (v := .int (gX S k0 13)) rfl dX2_hasNoRoomIn_59 ?_
        refine lv_iconst (v := 0) hx hb dX2_hasNoRoomIn_62 (by decide) ?_
        refine va_mmax hx hb (hml.trans hl.1.symm) hown (hts (.methodLink RX2 65 Lib.Math.max.name) (by decide +kernel)) (hts (.static Lib.Math.max.name) (by decide +kernel)) (hts (.initialized "java/lang/Math") (by decide +kernel)) (hts (.code Lib.Math.max.name Lib.Math.max.code 2 (some .int)) (by decide +kernel)) (by decide) (Nat.le_of_ble_eq_true rfl) (Nat.le_refl _) (Nat.le_refl _) dX2_hasNoRoomIn_63 ?_
        refine lv_iadd hx hb dX2_hasNoRoomIn_66 ?_
        refine lv_icmp_ge (tgt := 74) hx hb dX2_hasNoRoomIn_67 (by decide) (fun c_67 => ?_) (fun c_67 => ?_)
        · have h := h.1 c_67
          refine lv_iconst (v := 0) hx hb dX2_hasNoRoomIn_74 (by decide) ?_
          exact b_75 0 S H locs ls h hsh hG (lv_sub hl [] rfl)
        · have h := h.2 c_67
          exact b_70  S H locs ls h hsh hG (lv_sub hl [] rfl)
def wX2_addPart_74 (Q : Int32 → GS → Prop) (k0 : Nat)  (S : GS) : Prop :=
  k0 < gN S ∧ gK S k0 = 2 ∧ ∀ S3 : GS, S3 = sX S k0 14 ((gX S k0 14) + 1) → Q 1 S3
def wX2_addPart_29 (Q : Int32 → GS → Prop) (k0 : Nat) (x1 : Nat) (x2 : Int32) (t0 : Int32) (S : GS) : Prop :=
  (t0 = (-1) → (x2 = 0 → x1 < gN S ∧ gK S x1 = 1 ∧ k0 < gN S ∧ gK S k0 = 2 ∧ ∀ S10 : GS, S10 = sX S k0 12 (gX S x1 5) → ∀ S15 : GS, S15 = sX S10 k0 13 (gX S10 x1 6) → wX2_addPart_74 Q k0  S15) ∧ (¬ x2 = 0 → x1 < gN S ∧ gK S x1 = 1 ∧ k0 < gN S ∧ gK S k0 = 2 ∧ ∀ S24 : GS, S24 = sX S k0 10 (gX S x1 5) → ∀ S29 : GS, S29 = sX S24 k0 11 (gX S24 x1 6) → wX2_addPart_74 Q k0  S29)) ∧ (¬ t0 = (-1) → Q 0 S)
def wX2_addPart_13 (Q : Int32 → GS → Prop) (k0 : Nat) (x1 : Nat) (t0 : Int32) (S : GS) : Prop :=
  (t0 = 0 → k0 < gN S ∧ gK S k0 = 2 ∧ wX2_addPart_29 Q k0 x1 t0 (gX S k0 12) S) ∧ (¬ t0 = 0 → k0 < gN S ∧ gK S k0 = 2 ∧ wX2_addPart_29 Q k0 x1 t0 (gX S k0 10) S)
def wX2_addPart (S : GS) (k0 : Nat) (x1 : Nat) (Q : Int32 → GS → Prop) : Prop :=
  x1 < gN S ∧ gK S x1 = 1 ∧ (¬ (gX S x1 0) = 2 → wX2_addPart_13 Q k0 x1 0 S) ∧ ((gX S x1 0) = 2 → wX2_addPart_13 Q k0 x1 1 S)
set_option maxHeartbeats 4000000 in
set_option maxRecDepth 100000 in
theorem tX2_addPart (l : Launch) (S : GS) (k0 : Nat) (x1 : Nat) (Q : Int32 → GS → Prop) (h : wX2_addPart S k0 x1 Q) : CS l yX2_addPart wsX2_addPart 0 S [vR (some k0), vR (some x1)] (fun r S9 => ∃ x, r = some (vI x) ∧ Q x S9) := by
  refine CS.ofW (cc := cX2_addPart) (maxL := 3) (ret := (some .boolean)) RX2 (by decide) rfl rfl (fun _ _ => Nat.le_of_ble_eq_true rfl) ?_
  intro p e s m args below meth c D Y za ad A ls hAe hx hb hr hml hts hown hlocks hK hA hG hl
  obtain ⟨S0, hS0⟩ : ∃ z : GS, z = S := ⟨_, rfl⟩
  rw [← hS0] at hAe
  rw [← hS0]
  have hin1 : ∀ w ∈ wsX10, w ∈ wsX2_addPart := by decide +kernel
  have hin2 : ∀ w ∈ wsX20, w ∈ wsX2_addPart := by decide +kernel
  have lk_9 := hts (.fieldLink RX2 9 "PauseLog$Entry" "shape" "I") (by decide +kernel)
  have lk_47 := hts (.fieldLink RX2 47 "PauseLog$Event" "edenBefore" "I") (by decide +kernel)
  have lk_53 := hts (.fieldLink RX2 53 "PauseLog$Event" "oldBefore" "I") (by decide +kernel)
  have lk_62 := hts (.fieldLink RX2 62 "PauseLog$Entry" "before" "I") (by decide +kernel)
  have lk_63 := hts (.fieldLink RX2 63 "PauseLog$Entry" "after" "I") (by decide +kernel)
  have lk_50 := hts (.fieldLink RX2 50 "PauseLog$Event" "edenAfter" "I") (by decide +kernel)
  have lk_56 := hts (.fieldLink RX2 56 "PauseLog$Event" "oldAfter" "I") (by decide +kernel)
  have lk_59 := hts (.fieldLink RX2 59 "PauseLog$Event" "lines" "I") (by decide +kernel)
  have b_74 : ∀   (S : GS) (H : Heap) (locs : List Loc) (ls : Array Slot), wX2_addPart_74 Q k0  S → gSh S S0 → gS D Y ad A s.heap S H locs → lv_has ls 3 [(0, .ref (ad k0))] → W p l e (rmD 0) s m args below meth c H locs 0 0 (MQ below (gE D Y za ad S0 s.heap.size (fun r S9 => ∃ x, r = some (vI x) ∧ Q x S9)) args s 0 0 A) (F0 m 74 ls []) := by
    intro   S H locs ls h hsh hG hl
    unfold wX2_addPart_74 at h
    refine lv_aload_n hx hb dX2_addPart_74 rfl (lv_at hl 0 rfl) ?_
    refine lv_dup hx hb dX2_addPart_75 rfl ?_
    obtain ⟨hk1, hq2, h⟩ := h
    refine g_get (ci := 2) (C := RX2) (T := TX2) (N := 15) hx hb hts hin2 hown hK hG hk1 (cell_2 hq2) rfl 14 (by decide) lk_59 (fun _ h9 => h9) (v := .int (gX S k0 14)) rfl dX2_addPart_76 ?_
    refine lv_iconst (v := 1) hx hb dX2_addPart_79 (by decide) ?_
    refine lv_iadd hx hb dX2_addPart_80 ?_
    refine r_put (ci := 2) (C := RX2) (T := TX2) (N := 15) hx hb hts hin2 tyX2 tyX2_ok nmX2 hown hK hG hk1 (cell_2 hq2) rfl 14 (by decide) lk_59 (fun _ h9 => h9) rfl rfl rfl (Nat.le_of_ble_eq_true rfl) (S' := sX S k0 14 ((gX S k0 14) + 1)) rfl (pu_2_14 hq2 ((gX S k0 14) + 1)) dX2_addPart_81 (fun H locs hG => ?_)
    obtain ⟨S3, eS_S3⟩ : ∃ z : GS, z = sX S k0 14 ((gX S k0 14) + 1) := ⟨_, rfl⟩
    have h := h S3 eS_S3
    rw [← eS_S3] at hG
    have hs_S3 : gSh S3 S := by rw [eS_S3]; exact gSh.x _ _ _ _
    have hsh := hs_S3.tr hsh
    have hk4 := hs_S3.lt hk1
    have hq5 := hs_S3.kd hq2
    refine lv_iconst (v := 1) hx hb dX2_addPart_84 (by decide) ?_
    exact W.zret (v := 1) hx hb hr rfl (fun t ht hW => r_end (r := some (vI 1)) hAe hG hsh ⟨_, rfl, h⟩ rfl ht) hG.2.2.2.2 dX2_addPart_85
  have b_29 : ∀  (x1 : Nat) (x2 : Int32) (t0 : Int32) (S : GS) (H : Heap) (locs : List Loc) (ls : Array Slot), wX2_addPart_29 Q k0 x1 x2 t0 S → gSh S S0 → gS D Y ad A s.heap S H locs → lv_has ls 3 [(0, .ref (ad k0)), (1, .ref (ad x1)), (2, .int x2)] → W p l e (rmD 0) s m args below meth c H locs 0 0 (MQ below (gE D Y za ad S0 s.heap.size (fun r S9 => ∃ x, r = some (vI x) ∧ Q x S9)) args s 0 0 A) (F0 m 29 ls [.int t0]) := by
    intro  x1 x2 t0 S H locs ls h hsh hG hl
    unfold wX2_addPart_29 at h
    refine lv_iconst (v := (-1)) hx hb dX2_addPart_29 (by decide) ?_
    refine lv_icmp_eq (tgt := 35) hx hb dX2_addPart_30 (by decide) (fun c_30 => ?_) (fun c_30 => ?_)
    · have h := h.1 c_30
      refine lv_iload_n hx hb dX2_addPart_35 rfl (lv_at hl 2 rfl) ?_
      refine lv_if_eq (tgt := 58) hx hb dX2_addPart_36 (by decide) (fun c_36 => ?_) (fun c_36 => ?_)
      · have h := h.1 c_36
        refine lv_aload_n hx hb dX2_addPart_58 rfl (lv_at hl 0 rfl) ?_
        refine lv_aload_n hx hb dX2_addPart_59 rfl (lv_at hl 1 rfl) ?_
        obtain ⟨hk6, hq7, h⟩ := h
        refine g_get (ci := 1) (C := RX1) (T := TX1) (N := 9) hx hb hts hin1 hown hK hG hk6 (cell_1 hq7) rfl 5 (by decide) lk_62 (fun _ h9 => h9) (v := .int (gX S x1 5)) rfl dX2_addPart_60 ?_
        obtain ⟨hk8, hq9, h⟩ := h
        refine r_put (ci := 2) (C := RX2) (T := TX2) (N := 15) hx hb hts hin2 tyX2 tyX2_ok nmX2 hown hK hG hk8 (cell_2 hq9) rfl 12 (by decide) lk_53 (fun _ h9 => h9) rfl rfl rfl (Nat.le_of_ble_eq_true rfl) (S' := sX S k0 12 (gX S x1 5)) rfl (pu_2_12 hq9 (gX S x1 5)) dX2_addPart_63 (fun H locs hG => ?_)
        obtain ⟨S10, eS_S10⟩ : ∃ z : GS, z = sX S k0 12 (gX S x1 5) := ⟨_, rfl⟩
        have h := h S10 eS_S10
        rw [← eS_S10] at hG
        have hs_S10 : gSh S10 S := by rw [eS_S10]; exact gSh.x _ _ _ _
        have hsh := hs_S10.tr hsh
        have hk11 := hs_S10.lt hk6
        have hq12 := hs_S10.kd hq7
        have hk13 := hs_S10.lt hk8
        have hq14 := hs_S10.kd hq9
        refine lv_aload_n hx hb dX2_addPart_66 rfl (lv_at hl 0 rfl) ?_
        refine lv_aload_n hx hb dX2_addPart_67 rfl (lv_at hl 1 rfl) ?_
        refine g_get (ci := 1) (C := RX1) (T := TX1) (N := 9) hx hb hts hin1 hown hK hG hk11 (cell_1 hq12) rfl 6 (by decide) lk_63 (fun _ h9 => h9) (v := .int (gX S10 x1 6)) rfl dX2_addPart_68 ?_
        refine r_put (ci := 2) (C := RX2) (T := TX2) (N := 15) hx hb hts hin2 tyX2 tyX2_ok nmX2 hown hK hG hk13 (cell_2 hq14) rfl 13 (by decide) lk_56 (fun _ h9 => h9) rfl rfl rfl (Nat.le_of_ble_eq_true rfl) (S' := sX S10 k0 13 (gX S10 x1 6)) rfl (pu_2_13 hq14 (gX S10 x1 6)) dX2_addPart_71 (fun H locs hG => ?_)
        obtain ⟨S15, eS_S15⟩ : ∃ z : GS, z = sX S10 k0 13 (gX S10 x1 6) := ⟨_, rfl⟩
        have h := h S15 eS_S15
        rw [← eS_S15] at hG
        have hs_S15 : gSh S15 S10 := by rw [eS_S15]; exact gSh.x _ _ _ _
        have hsh := hs_S15.tr hsh
        have hk16 := hs_S15.lt hk11
        have hq17 := hs_S15.kd hq12
        have hk18 := hs_S15.lt hk13
        have hq19 := hs_S15.kd hq14
        exact b_74  S15 H locs ls h hsh hG (lv_sub hl [0] rfl)
      · have h := h.2 c_36
        refine lv_aload_n hx hb dX2_addPart_39 rfl (lv_at hl 0 rfl) ?_
        refine lv_aload_n hx hb dX2_addPart_40 rfl (lv_at hl 1 rfl) ?_
        obtain ⟨hk20, hq21, h⟩ := h
        refine g_get (ci := 1) (C := RX1) (T := TX1) (N := 9) hx hb hts hin1 hown hK hG hk20 (cell_1 hq21) rfl 5 (by decide) lk_62 (fun _ h9 => h9) (v := .int (gX S x1 5)) rfl dX2_addPart_41 ?_
        obtain ⟨hk22, hq23, h⟩ := h
        refine r_put (ci := 2) (C := RX2) (T := TX2) (N := 15) hx hb hts hin2 tyX2 tyX2_ok nmX2 hown hK hG hk22 (cell_2 hq23) rfl 10 (by decide) lk_47 (fun _ h9 => h9) rfl rfl rfl (Nat.le_of_ble_eq_true rfl) (S' := sX S k0 10 (gX S x1 5)) rfl (pu_2_10 hq23 (gX S x1 5)) dX2_addPart_44 (fun H locs hG => ?_)
        obtain ⟨S24, eS_S24⟩ : ∃ z : GS, z = sX S k0 10 (gX S x1 5) := ⟨_, rfl⟩
        have h := h S24 eS_S24
        rw [← eS_S24] at hG
        have hs_S24 : gSh S24 S := by rw [eS_S24]; exact gSh.x _ _ _ _
        have hsh := hs_S24.tr hsh
        have hk25 := hs_S24.lt hk20
        have hq26 := hs_S24.kd hq21
        have hk27 := hs_S24.lt hk22
        have hq28 := hs_S24.kd hq23
        refine lv_aload_n hx hb dX2_addPart_47 rfl (lv_at hl 0 rfl) ?_
        refine lv_aload_n hx hb dX2_addPart_48 rfl (lv_at hl 1 rfl) ?_
        refine g_get (ci := 1) (C := RX1) (T := TX1) (N := 9) hx hb hts hin1 hown hK hG hk25 (cell_1 hq26) rfl 6 (by decide) lk_63 (fun _ h9 => h9) (v := .int (gX S24 x1 6)) rfl dX2_addPart_49 ?_
        refine r_put (ci := 2) (C := RX2) (T := TX2) (N := 15) hx hb hts hin2 tyX2 tyX2_ok nmX2 hown hK hG hk27 (cell_2 hq28) rfl 11 (by decide) lk_50 (fun _ h9 => h9) rfl rfl rfl (Nat.le_of_ble_eq_true rfl) (S' := sX S24 k0 11 (gX S24 x1 6)) rfl (pu_2_11 hq28 (gX S24 x1 6)) dX2_addPart_52 (fun H locs hG => ?_)
        obtain ⟨S29, eS_S29⟩ : ∃ z : GS, z = sX S24 k0 11 (gX S24 x1 6) := ⟨_, rfl⟩
        have h := h S29 eS_S29
        rw [← eS_S29] at hG
        have hs_S29 : gSh S29 S24 := by rw [eS_S29]; exact gSh.x _ _ _ _
        have hsh := hs_S29.tr hsh
        have hk30 := hs_S29.lt hk25
        have hq31 := hs_S29.kd hq26
        have hk32 := hs_S29.lt hk27
        have hq33 := hs_S29.kd hq28
        refine lv_goto (tgt := 74) hx hb dX2_addPart_55 (by decide) ?_
        exact b_74  S29 H locs ls h hsh hG (lv_sub hl [0] rfl)
    · have h := h.2 c_30
      refine lv_iconst (v := 0) hx hb dX2_addPart_33 (by decide) ?_
      exact W.zret (v := 0) hx hb hr rfl (fun t ht hW => r_end (r := some (vI 0)) hAe hG hsh ⟨_, rfl, h⟩ rfl ht) hG.2.2.2.2 dX2_addPart_34
  have b_13 : ∀  (x1 : Nat) (t0 : Int32) (S : GS) (H : Heap) (locs : List Loc) (ls : Array Slot), wX2_addPart_13 Q k0 x1 t0 S → gSh S S0 → gS D Y ad A s.heap S H locs → lv_has ls 3 [(0, .ref (ad k0)), (1, .ref (ad x1))] → W p l e (rmD 0) s m args below meth c H locs 0 0 (MQ below (gE D Y za ad S0 s.heap.size (fun r S9 => ∃ x, r = some (vI x) ∧ Q x S9)) args s 0 0 A) (F0 m 13 ls [.int t0]) := by
    intro  x1 t0 S H locs ls h hsh hG hl
    unfold wX2_addPart_13 at h
    refine lv_istore_n (lv' := [(2, .int t0), (0, .ref (ad k0)), (1, .ref (ad x1))]) hx hb dX2_addPart_13 rfl hl (by decide) rfl (fun ls hl => ?_)
    refine lv_iload_n hx hb dX2_addPart_14 rfl (lv_at hl 0 rfl) ?_
    refine lv_if_eq (tgt := 25) hx hb dX2_addPart_15 (by decide) (fun c_15 => ?_) (fun c_15 => ?_)
    · have h := h.1 c_15
      refine lv_aload_n hx hb dX2_addPart_25 rfl (lv_at hl 1 rfl) ?_
      obtain ⟨hk34, hq35, h⟩ := h
      refine g_get (ci := 2) (C := RX2) (T := TX2) (N := 15) hx hb hts hin2 hown hK hG hk34 (cell_2 hq35) rfl 12 (by decide) lk_53 (fun _ h9 => h9) (v := .int (gX S k0 12)) rfl dX2_addPart_26 ?_
      exact b_29 x1 t0 (gX S k0 12) S H locs ls h hsh hG (lv_sub hl [1, 2, 0] rfl)
    · have h := h.2 c_15
      refine lv_aload_n hx hb dX2_addPart_18 rfl (lv_at hl 1 rfl) ?_
      obtain ⟨hk36, hq37, h⟩ := h
      refine g_get (ci := 2) (C := RX2) (T := TX2) (N := 15) hx hb hts hin2 hown hK hG hk36 (cell_2 hq37) rfl 10 (by decide) lk_47 (fun _ h9 => h9) (v := .int (gX S k0 10)) rfl dX2_addPart_19 ?_
      refine lv_goto (tgt := 29) hx hb dX2_addPart_22 (by decide) ?_
      exact b_29 x1 t0 (gX S k0 10) S H locs ls h hsh hG (lv_sub hl [1, 2, 0] rfl)
  have hl : lv_has ls 3 [(0, .ref (ad k0)), (1, .ref (ad x1))] := hl
  have hsh : gSh S S0 := by rw [hS0]; exact gSh.rf S
  obtain ⟨H, eH⟩ : ∃ z : Heap, z = s.heap := ⟨_, rfl⟩
  obtain ⟨locs, eL⟩ : ∃ z : List Loc, z = [] := ⟨_, rfl⟩
  have hG : gS D Y ad A s.heap S H locs := by rw [eH, eL]; exact hG
  suffices hgoal : W p l e (rmD 0) s m args below meth c H locs 0 0 (MQ below (gE D Y za ad S0 s.heap.size (fun r S9 => ∃ x, r = some (vI x) ∧ Q x S9)) args s 0 0 A) (F0 m 0 ls []) by rw [eH, eL] at hgoal; exact hgoal
  unfold wX2_addPart at h
  refine lv_aload_n hx hb dX2_addPart_0 rfl (lv_at hl 1 rfl) ?_
  obtain ⟨hk38, hq39, h⟩ := h
  refine g_get (ci := 1) (C := RX1) (T := TX1) (N := 9) hx hb hts hin1 hown hK hG hk38 (cell_1 hq39) rfl 0 (by decide) lk_9 (fun _ h9 => h9) (v := .int (gX S x1 0)) rfl dX2_addPart_1 ?_
  refine lv_iconst (v := 2) hx hb dX2_addPart_4 (by decide) ?_
  refine lv_icmp_ne (tgt := 12) hx hb dX2_addPart_5 (by decide) (fun c_5 => ?_) (fun c_5 => ?_)
  · have h := h.1 c_5
    refine lv_iconst (v := 0) hx hb dX2_addPart_12 (by decide) ?_
    exact b_13 x1 0 S H locs ls h hsh hG (lv_sub hl [0, 1] rfl)
  · have h := h.2 c_5
    refine lv_iconst (v := 1) hx hb dX2_addPart_8 (by decide) ?_
    refine lv_goto (tgt := 13) hx hb dX2_addPart_9 (by decide) ?_
    exact b_13 x1 1 S H locs ls h hsh hG (lv_sub hl [0, 1] rfl)
def wX2_endAsPause (S : GS) (k0 : Nat) (x1 : Nat) (Q : GS → Prop) : Prop :=
  x1 < gN S ∧ gK S x1 = 1 ∧ k0 < gN S ∧ gK S k0 = 2 ∧ ∀ S5 : GS, S5 = sX S k0 5 (gX S x1 4) → ∀ S10 : GS, S10 = sX S5 k0 6 (gX S5 x1 5) → ∀ S15 : GS, S15 = sX S10 k0 7 (gX S10 x1 6) → ∀ S20 : GS, S20 = sX S15 k0 8 (gX S15 x1 7) → ∀ S25 : GS, S25 = sX S20 k0 9 (gX S20 x1 8) → ∀ S30 : GS, S30 = sX S25 k0 14 ((gX S25 k0 14) + 1) → Q S30
set_option maxHeartbeats 4000000 in
set_option maxRecDepth 100000 in
theorem tX2_endAsPause (l : Launch) (S : GS) (k0 : Nat) (x1 : Nat) (Q : GS → Prop) (h : wX2_endAsPause S k0 x1 Q) : CS l yX2_endAsPause wsX2_endAsPause 0 S [vR (some k0), vR (some x1)] (fun r S9 => r = none ∧ Q S9) := by
  refine CS.ofW (cc := cX2_endAsPause) (maxL := 2) (ret := none) RX2 (by decide) rfl rfl (fun _ _ => Nat.le_of_ble_eq_true rfl) ?_
  intro p e s m args below meth c D Y za ad A ls hAe hx hb hr hml hts hown hlocks hK hA hG hl
  obtain ⟨S0, hS0⟩ : ∃ z : GS, z = S := ⟨_, rfl⟩
  rw [← hS0] at hAe
  rw [← hS0]
  have hin1 : ∀ w ∈ wsX10, w ∈ wsX2_endAsPause := by decide +kernel
  have hin2 : ∀ w ∈ wsX20, w ∈ wsX2_endAsPause := by decide +kernel
  have lk_28 := hts (.fieldLink RX2 28 "PauseLog$Entry" "time" "I") (by decide +kernel)
  have lk_82 := hts (.fieldLink RX2 82 "PauseLog$Event" "endTime" "I") (by decide +kernel)
  have lk_62 := hts (.fieldLink RX2 62 "PauseLog$Entry" "before" "I") (by decide +kernel)
  have lk_38 := hts (.fieldLink RX2 38 "PauseLog$Event" "before" "I") (by decide +kernel)
  have lk_63 := hts (.fieldLink RX2 63 "PauseLog$Entry" "after" "I") (by decide +kernel)
  have lk_41 := hts (.fieldLink RX2 41 "PauseLog$Event" "after" "I") (by decide +kernel)
  have lk_64 := hts (.fieldLink RX2 64 "PauseLog$Entry" "capacity" "I") (by decide +kernel)
  have lk_44 := hts (.fieldLink RX2 44 "PauseLog$Event" "capacity" "I") (by decide +kernel)
  have lk_71 := hts (.fieldLink RX2 71 "PauseLog$Entry" "took" "I") (by decide +kernel)
  have lk_85 := hts (.fieldLink RX2 85 "PauseLog$Event" "took" "I") (by decide +kernel)
  have lk_59 := hts (.fieldLink RX2 59 "PauseLog$Event" "lines" "I") (by decide +kernel)
  have hl : lv_has ls 2 [(0, .ref (ad k0)), (1, .ref (ad x1))] := hl
  have hsh : gSh S S0 := by rw [hS0]; exact gSh.rf S
  obtain ⟨H, eH⟩ : ∃ z : Heap, z = s.heap := ⟨_, rfl⟩
  obtain ⟨locs, eL⟩ : ∃ z : List Loc, z = [] := ⟨_, rfl⟩
  have hG : gS D Y ad A s.heap S H locs := by rw [eH, eL]; exact hG
  suffices hgoal : W p l e (rmD 0) s m args below meth c H locs 0 0 (MQ below (gE D Y za ad S0 s.heap.size (fun r S9 => r = none ∧ Q S9)) args s 0 0 A) (F0 m 0 ls []) by rw [eH, eL] at hgoal; exact hgoal
  unfold wX2_endAsPause at h
  refine lv_aload_n hx hb dX2_endAsPause_0 rfl (lv_at hl 0 rfl) ?_
  refine lv_aload_n hx hb dX2_endAsPause_1 rfl (lv_at hl 1 rfl) ?_
  obtain ⟨hk1, hq2, h⟩ := h
  refine g_get (ci := 1) (C := RX1) (T := TX1) (N := 9) hx hb hts hin1 hown hK hG hk1 (cell_1 hq2) rfl 4 (by decide) lk_28 (fun _ h9 => h9) (v := .int (gX S x1 4)) rfl dX2_endAsPause_2 ?_
  obtain ⟨hk3, hq4, h⟩ := h
  refine r_put (ci := 2) (C := RX2) (T := TX2) (N := 15) hx hb hts hin2 tyX2 tyX2_ok nmX2 hown hK hG hk3 (cell_2 hq4) rfl 5 (by decide) lk_82 (fun _ h9 => h9) rfl rfl rfl (Nat.le_of_ble_eq_true rfl) (S' := sX S k0 5 (gX S x1 4)) rfl (pu_2_5 hq4 (gX S x1 4)) dX2_endAsPause_5 (fun H locs hG => ?_)
  obtain ⟨S5, eS_S5⟩ : ∃ z : GS, z = sX S k0 5 (gX S x1 4) := ⟨_, rfl⟩
  have h := h S5 eS_S5
  rw [← eS_S5] at hG
  have hs_S5 : gSh S5 S := by rw [eS_S5]; exact gSh.x _ _ _ _
  have hsh := hs_S5.tr hsh
  have hk6 := hs_S5.lt hk1
  have hq7 := hs_S5.kd hq2
  have hk8 := hs_S5.lt hk3
  have hq9 := hs_S5.kd hq4
  refine lv_aload_n hx hb dX2_endAsPause_8 rfl (lv_at hl 0 rfl) ?_
  refine lv_aload_n hx hb dX2_endAsPause_9 rfl (lv_at hl 1 rfl) ?_
  refine g_get (ci := 1) (C := RX1) (T := TX1) (N := 9) hx hb hts hin1 hown hK hG hk6 (cell_1 hq7) rfl 5 (by decide) lk_62 (fun _ h9 => h9) (v := .int (gX S5 x1 5)) rfl dX2_endAsPause_10 ?_
  refine r_put (ci := 2) (C := RX2) (T := TX2) (N := 15) hx hb hts hin2 tyX2 tyX2_ok nmX2 hown hK hG hk8 (cell_2 hq9) rfl 6 (by decide) lk_38 (fun _ h9 => h9) rfl rfl rfl (Nat.le_of_ble_eq_true rfl) (S' := sX S5 k0 6 (gX S5 x1 5)) rfl (pu_2_6 hq9 (gX S5 x1 5)) dX2_endAsPause_13 (fun H locs hG => ?_)
  obtain ⟨S10, eS_S10⟩ : ∃ z : GS, z = sX S5 k0 6 (gX S5 x1 5) := ⟨_, rfl⟩
  have h := h S10 eS_S10
  rw [← eS_S10] at hG
  have hs_S10 : gSh S10 S5 := by rw [eS_S10]; exact gSh.x _ _ _ _
  have hsh := hs_S10.tr hsh
  have hk11 := hs_S10.lt hk6
  have hq12 := hs_S10.kd hq7
  have hk13 := hs_S10.lt hk8
  have hq14 := hs_S10.kd hq9
  refine lv_aload_n hx hb dX2_endAsPause_16 rfl (lv_at hl 0 rfl) ?_
  refine lv_aload_n hx hb dX2_endAsPause_17 rfl (lv_at hl 1 rfl) ?_
  refine g_get (ci := 1) (C := RX1) (T := TX1) (N := 9) hx hb hts hin1 hown hK hG hk11 (cell_1 hq12) rfl 6 (by decide) lk_63 (fun _ h9 => h9) (v := .int (gX S10 x1 6)) rfl dX2_endAsPause_18 ?_
  refine r_put (ci := 2) (C := RX2) (T := TX2) (N := 15) hx hb hts hin2 tyX2 tyX2_ok nmX2 hown hK hG hk13 (cell_2 hq14) rfl 7 (by decide) lk_41 (fun _ h9 => h9) rfl rfl rfl (Nat.le_of_ble_eq_true rfl) (S' := sX S10 k0 7 (gX S10 x1 6)) rfl (pu_2_7 hq14 (gX S10 x1 6)) dX2_endAsPause_21 (fun H locs hG => ?_)
  obtain ⟨S15, eS_S15⟩ : ∃ z : GS, z = sX S10 k0 7 (gX S10 x1 6) := ⟨_, rfl⟩
  have h := h S15 eS_S15
  rw [← eS_S15] at hG
  have hs_S15 : gSh S15 S10 := by rw [eS_S15]; exact gSh.x _ _ _ _
  have hsh := hs_S15.tr hsh
  have hk16 := hs_S15.lt hk11
  have hq17 := hs_S15.kd hq12
  have hk18 := hs_S15.lt hk13
  have hq19 := hs_S15.kd hq14
  refine lv_aload_n hx hb dX2_endAsPause_24 rfl (lv_at hl 0 rfl) ?_
  refine lv_aload_n hx hb dX2_endAsPause_25 rfl (lv_at hl 1 rfl) ?_
  refine g_get (ci := 1) (C := RX1) (T := TX1) (N := 9) hx hb hts hin1 hown hK hG hk16 (cell_1 hq17) rfl 7 (by decide) lk_64 (fun _ h9 => h9) (v := .int (gX S15 x1 7)) rfl dX2_endAsPause_26 ?_
  refine r_put (ci := 2) (C := RX2) (T := TX2) (N := 15) hx hb hts hin2 tyX2 tyX2_ok nmX2 hown hK hG hk18 (cell_2 hq19) rfl 8 (by decide) lk_44 (fun _ h9 => h9) rfl rfl rfl (Nat.le_of_ble_eq_true rfl) (S' := sX S15 k0 8 (gX S15 x1 7)) rfl (pu_2_8 hq19 (gX S15 x1 7)) dX2_endAsPause_29 (fun H locs hG => ?_)
  obtain ⟨S20, eS_S20⟩ : ∃ z : GS, z = sX S15 k0 8 (gX S15 x1 7) := ⟨_, rfl⟩
  have h := h S20 eS_S20
  rw [← eS_S20] at hG
  have hs_S20 : gSh S20 S15 := by rw [eS_S20]; exact gSh.x _ _ _ _
  have hsh := hs_S20.tr hsh
  have hk21 := hs_S20.lt hk16
  have hq22 := hs_S20.kd hq17
  have hk23 := hs_S20.lt hk18
  have hq24 := hs_S20.kd hq19
  refine lv_aload_n hx hb dX2_endAsPause_32 rfl (lv_at hl 0 rfl) ?_
  refine lv_aload_n hx hb dX2_endAsPause_33 rfl (lv_at hl 1 rfl) ?_
  refine g_get (ci := 1) (C := RX1) (T := TX1) (N := 9) hx hb hts hin1 hown hK hG hk21 (cell_1 hq22) rfl 8 (by decide) lk_71 (fun _ h9 => h9) (v := .int (gX S20 x1 8)) rfl dX2_endAsPause_34 ?_
  refine r_put (ci := 2) (C := RX2) (T := TX2) (N := 15) hx hb hts hin2 tyX2 tyX2_ok nmX2 hown hK hG hk23 (cell_2 hq24) rfl 9 (by decide) lk_85 (fun _ h9 => h9) rfl rfl rfl (Nat.le_of_ble_eq_true rfl) (S' := sX S20 k0 9 (gX S20 x1 8)) rfl (pu_2_9 hq24 (gX S20 x1 8)) dX2_endAsPause_37 (fun H locs hG => ?_)
  obtain ⟨S25, eS_S25⟩ : ∃ z : GS, z = sX S20 k0 9 (gX S20 x1 8) := ⟨_, rfl⟩
  have h := h S25 eS_S25
  rw [← eS_S25] at hG
  have hs_S25 : gSh S25 S20 := by rw [eS_S25]; exact gSh.x _ _ _ _
  have hsh := hs_S25.tr hsh
  have hk26 := hs_S25.lt hk21
  have hq27 := hs_S25.kd hq22
  have hk28 := hs_S25.lt hk23
  have hq29 := hs_S25.kd hq24
  refine lv_aload_n hx hb dX2_endAsPause_40 rfl (lv_at hl 0 rfl) ?_
  refine lv_dup hx hb dX2_endAsPause_41 rfl ?_
  refine g_get (ci := 2) (C := RX2) (T := TX2) (N := 15) hx hb hts hin2 hown hK hG hk28 (cell_2 hq29) rfl 14 (by decide) lk_59 (fun _ h9 => h9) (v := .int (gX S25 k0 14)) rfl dX2_endAsPause_42 ?_
  refine lv_iconst (v := 1) hx hb dX2_endAsPause_45 (by decide) ?_
  refine lv_iadd hx hb dX2_endAsPause_46 ?_
  refine r_put (ci := 2) (C := RX2) (T := TX2) (N := 15) hx hb hts hin2 tyX2 tyX2_ok nmX2 hown hK hG hk28 (cell_2 hq29) rfl 14 (by decide) lk_59 (fun _ h9 => h9) rfl rfl rfl (Nat.le_of_ble_eq_true rfl) (S' := sX S25 k0 14 ((gX S25 k0 14) + 1)) rfl (pu_2_14 hq29 ((gX S25 k0 14) + 1)) dX2_endAsPause_47 (fun H locs hG => ?_)
  obtain ⟨S30, eS_S30⟩ : ∃ z : GS, z = sX S25 k0 14 ((gX S25 k0 14) + 1) := ⟨_, rfl⟩
  have h := h S30 eS_S30
  rw [← eS_S30] at hG
  have hs_S30 : gSh S30 S25 := by rw [eS_S30]; exact gSh.x _ _ _ _
  have hsh := hs_S30.tr hsh
  have hk31 := hs_S30.lt hk26
  have hq32 := hs_S30.kd hq27
  have hk33 := hs_S30.lt hk28
  have hq34 := hs_S30.kd hq29
  exact W.vret hx hb hr (fun t ht hW => r_end (r := none) hAe hG hsh ⟨rfl, h⟩ rfl ht) hG.2.2.2.2 dX2_endAsPause_50
def wX2_endAsMark_60 (Q : GS → Prop) (k0 : Nat) (t0 : Nat) (t1 : Int32) (S : GS) : Prop :=
  t0 < gN S ∧ gK S t0 = 2 ∧ ∀ S3 : GS, S3 = sX S t0 9 t1 → k0 < gN S3 ∧ gK S3 k0 = 2 ∧ ∀ S8 : GS, S8 = sX S3 k0 14 ((gX S3 k0 14) + 1) → Q S8
def wX2_endAsMark_33 (Q : GS → Prop) (k0 : Nat) (x1 : Nat) (x2 : Int32) (t0 : Nat) (t1 : Int32) (S : GS) : Prop :=
  t0 < gN S ∧ gK S t0 = 2 ∧ ∀ S15 : GS, S15 = sX S t0 4 t1 → (x2 = 0 → x1 < gN S15 ∧ gK S15 x1 = 1 ∧ wX2_endAsMark_60 Q k0 k0 (gX S15 x1 8) S15) ∧ (¬ x2 = 0 → k0 < gN S15 ∧ gK S15 k0 = 2 ∧ wX2_microsecondsUntil S15 k0 x1 (fun u23 S22 => gSh S22 S15 → wX2_endAsMark_60 Q k0 k0 (Int64.toInt32 (if 2147483647 < u23 then 2147483647 else u23)) S22))
def wX2_endAsMark_14 (Q : GS → Prop) (k0 : Nat) (x1 : Nat) (t0 : Int32) (S : GS) : Prop :=
  x1 < gN S ∧ gK S x1 = 1 ∧ k0 < gN S ∧ gK S k0 = 2 ∧ ∀ S32 : GS, S32 = sX S k0 5 (gX S x1 4) → (t0 = 0 → wX2_endAsMark_33 Q k0 x1 t0 k0 3 S32) ∧ (¬ t0 = 0 → wX2_endAsMark_33 Q k0 x1 t0 k0 4 S32)
def wX2_endAsMark (S : GS) (k0 : Nat) (x1 : Nat) (Q : GS → Prop) : Prop :=
  x1 < gN S ∧ gK S x1 = 1 ∧ (¬ (gX S x1 0) = 6 → wX2_endAsMark_14 Q k0 x1 0 S) ∧ ((gX S x1 0) = 6 → wX2_endAsMark_14 Q k0 x1 1 S)
set_option maxHeartbeats 4000000 in
set_option maxRecDepth 100000 in
theorem tX2_endAsMark (l : Launch) (S : GS) (k0 : Nat) (x1 : Nat) (Q : GS → Prop) (h : wX2_endAsMark S k0 x1 Q) : CS l yX2_endAsMark wsX2_endAsMark 1 S [vR (some k0), vR (some x1)] (fun r S9 => r = none ∧ Q S9) := by
  refine CS.ofW (cc := cX2_endAsMark) (maxL := 3) (ret := none) RX2 (by decide) rfl rfl (fun _ _ => Nat.le_of_ble_eq_true rfl) ?_
  intro p e s m args below meth c D Y za ad A ls hAe hx hb hr hml hts hown hlocks hK hA hG hl
  obtain ⟨S0, hS0⟩ : ∃ z : GS, z = S := ⟨_, rfl⟩
  rw [← hS0] at hAe
  rw [← hS0]
  have hin1 : ∀ w ∈ wsX10, w ∈ wsX2_endAsMark := by decide +kernel
  have hin2 : ∀ w ∈ wsX20, w ∈ wsX2_endAsMark := by decide +kernel
  have lk_9 := hts (.fieldLink RX2 9 "PauseLog$Entry" "shape" "I") (by decide +kernel)
  have lk_28 := hts (.fieldLink RX2 28 "PauseLog$Entry" "time" "I") (by decide +kernel)
  have lk_82 := hts (.fieldLink RX2 82 "PauseLog$Event" "endTime" "I") (by decide +kernel)
  have lk_37 := hts (.fieldLink RX2 37 "PauseLog$Event" "kind" "I") (by decide +kernel)
  have lk_86 := hts (.constantLong RX2 86 (2147483647)) (by decide +kernel)
  have lk_71 := hts (.fieldLink RX2 71 "PauseLog$Entry" "took" "I") (by decide +kernel)
  have lk_85 := hts (.fieldLink RX2 85 "PauseLog$Event" "took" "I") (by decide +kernel)
  have lk_59 := hts (.fieldLink RX2 59 "PauseLog$Event" "lines" "I") (by decide +kernel)
  have b_60 : ∀  (t0 : Nat) (t1 : Int32) (S : GS) (H : Heap) (locs : List Loc) (ls : Array Slot), wX2_endAsMark_60 Q k0 t0 t1 S → gSh S S0 → gS D Y ad A s.heap S H locs → lv_has ls 3 [(0, .ref (ad k0))] → W p l e (rmD 1) s m args below meth c H locs 0 0 (MQ below (gE D Y za ad S0 s.heap.size (fun r S9 => r = none ∧ Q S9)) args s 0 0 A) (F0 m 60 ls [.int t1, .ref (ad t0)]) := by
    intro  t0 t1 S H locs ls h hsh hG hl
    unfold wX2_endAsMark_60 at h
    obtain ⟨hk1, hq2, h⟩ := h
    refine r_put (ci := 2) (C := RX2) (T := TX2) (N := 15) hx hb hts hin2 tyX2 tyX2_ok nmX2 hown hK hG hk1 (cell_2 hq2) rfl 9 (by decide) lk_85 (fun _ h9 => h9) rfl rfl rfl (Nat.le_of_ble_eq_true rfl) (S' := sX S t0 9 t1) rfl (pu_2_9 hq2 t1) dX2_endAsMark_60 (fun H locs hG => ?_)
    obtain ⟨S3, eS_S3⟩ : ∃ z : GS, z = sX S t0 9 t1 := ⟨_, rfl⟩
    have h := h S3 eS_S3
    rw [← eS_S3] at hG
    have hs_S3 : gSh S3 S := by rw [eS_S3]; exact gSh.x _ _ _ _
    have hsh := hs_S3.tr hsh
    have hk4 := hs_S3.lt hk1
    have hq5 := hs_S3.kd hq2
    refine lv_aload_n hx hb dX2_endAsMark_63 rfl (lv_at hl 0 rfl) ?_
    refine lv_dup hx hb dX2_endAsMark_64 rfl ?_
    obtain ⟨hk6, hq7, h⟩ := h
    refine g_get (ci := 2) (C := RX2) (T := TX2) (N := 15) hx hb hts hin2 hown hK hG hk6 (cell_2 hq7) rfl 14 (by decide) lk_59 (fun _ h9 => h9) (v := .int (gX S3 k0 14)) rfl dX2_endAsMark_65 ?_
    refine lv_iconst (v := 1) hx hb dX2_endAsMark_68 (by decide) ?_
    refine lv_iadd hx hb dX2_endAsMark_69 ?_
    refine r_put (ci := 2) (C := RX2) (T := TX2) (N := 15) hx hb hts hin2 tyX2 tyX2_ok nmX2 hown hK hG hk6 (cell_2 hq7) rfl 14 (by decide) lk_59 (fun _ h9 => h9) rfl rfl rfl (Nat.le_of_ble_eq_true rfl) (S' := sX S3 k0 14 ((gX S3 k0 14) + 1)) rfl (pu_2_14 hq7 ((gX S3 k0 14) + 1)) dX2_endAsMark_70 (fun H locs hG => ?_)
    obtain ⟨S8, eS_S8⟩ : ∃ z : GS, z = sX S3 k0 14 ((gX S3 k0 14) + 1) := ⟨_, rfl⟩
    have h := h S8 eS_S8
    rw [← eS_S8] at hG
    have hs_S8 : gSh S8 S3 := by rw [eS_S8]; exact gSh.x _ _ _ _
    have hsh := hs_S8.tr hsh
    have hk9 := hs_S8.lt hk4
    have hq10 := hs_S8.kd hq5
    have hk11 := hs_S8.lt hk6
    have hq12 := hs_S8.kd hq7
    exact W.vret hx hb hr (fun t ht hW => r_end (r := none) hAe hG hsh ⟨rfl, h⟩ rfl ht) hG.2.2.2.2 dX2_endAsMark_73
  have b_33 : ∀  (x1 : Nat) (x2 : Int32) (t0 : Nat) (t1 : Int32) (S : GS) (H : Heap) (locs : List Loc) (ls : Array Slot), wX2_endAsMark_33 Q k0 x1 x2 t0 t1 S → gSh S S0 → gS D Y ad A s.heap S H locs → lv_has ls 3 [(0, .ref (ad k0)), (1, .ref (ad x1)), (2, .int x2)] → W p l e (rmD 1) s m args below meth c H locs 0 0 (MQ below (gE D Y za ad S0 s.heap.size (fun r S9 => r = none ∧ Q S9)) args s 0 0 A) (F0 m 33 ls [.int t1, .ref (ad t0)]) := by
    intro  x1 x2 t0 t1 S H locs ls h hsh hG hl
    unfold wX2_endAsMark_33 at h
    obtain ⟨hk13, hq14, h⟩ := h
    refine r_put (ci := 2) (C := RX2) (T := TX2) (N := 15) hx hb hts hin2 tyX2 tyX2_ok nmX2 hown hK hG hk13 (cell_2 hq14) rfl 4 (by decide) lk_37 (fun _ h9 => h9) rfl rfl rfl (Nat.le_of_ble_eq_true rfl) (S' := sX S t0 4 t1) rfl (pu_2_4 hq14 t1) dX2_endAsMark_33 (fun H locs hG => ?_)
    obtain ⟨S15, eS_S15⟩ : ∃ z : GS, z = sX S t0 4 t1 := ⟨_, rfl⟩
    have h := h S15 eS_S15
    rw [← eS_S15] at hG
    have hs_S15 : gSh S15 S := by rw [eS_S15]; exact gSh.x _ _ _ _
    have hsh := hs_S15.tr hsh
    have hk16 := hs_S15.lt hk13
    have hq17 := hs_S15.kd hq14
    refine lv_aload_n hx hb dX2_endAsMark_36 rfl (lv_at hl 0 rfl) ?_
    refine lv_iload_n hx hb dX2_endAsMark_37 rfl (lv_at hl 2 rfl) ?_
    refine lv_if_eq (tgt := 56) hx hb dX2_endAsMark_38 (by decide) (fun c_38 => ?_) (fun c_38 => ?_)
    · have h := h.1 c_38
      refine lv_aload_n hx hb dX2_endAsMark_56 rfl (lv_at hl 1 rfl) ?_
      obtain ⟨hk18, hq19, h⟩ := h
      refine g_get (ci := 1) (C := RX1) (T := TX1) (N := 9) hx hb hts hin1 hown hK hG hk18 (cell_1 hq19) rfl 8 (by decide) lk_71 (fun _ h9 => h9) (v := .int (gX S15 x1 8)) rfl dX2_endAsMark_57 ?_
      exact b_60 k0 (gX S15 x1 8) S15 H locs ls h hsh hG (lv_sub hl [0] rfl)
    · have h := h.2 c_38
      refine lv_aload_n hx hb dX2_endAsMark_41 rfl (lv_at hl 0 rfl) ?_
      refine lv_aload_n hx hb dX2_endAsMark_42 rfl (lv_at hl 1 rfl) ?_
      obtain ⟨hk20, hq21, h⟩ := h
      refine r_callV (za := za) (k := k0) (ci := 2) (C := RX2) (T := TX2) (N := 15) (As := [vR (some x1)]) (rest := [.ref (ad k0)]) (tX2_microsecondsUntil l S15 k0 x1 _ h) ⟨hx, hb, hml, hown, hts⟩ (cwV 1 hts gX2_endAsMark_X2_microsecondsUntil rfl rfl rfl (by decide +kernel) ⟨by decide, by decide⟩) hK hG hA hk20 (cell_2 hq21) rfl rfl hl.1 rfl (Nat.le_of_ble_eq_true rfl) ⟨Nat.zero_le _, Nat.zero_le _⟩ dX2_endAsMark_43 (fun r_9 S22 H locs hp hs_S22 hG => ?_)
      obtain ⟨u23, rfl, h⟩ := hp
      have h := h hs_S22
      refine W.eq (g2 := F0 m 46 ls [.long u23, .ref (ad k0)]) rfl ?_
      have hsh := hs_S22.tr hsh
      have hk24 := hs_S22.lt hk16
      have hq25 := hs_S22.kd hq17
      have hk26 := hs_S22.lt hk20
      have hq27 := hs_S22.kd hq21
      refine lv_ldc2 hx hb hown lk_86 dX2_endAsMark_46 ?_
      refine va_mmin_long hx hb (hml.trans hl.1.symm) hown (hts (.methodLink RX2 88 Lib.MathLoose.min_long.x) (by decide +kernel)) (hts (.static Lib.MathLoose.min_long.x) (by decide +kernel)) (hts (.initialized "java/lang/Math") (by decide +kernel)) (hts (.code Lib.MathLoose.min_long.x Lib.MathLoose.min_long.code 4 (some .long)) (by decide +kernel)) (by decide) (Nat.le_of_ble_eq_true rfl) (Nat.le_refl _) (Nat.le_refl _) dX2_endAsMark_49 ?_
      refine lv_l2i hx hb dX2_endAsMark_52 rfl ?_
      refine lv_goto (tgt := 60) hx hb dX2_endAsMark_53 (by decide) ?_
      exact b_60 k0 (Int64.toInt32 (if 2147483647 < u23 then 2147483647 else u23)) S22 H locs ls h hsh hG (lv_sub hl [0] rfl)
  have b_14 : ∀  (x1 : Nat) (t0 : Int32) (S : GS) (H : Heap) (locs : List Loc) (ls : Array Slot), wX2_endAsMark_14 Q k0 x1 t0 S → gSh S S0 → gS D Y ad A s.heap S H locs → lv_has ls 3 [(0, .ref (ad k0)), (1, .ref (ad x1))] → W p l e (rmD 1) s m args below meth c H locs 0 0 (MQ below (gE D Y za ad S0 s.heap.size (fun r S9 => r = none ∧ Q S9)) args s 0 0 A) (F0 m 14 ls [.int t0]) := by
    intro  x1 t0 S H locs ls h hsh hG hl
    unfold wX2_endAsMark_14 at h
    refine lv_istore_n (lv' := [(2, .int t0), (0, .ref (ad k0)), (1, .ref (ad x1))]) hx hb dX2_endAsMark_14 rfl hl (by decide) rfl (fun ls hl => ?_)
    refine lv_aload_n hx hb dX2_endAsMark_15 rfl (lv_at hl 1 rfl) ?_
    refine lv_aload_n hx hb dX2_endAsMark_16 rfl (lv_at hl 2 rfl) ?_
    obtain ⟨hk28, hq29, h⟩ := h
    refine g_get (ci := 1) (C := RX1) (T := TX1) (N := 9) hx hb hts hin1 hown hK hG hk28 (cell_1 hq29) rfl 4 (by decide) lk_28 (fun _ h9 => h9) (v := .int (gX S x1 4)) rfl dX2_endAsMark_17 ?_
    obtain ⟨hk30, hq31, h⟩ := h
    refine r_put (ci := 2) (C := RX2) (T := TX2) (N := 15) hx hb hts hin2 tyX2 tyX2_ok nmX2 hown hK hG hk30 (cell_2 hq31) rfl 5 (by decide) lk_82 (fun _ h9 => h9) rfl rfl rfl (Nat.le_of_ble_eq_true rfl) (S' := sX S k0 5 (gX S x1 4)) rfl (pu_2_5 hq31 (gX S x1 4)) dX2_endAsMark_20 (fun H locs hG => ?_)
    obtain ⟨S32, eS_S32⟩ : ∃ z : GS, z = sX S k0 5 (gX S x1 4) := ⟨_, rfl⟩
    have h := h S32 eS_S32
    rw [← eS_S32] at hG
    have hs_S32 : gSh S32 S := by rw [eS_S32]; exact gSh.x _ _ _ _
    have hsh := hs_S32.tr hsh
    have hk33 := hs_S32.lt hk28
    have hq34 := hs_S32.kd hq29
    have hk35 := hs_S32.lt hk30
    have hq36 := hs_S32.kd hq31
    refine lv_aload_n hx hb dX2_endAsMark_23 rfl (lv_at hl 1 rfl) ?_
    refine lv_iload_n hx hb dX2_endAsMark_24 rfl (lv_at hl 0 rfl) ?_
    refine lv_if_eq (tgt := 32) hx hb dX2_endAsMark_25 (by decide) (fun c_25 => ?_) (fun c_25 => ?_)
    · have h := h.1 c_25
      refine lv_iconst (v := 3) hx hb dX2_endAsMark_32 (by decide) ?_
      exact b_33 x1 t0 k0 3 S32 H locs ls h hsh hG (lv_sub hl [1, 2, 0] rfl)
    · have h := h.2 c_25
      refine lv_iconst (v := 4) hx hb dX2_endAsMark_28 (by decide) ?_
      refine lv_goto (tgt := 33) hx hb dX2_endAsMark_29 (by decide) ?_
      exact b_33 x1 t0 k0 4 S32 H locs ls h hsh hG (lv_sub hl [1, 2, 0] rfl)
  have hl : lv_has ls 3 [(0, .ref (ad k0)), (1, .ref (ad x1))] := hl
  have hsh : gSh S S0 := by rw [hS0]; exact gSh.rf S
  obtain ⟨H, eH⟩ : ∃ z : Heap, z = s.heap := ⟨_, rfl⟩
  obtain ⟨locs, eL⟩ : ∃ z : List Loc, z = [] := ⟨_, rfl⟩
  have hG : gS D Y ad A s.heap S H locs := by rw [eH, eL]; exact hG
  suffices hgoal : W p l e (rmD 1) s m args below meth c H locs 0 0 (MQ below (gE D Y za ad S0 s.heap.size (fun r S9 => r = none ∧ Q S9)) args s 0 0 A) (F0 m 0 ls []) by rw [eH, eL] at hgoal; exact hgoal
  unfold wX2_endAsMark at h
  refine lv_aload_n hx hb dX2_endAsMark_0 rfl (lv_at hl 1 rfl) ?_
  obtain ⟨hk37, hq38, h⟩ := h
  refine g_get (ci := 1) (C := RX1) (T := TX1) (N := 9) hx hb hts hin1 hown hK hG hk37 (cell_1 hq38) rfl 0 (by decide) lk_9 (fun _ h9 => h9) (v := .int (gX S x1 0)) rfl dX2_endAsMark_1 ?_
  refine lv_bipush (v := 6) hx hb dX2_endAsMark_4 (by decide) ?_
  refine lv_icmp_ne (tgt := 13) hx hb dX2_endAsMark_6 (by decide) (fun c_6 => ?_) (fun c_6 => ?_)
  · have h := h.1 c_6
    refine lv_iconst (v := 0) hx hb dX2_endAsMark_13 (by decide) ?_
    exact b_14 x1 0 S H locs ls h hsh hG (lv_sub hl [0, 1] rfl)
  · have h := h.2 c_6
    refine lv_iconst (v := 1) hx hb dX2_endAsMark_9 (by decide) ?_
    refine lv_goto (tgt := 14) hx hb dX2_endAsMark_10 (by decide) ?_
    exact b_14 x1 1 S H locs ls h hsh hG (lv_sub hl [0, 1] rfl)
def wX2_fact (S : GS) (k0 : Nat) (x1 : Int32) (Q : Int32 → GS → Prop) : Prop :=
  (x1 = 0 → k0 < gN S ∧ gK S k0 = 2 ∧ Q (gX S k0 4) S) ∧ (x1 = 1 → k0 < gN S ∧ gK S k0 = 2 ∧ Q (gX S k0 1) S) ∧ (x1 = 2 → k0 < gN S ∧ gK S k0 = 2 ∧ Q (gX S k0 3) S) ∧ (x1 = 3 → k0 < gN S ∧ gK S k0 = 2 ∧ Q (gX S k0 5) S) ∧ (x1 = 4 → k0 < gN S ∧ gK S k0 = 2 ∧ Q (gX S k0 2) S) ∧ (x1 = 5 → k0 < gN S ∧ gK S k0 = 2 ∧ Q (gX S k0 6) S) ∧ (x1 = 6 → k0 < gN S ∧ gK S k0 = 2 ∧ Q (gX S k0 7) S) ∧ (x1 = 7 → k0 < gN S ∧ gK S k0 = 2 ∧ Q (gX S k0 8) S) ∧ (x1 = 8 → k0 < gN S ∧ gK S k0 = 2 ∧ Q (gX S k0 9) S) ∧ (x1 = 9 → k0 < gN S ∧ gK S k0 = 2 ∧ Q (gX S k0 10) S) ∧ (x1 = 10 → k0 < gN S ∧ gK S k0 = 2 ∧ Q (gX S k0 11) S) ∧ (x1 = 11 → k0 < gN S ∧ gK S k0 = 2 ∧ Q (gX S k0 12) S) ∧ (x1 = 12 → k0 < gN S ∧ gK S k0 = 2 ∧ Q (gX S k0 13) S) ∧ (¬ x1 = 0 → ¬ x1 = 1 → ¬ x1 = 2 → ¬ x1 = 3 → ¬ x1 = 4 → ¬ x1 = 5 → ¬ x1 = 6 → ¬ x1 = 7 → ¬ x1 = 8 → ¬ x1 = 9 → ¬ x1 = 10 → ¬ x1 = 11 → ¬ x1 = 12 → k0 < gN S ∧ gK S k0 = 2 ∧ Q (gX S k0 14) S)
set_option maxHeartbeats 4000000 in
set_option maxRecDepth 100000 in
theorem tX2_fact (l : Launch) (S : GS) (k0 : Nat) (x1 : Int32) (Q : Int32 → GS → Prop) (h : wX2_fact S k0 x1 Q) : CS l yX2_fact wsX2_fact 0 S [vR (some k0), vI x1] (fun r S9 => ∃ x, r = some (vI x) ∧ Q x S9) := by
  refine CS.ofW (cc := cX2_fact) (maxL := 2) (ret := (some .int)) RX2 (by decide) rfl rfl (fun _ _ => Nat.le_of_ble_eq_true rfl) ?_
  intro p e s m args below meth c D Y za ad A ls hAe hx hb hr hml hts hown hlocks hK hA hG hl
  obtain ⟨S0, hS0⟩ : ∃ z : GS, z = S := ⟨_, rfl⟩
  rw [← hS0] at hAe
  rw [← hS0]
  have hin2 : ∀ w ∈ wsX20, w ∈ wsX2_fact := by decide +kernel
  have lk_37 := hts (.fieldLink RX2 37 "PauseLog$Event" "kind" "I") (by decide +kernel)
  have lk_23 := hts (.fieldLink RX2 23 "PauseLog$Event" "id" "I") (by decide +kernel)
  have lk_31 := hts (.fieldLink RX2 31 "PauseLog$Event" "beginTime" "I") (by decide +kernel)
  have lk_82 := hts (.fieldLink RX2 82 "PauseLog$Event" "endTime" "I") (by decide +kernel)
  have lk_27 := hts (.fieldLink RX2 27 "PauseLog$Event" "cause" "I") (by decide +kernel)
  have lk_38 := hts (.fieldLink RX2 38 "PauseLog$Event" "before" "I") (by decide +kernel)
  have lk_41 := hts (.fieldLink RX2 41 "PauseLog$Event" "after" "I") (by decide +kernel)
  have lk_44 := hts (.fieldLink RX2 44 "PauseLog$Event" "capacity" "I") (by decide +kernel)
  have lk_85 := hts (.fieldLink RX2 85 "PauseLog$Event" "took" "I") (by decide +kernel)
  have lk_47 := hts (.fieldLink RX2 47 "PauseLog$Event" "edenBefore" "I") (by decide +kernel)
  have lk_50 := hts (.fieldLink RX2 50 "PauseLog$Event" "edenAfter" "I") (by decide +kernel)
  have lk_53 := hts (.fieldLink RX2 53 "PauseLog$Event" "oldBefore" "I") (by decide +kernel)
  have lk_56 := hts (.fieldLink RX2 56 "PauseLog$Event" "oldAfter" "I") (by decide +kernel)
  have lk_59 := hts (.fieldLink RX2 59 "PauseLog$Event" "lines" "I") (by decide +kernel)
  have hl : lv_has ls 2 [(0, .ref (ad k0)), (1, .int x1)] := hl
  have hsh : gSh S S0 := by rw [hS0]; exact gSh.rf S
  obtain ⟨H, eH⟩ : ∃ z : Heap, z = s.heap := ⟨_, rfl⟩
  obtain ⟨locs, eL⟩ : ∃ z : List Loc, z = [] := ⟨_, rfl⟩
  have hG : gS D Y ad A s.heap S H locs := by rw [eH, eL]; exact hG
  suffices hgoal : W p l e (rmD 0) s m args below meth c H locs 0 0 (MQ below (gE D Y za ad S0 s.heap.size (fun r S9 => ∃ x, r = some (vI x) ∧ Q x S9)) args s 0 0 A) (F0 m 0 ls []) by rw [eH, eL] at hgoal; exact hgoal
  unfold wX2_fact at h
  refine lv_iload_n hx hb dX2_fact_0 rfl (lv_at hl 1 rfl) ?_
  by_cases q_1_0 : x1 = 0
  · have h := h.1 q_1_0
    refine lv_tableIn (tgt := 68) hx hb dX2_fact_1 (by rw [q_1_0]; decide) (by rw [q_1_0]; decide) (by rw [q_1_0]; rfl) (by decide) ?_
    refine lv_aload_n hx hb dX2_fact_68 rfl (lv_at hl 0 rfl) ?_
    obtain ⟨hk1, hq2, h⟩ := h
    refine g_get (ci := 2) (C := RX2) (T := TX2) (N := 15) hx hb hts hin2 hown hK hG hk1 (cell_2 hq2) rfl 4 (by decide) lk_37 (fun _ h9 => h9) (v := .int (gX S k0 4)) rfl dX2_fact_69 ?_
    exact W.iret (v := gX S k0 4) hx hb hr (fun t ht hW => r_end (r := some (vI (gX S k0 4))) hAe hG hsh ⟨_, rfl, h⟩ rfl ht) hG.2.2.2.2 dX2_fact_72
  by_cases q_1_1 : x1 = 1
  · have h := h.2.1 q_1_1
    refine lv_tableIn (tgt := 73) hx hb dX2_fact_1 (by rw [q_1_1]; decide) (by rw [q_1_1]; decide) (by rw [q_1_1]; rfl) (by decide) ?_
    refine lv_aload_n hx hb dX2_fact_73 rfl (lv_at hl 0 rfl) ?_
    obtain ⟨hk3, hq4, h⟩ := h
    refine g_get (ci := 2) (C := RX2) (T := TX2) (N := 15) hx hb hts hin2 hown hK hG hk3 (cell_2 hq4) rfl 1 (by decide) lk_23 (fun _ h9 => h9) (v := .int (gX S k0 1)) rfl dX2_fact_74 ?_
    exact W.iret (v := gX S k0 1) hx hb hr (fun t ht hW => r_end (r := some (vI (gX S k0 1))) hAe hG hsh ⟨_, rfl, h⟩ rfl ht) hG.2.2.2.2 dX2_fact_77
  by_cases q_1_2 : x1 = 2
  · have h := h.2.2.1 q_1_2
    refine lv_tableIn (tgt := 78) hx hb dX2_fact_1 (by rw [q_1_2]; decide) (by rw [q_1_2]; decide) (by rw [q_1_2]; rfl) (by decide) ?_
    refine lv_aload_n hx hb dX2_fact_78 rfl (lv_at hl 0 rfl) ?_
    obtain ⟨hk5, hq6, h⟩ := h
    refine g_get (ci := 2) (C := RX2) (T := TX2) (N := 15) hx hb hts hin2 hown hK hG hk5 (cell_2 hq6) rfl 3 (by decide) lk_31 (fun _ h9 => h9) (v := .int (gX S k0 3)) rfl dX2_fact_79 ?_
    exact W.iret (v := gX S k0 3) hx hb hr (fun t ht hW => r_end (r := some (vI (gX S k0 3))) hAe hG hsh ⟨_, rfl, h⟩ rfl ht) hG.2.2.2.2 dX2_fact_82
  by_cases q_1_3 : x1 = 3
  · have h := h.2.2.2.1 q_1_3
    refine lv_tableIn (tgt := 83) hx hb dX2_fact_1 (by rw [q_1_3]; decide) (by rw [q_1_3]; decide) (by rw [q_1_3]; rfl) (by decide) ?_
    refine lv_aload_n hx hb dX2_fact_83 rfl (lv_at hl 0 rfl) ?_
    obtain ⟨hk7, hq8, h⟩ := h
    refine g_get (ci := 2) (C := RX2) (T := TX2) (N := 15) hx hb hts hin2 hown hK hG hk7 (cell_2 hq8) rfl 5 (by decide) lk_82 (fun _ h9 => h9) (v := .int (gX S k0 5)) rfl dX2_fact_84 ?_
    exact W.iret (v := gX S k0 5) hx hb hr (fun t ht hW => r_end (r := some (vI (gX S k0 5))) hAe hG hsh ⟨_, rfl, h⟩ rfl ht) hG.2.2.2.2 dX2_fact_87
  by_cases q_1_4 : x1 = 4
  · have h := h.2.2.2.2.1 q_1_4
    refine lv_tableIn (tgt := 88) hx hb dX2_fact_1 (by rw [q_1_4]; decide) (by rw [q_1_4]; decide) (by rw [q_1_4]; rfl) (by decide) ?_
    refine lv_aload_n hx hb dX2_fact_88 rfl (lv_at hl 0 rfl) ?_
    obtain ⟨hk9, hq10, h⟩ := h
    refine g_get (ci := 2) (C := RX2) (T := TX2) (N := 15) hx hb hts hin2 hown hK hG hk9 (cell_2 hq10) rfl 2 (by decide) lk_27 (fun _ h9 => h9) (v := .int (gX S k0 2)) rfl dX2_fact_89 ?_
    exact W.iret (v := gX S k0 2) hx hb hr (fun t ht hW => r_end (r := some (vI (gX S k0 2))) hAe hG hsh ⟨_, rfl, h⟩ rfl ht) hG.2.2.2.2 dX2_fact_92
  by_cases q_1_5 : x1 = 5
  · have h := h.2.2.2.2.2.1 q_1_5
    refine lv_tableIn (tgt := 93) hx hb dX2_fact_1 (by rw [q_1_5]; decide) (by rw [q_1_5]; decide) (by rw [q_1_5]; rfl) (by decide) ?_
    refine lv_aload_n hx hb dX2_fact_93 rfl (lv_at hl 0 rfl) ?_
    obtain ⟨hk11, hq12, h⟩ := h
    refine g_get (ci := 2) (C := RX2) (T := TX2) (N := 15) hx hb hts hin2 hown hK hG hk11 (cell_2 hq12) rfl 6 (by decide) lk_38 (fun _ h9 => h9) (v := .int (gX S k0 6)) rfl dX2_fact_94 ?_
    exact W.iret (v := gX S k0 6) hx hb hr (fun t ht hW => r_end (r := some (vI (gX S k0 6))) hAe hG hsh ⟨_, rfl, h⟩ rfl ht) hG.2.2.2.2 dX2_fact_97
  by_cases q_1_6 : x1 = 6
  · have h := h.2.2.2.2.2.2.1 q_1_6
    refine lv_tableIn (tgt := 98) hx hb dX2_fact_1 (by rw [q_1_6]; decide) (by rw [q_1_6]; decide) (by rw [q_1_6]; rfl) (by decide) ?_
    refine lv_aload_n hx hb dX2_fact_98 rfl (lv_at hl 0 rfl) ?_
    obtain ⟨hk13, hq14, h⟩ := h
    refine g_get (ci := 2) (C := RX2) (T := TX2) (N := 15) hx hb hts hin2 hown hK hG hk13 (cell_2 hq14) rfl 7 (by decide) lk_41 (fun _ h9 => h9) (v := .int (gX S k0 7)) rfl dX2_fact_99 ?_
    exact W.iret (v := gX S k0 7) hx hb hr (fun t ht hW => r_end (r := some (vI (gX S k0 7))) hAe hG hsh ⟨_, rfl, h⟩ rfl ht) hG.2.2.2.2 dX2_fact_102
  by_cases q_1_7 : x1 = 7
  · have h := h.2.2.2.2.2.2.2.1 q_1_7
    refine lv_tableIn (tgt := 103) hx hb dX2_fact_1 (by rw [q_1_7]; decide) (by rw [q_1_7]; decide) (by rw [q_1_7]; rfl) (by decide) ?_
    refine lv_aload_n hx hb dX2_fact_103 rfl (lv_at hl 0 rfl) ?_
    obtain ⟨hk15, hq16, h⟩ := h
    refine g_get (ci := 2) (C := RX2) (T := TX2) (N := 15) hx hb hts hin2 hown hK hG hk15 (cell_2 hq16) rfl 8 (by decide) lk_44 (fun _ h9 => h9) (v := .int (gX S k0 8)) rfl dX2_fact_104 ?_
    exact W.iret (v := gX S k0 8) hx hb hr (fun t ht hW => r_end (r := some (vI (gX S k0 8))) hAe hG hsh ⟨_, rfl, h⟩ rfl ht) hG.2.2.2.2 dX2_fact_107
  by_cases q_1_8 : x1 = 8
  · have h := h.2.2.2.2.2.2.2.2.1 q_1_8
    refine lv_tableIn (tgt := 108) hx hb dX2_fact_1 (by rw [q_1_8]; decide) (by rw [q_1_8]; decide) (by rw [q_1_8]; rfl) (by decide) ?_
    refine lv_aload_n hx hb dX2_fact_108 rfl (lv_at hl 0 rfl) ?_
    obtain ⟨hk17, hq18, h⟩ := h
    refine g_get (ci := 2) (C := RX2) (T := TX2) (N := 15) hx hb hts hin2 hown hK hG hk17 (cell_2 hq18) rfl 9 (by decide) lk_85 (fun _ h9 => h9) (v := .int (gX S k0 9)) rfl dX2_fact_109 ?_
    exact W.iret (v := gX S k0 9) hx hb hr (fun t ht hW => r_end (r := some (vI (gX S k0 9))) hAe hG hsh ⟨_, rfl, h⟩ rfl ht) hG.2.2.2.2 dX2_fact_112
  by_cases q_1_9 : x1 = 9
  · have h := h.2.2.2.2.2.2.2.2.2.1 q_1_9
    refine lv_tableIn (tgt := 113) hx hb dX2_fact_1 (by rw [q_1_9]; decide) (by rw [q_1_9]; decide) (by rw [q_1_9]; rfl) (by decide) ?_
    refine lv_aload_n hx hb dX2_fact_113 rfl (lv_at hl 0 rfl) ?_
    obtain ⟨hk19, hq20, h⟩ := h
    refine g_get (ci := 2) (C := RX2) (T := TX2) (N := 15) hx hb hts hin2 hown hK hG hk19 (cell_2 hq20) rfl 10 (by decide) lk_47 (fun _ h9 => h9) (v := .int (gX S k0 10)) rfl dX2_fact_114 ?_
    exact W.iret (v := gX S k0 10) hx hb hr (fun t ht hW => r_end (r := some (vI (gX S k0 10))) hAe hG hsh ⟨_, rfl, h⟩ rfl ht) hG.2.2.2.2 dX2_fact_117
  by_cases q_1_10 : x1 = 10
  · have h := h.2.2.2.2.2.2.2.2.2.2.1 q_1_10
    refine lv_tableIn (tgt := 118) hx hb dX2_fact_1 (by rw [q_1_10]; decide) (by rw [q_1_10]; decide) (by rw [q_1_10]; rfl) (by decide) ?_
    refine lv_aload_n hx hb dX2_fact_118 rfl (lv_at hl 0 rfl) ?_
    obtain ⟨hk21, hq22, h⟩ := h
    refine g_get (ci := 2) (C := RX2) (T := TX2) (N := 15) hx hb hts hin2 hown hK hG hk21 (cell_2 hq22) rfl 11 (by decide) lk_50 (fun _ h9 => h9) (v := .int (gX S k0 11)) rfl dX2_fact_119 ?_
    exact W.iret (v := gX S k0 11) hx hb hr (fun t ht hW => r_end (r := some (vI (gX S k0 11))) hAe hG hsh ⟨_, rfl, h⟩ rfl ht) hG.2.2.2.2 dX2_fact_122
  by_cases q_1_11 : x1 = 11
  · have h := h.2.2.2.2.2.2.2.2.2.2.2.1 q_1_11
    refine lv_tableIn (tgt := 123) hx hb dX2_fact_1 (by rw [q_1_11]; decide) (by rw [q_1_11]; decide) (by rw [q_1_11]; rfl) (by decide) ?_
    refine lv_aload_n hx hb dX2_fact_123 rfl (lv_at hl 0 rfl) ?_
    obtain ⟨hk23, hq24, h⟩ := h
    refine g_get (ci := 2) (C := RX2) (T := TX2) (N := 15) hx hb hts hin2 hown hK hG hk23 (cell_2 hq24) rfl 12 (by decide) lk_53 (fun _ h9 => h9) (v := .int (gX S k0 12)) rfl dX2_fact_124 ?_
    exact W.iret (v := gX S k0 12) hx hb hr (fun t ht hW => r_end (r := some (vI (gX S k0 12))) hAe hG hsh ⟨_, rfl, h⟩ rfl ht) hG.2.2.2.2 dX2_fact_127
  by_cases q_1_12 : x1 = 12
  · have h := h.2.2.2.2.2.2.2.2.2.2.2.2.1 q_1_12
    refine lv_tableIn (tgt := 128) hx hb dX2_fact_1 (by rw [q_1_12]; decide) (by rw [q_1_12]; decide) (by rw [q_1_12]; rfl) (by decide) ?_
    refine lv_aload_n hx hb dX2_fact_128 rfl (lv_at hl 0 rfl) ?_
    obtain ⟨hk25, hq26, h⟩ := h
    refine g_get (ci := 2) (C := RX2) (T := TX2) (N := 15) hx hb hts hin2 hown hK hG hk25 (cell_2 hq26) rfl 13 (by decide) lk_56 (fun _ h9 => h9) (v := .int (gX S k0 13)) rfl dX2_fact_129 ?_
    exact W.iret (v := gX S k0 13) hx hb hr (fun t ht hW => r_end (r := some (vI (gX S k0 13))) hAe hG hsh ⟨_, rfl, h⟩ rfl ht) hG.2.2.2.2 dX2_fact_132
  have h := h.2.2.2.2.2.2.2.2.2.2.2.2.2 q_1_0 q_1_1 q_1_2 q_1_3 q_1_4 q_1_5 q_1_6 q_1_7 q_1_8 q_1_9 q_1_10 q_1_11 q_1_12
  refine lv_tableOut (tgt := 133) hx hb dX2_fact_1 (tab0 (N := 12) (fun k hk => match k, hk with | 0, _ => q_1_0 | 1, _ => q_1_1 | 2, _ => q_1_2 | 3, _ => q_1_3 | 4, _ => q_1_4 | 5, _ => q_1_5 | 6, _ => q_1_6 | 7, _ => q_1_7 | 8, _ => q_1_8 | 9, _ => q_1_9 | 10, _ => q_1_10 | 11, _ => q_1_11 | 12, _ => q_1_12 | k + 13, hk => absurd hk (by omega)) (by decide)) (by decide) ?_
  refine lv_aload_n hx hb dX2_fact_133 rfl (lv_at hl 0 rfl) ?_
  obtain ⟨hk27, hq28, h⟩ := h
  refine g_get (ci := 2) (C := RX2) (T := TX2) (N := 15) hx hb hts hin2 hown hK hG hk27 (cell_2 hq28) rfl 14 (by decide) lk_59 (fun _ h9 => h9) (v := .int (gX S k0 14)) rfl dX2_fact_134 ?_
  exact W.iret (v := gX S k0 14) hx hb hr (fun t ht hW => r_end (r := some (vI (gX S k0 14))) hAe hG hsh ⟨_, rfl, h⟩ rfl ht) hG.2.2.2.2 dX2_fact_137
def wX2_tellEnd_26 (Q : GS → Prop) (k0 : Nat) (x1 : Nat) (t0 : Nat) (t1 : Int32) (S : GS) : Prop :=
  t0 < gN S ∧ gK S t0 = 1 ∧ ∀ S3 : GS, S3 = sX S t0 0 t1 → k0 < gN S3 ∧ gK S3 k0 = 2 ∧ x1 < gN S3 ∧ gK S3 x1 = 1 ∧ ∀ S10 : GS, S10 = sX S3 x1 4 (gX S3 k0 5) → ∀ S17 : GS, S17 = sX S10 x1 5 (gX S10 k0 6) → ∀ S24 : GS, S24 = sX S17 x1 6 (gX S17 k0 7) → ∀ S31 : GS, S31 = sX S24 x1 7 (gX S24 k0 8) → ∀ S38 : GS, S38 = sX S31 x1 8 (gX S31 k0 9) → Q S38
def wX2_tellEnd (S : GS) (k0 : Nat) (x1 : Nat) (Q : GS → Prop) : Prop :=
  k0 < gN S ∧ gK S k0 = 2 ∧ wX2_isPause S k0  (fun u48 S47 => gSh S47 S → (u48 = 0 → (¬ (gX S47 k0 4) = 3 → wX2_tellEnd_26 Q k0 x1 x1 6 S47) ∧ ((gX S47 k0 4) = 3 → wX2_tellEnd_26 Q k0 x1 x1 5 S47)) ∧ (¬ u48 = 0 → wX2_tellEnd_26 Q k0 x1 x1 1 S47))
set_option maxHeartbeats 4000000 in
set_option maxRecDepth 100000 in
theorem tX2_tellEnd (l : Launch) (S : GS) (k0 : Nat) (x1 : Nat) (Q : GS → Prop) (h : wX2_tellEnd S k0 x1 Q) : CS l yX2_tellEnd wsX2_tellEnd 1 S [vR (some k0), vR (some x1)] (fun r S9 => r = none ∧ Q S9) := by
  refine CS.ofW (cc := cX2_tellEnd) (maxL := 2) (ret := none) RX2 (by decide) rfl rfl (fun _ _ => Nat.le_of_ble_eq_true rfl) ?_
  intro p e s m args below meth c D Y za ad A ls hAe hx hb hr hml hts hown hlocks hK hA hG hl
  obtain ⟨S0, hS0⟩ : ∃ z : GS, z = S := ⟨_, rfl⟩
  rw [← hS0] at hAe
  rw [← hS0]
  have hin1 : ∀ w ∈ wsX10, w ∈ wsX2_tellEnd := by decide +kernel
  have hin2 : ∀ w ∈ wsX20, w ∈ wsX2_tellEnd := by decide +kernel
  have lk_37 := hts (.fieldLink RX2 37 "PauseLog$Event" "kind" "I") (by decide +kernel)
  have lk_9 := hts (.fieldLink RX2 9 "PauseLog$Entry" "shape" "I") (by decide +kernel)
  have lk_82 := hts (.fieldLink RX2 82 "PauseLog$Event" "endTime" "I") (by decide +kernel)
  have lk_28 := hts (.fieldLink RX2 28 "PauseLog$Entry" "time" "I") (by decide +kernel)
  have lk_38 := hts (.fieldLink RX2 38 "PauseLog$Event" "before" "I") (by decide +kernel)
  have lk_62 := hts (.fieldLink RX2 62 "PauseLog$Entry" "before" "I") (by decide +kernel)
  have lk_41 := hts (.fieldLink RX2 41 "PauseLog$Event" "after" "I") (by decide +kernel)
  have lk_63 := hts (.fieldLink RX2 63 "PauseLog$Entry" "after" "I") (by decide +kernel)
  have lk_44 := hts (.fieldLink RX2 44 "PauseLog$Event" "capacity" "I") (by decide +kernel)
  have lk_64 := hts (.fieldLink RX2 64 "PauseLog$Entry" "capacity" "I") (by decide +kernel)
  have lk_85 := hts (.fieldLink RX2 85 "PauseLog$Event" "took" "I") (by decide +kernel)
  have lk_71 := hts (.fieldLink RX2 71 "PauseLog$Entry" "took" "I") (by decide +kernel)
  have b_26 : ∀  (x1 : Nat) (t0 : Nat) (t1 : Int32) (S : GS) (H : Heap) (locs : List Loc) (ls : Array Slot), wX2_tellEnd_26 Q k0 x1 t0 t1 S → gSh S S0 → gS D Y ad A s.heap S H locs → lv_has ls 2 [(0, .ref (ad k0)), (1, .ref (ad x1))] → W p l e (rmD 1) s m args below meth c H locs 0 0 (MQ below (gE D Y za ad S0 s.heap.size (fun r S9 => r = none ∧ Q S9)) args s 0 0 A) (F0 m 26 ls [.int t1, .ref (ad t0)]) := by
    intro  x1 t0 t1 S H locs ls h hsh hG hl
    unfold wX2_tellEnd_26 at h
    obtain ⟨hk1, hq2, h⟩ := h
    refine r_put (ci := 1) (C := RX1) (T := TX1) (N := 9) hx hb hts hin1 tyX1 tyX1_ok nmX1 hown hK hG hk1 (cell_1 hq2) rfl 0 (by decide) lk_9 (fun _ h9 => h9) rfl rfl rfl (Nat.le_of_ble_eq_true rfl) (S' := sX S t0 0 t1) rfl (pu_1_0 hq2 t1) dX2_tellEnd_26 (fun H locs hG => ?_)
    obtain ⟨S3, eS_S3⟩ : ∃ z : GS, z = sX S t0 0 t1 := ⟨_, rfl⟩
    have h := h S3 eS_S3
    rw [← eS_S3] at hG
    have hs_S3 : gSh S3 S := by rw [eS_S3]; exact gSh.x _ _ _ _
    have hsh := hs_S3.tr hsh
    have hk4 := hs_S3.lt hk1
    have hq5 := hs_S3.kd hq2
    refine lv_aload_n hx hb dX2_tellEnd_29 rfl (lv_at hl 1 rfl) ?_
    refine lv_aload_n hx hb dX2_tellEnd_30 rfl (lv_at hl 0 rfl) ?_
    obtain ⟨hk6, hq7, h⟩ := h
    refine g_get (ci := 2) (C := RX2) (T := TX2) (N := 15) hx hb hts hin2 hown hK hG hk6 (cell_2 hq7) rfl 5 (by decide) lk_82 (fun _ h9 => h9) (v := .int (gX S3 k0 5)) rfl dX2_tellEnd_31 ?_
    obtain ⟨hk8, hq9, h⟩ := h
    refine r_put (ci := 1) (C := RX1) (T := TX1) (N := 9) hx hb hts hin1 tyX1 tyX1_ok nmX1 hown hK hG hk8 (cell_1 hq9) rfl 4 (by decide) lk_28 (fun _ h9 => h9) rfl rfl rfl (Nat.le_of_ble_eq_true rfl) (S' := sX S3 x1 4 (gX S3 k0 5)) rfl (pu_1_4 hq9 (gX S3 k0 5)) dX2_tellEnd_34 (fun H locs hG => ?_)
    obtain ⟨S10, eS_S10⟩ : ∃ z : GS, z = sX S3 x1 4 (gX S3 k0 5) := ⟨_, rfl⟩
    have h := h S10 eS_S10
    rw [← eS_S10] at hG
    have hs_S10 : gSh S10 S3 := by rw [eS_S10]; exact gSh.x _ _ _ _
    have hsh := hs_S10.tr hsh
    have hk11 := hs_S10.lt hk4
    have hq12 := hs_S10.kd hq5
    have hk13 := hs_S10.lt hk6
    have hq14 := hs_S10.kd hq7
    have hk15 := hs_S10.lt hk8
    have hq16 := hs_S10.kd hq9
    refine lv_aload_n hx hb dX2_tellEnd_37 rfl (lv_at hl 1 rfl) ?_
    refine lv_aload_n hx hb dX2_tellEnd_38 rfl (lv_at hl 0 rfl) ?_
    refine g_get (ci := 2) (C := RX2) (T := TX2) (N := 15) hx hb hts hin2 hown hK hG hk13 (cell_2 hq14) rfl 6 (by decide) lk_38 (fun _ h9 => h9) (v := .int (gX S10 k0 6)) rfl dX2_tellEnd_39 ?_
    refine r_put (ci := 1) (C := RX1) (T := TX1) (N := 9) hx hb hts hin1 tyX1 tyX1_ok nmX1 hown hK hG hk15 (cell_1 hq16) rfl 5 (by decide) lk_62 (fun _ h9 => h9) rfl rfl rfl (Nat.le_of_ble_eq_true rfl) (S' := sX S10 x1 5 (gX S10 k0 6)) rfl (pu_1_5 hq16 (gX S10 k0 6)) dX2_tellEnd_42 (fun H locs hG => ?_)
    obtain ⟨S17, eS_S17⟩ : ∃ z : GS, z = sX S10 x1 5 (gX S10 k0 6) := ⟨_, rfl⟩
    have h := h S17 eS_S17
    rw [← eS_S17] at hG
    have hs_S17 : gSh S17 S10 := by rw [eS_S17]; exact gSh.x _ _ _ _
    have hsh := hs_S17.tr hsh
    have hk18 := hs_S17.lt hk11
    have hq19 := hs_S17.kd hq12
    have hk20 := hs_S17.lt hk13
    have hq21 := hs_S17.kd hq14
    have hk22 := hs_S17.lt hk15
    have hq23 := hs_S17.kd hq16
    refine lv_aload_n hx hb dX2_tellEnd_45 rfl (lv_at hl 1 rfl) ?_
    refine lv_aload_n hx hb dX2_tellEnd_46 rfl (lv_at hl 0 rfl) ?_
    refine g_get (ci := 2) (C := RX2) (T := TX2) (N := 15) hx hb hts hin2 hown hK hG hk20 (cell_2 hq21) rfl 7 (by decide) lk_41 (fun _ h9 => h9) (v := .int (gX S17 k0 7)) rfl dX2_tellEnd_47 ?_
    refine r_put (ci := 1) (C := RX1) (T := TX1) (N := 9) hx hb hts hin1 tyX1 tyX1_ok nmX1 hown hK hG hk22 (cell_1 hq23) rfl 6 (by decide) lk_63 (fun _ h9 => h9) rfl rfl rfl (Nat.le_of_ble_eq_true rfl) (S' := sX S17 x1 6 (gX S17 k0 7)) rfl (pu_1_6 hq23 (gX S17 k0 7)) dX2_tellEnd_50 (fun H locs hG => ?_)
    obtain ⟨S24, eS_S24⟩ : ∃ z : GS, z = sX S17 x1 6 (gX S17 k0 7) := ⟨_, rfl⟩
    have h := h S24 eS_S24
    rw [← eS_S24] at hG
    have hs_S24 : gSh S24 S17 := by rw [eS_S24]; exact gSh.x _ _ _ _
    have hsh := hs_S24.tr hsh
    have hk25 := hs_S24.lt hk18
    have hq26 := hs_S24.kd hq19
    have hk27 := hs_S24.lt hk20
    have hq28 := hs_S24.kd hq21
    have hk29 := hs_S24.lt hk22
    have hq30 := hs_S24.kd hq23
    refine lv_aload_n hx hb dX2_tellEnd_53 rfl (lv_at hl 1 rfl) ?_
    refine lv_aload_n hx hb dX2_tellEnd_54 rfl (lv_at hl 0 rfl) ?_
    refine g_get (ci := 2) (C := RX2) (T := TX2) (N := 15) hx hb hts hin2 hown hK hG hk27 (cell_2 hq28) rfl 8 (by decide) lk_44 (fun _ h9 => h9) (v := .int (gX S24 k0 8)) rfl dX2_tellEnd_55 ?_
    refine r_put (ci := 1) (C := RX1) (T := TX1) (N := 9) hx hb hts hin1 tyX1 tyX1_ok nmX1 hown hK hG hk29 (cell_1 hq30) rfl 7 (by decide) lk_64 (fun _ h9 => h9) rfl rfl rfl (Nat.le_of_ble_eq_true rfl) (S' := sX S24 x1 7 (gX S24 k0 8)) rfl (pu_1_7 hq30 (gX S24 k0 8)) dX2_tellEnd_58 (fun H locs hG => ?_)
    obtain ⟨S31, eS_S31⟩ : ∃ z : GS, z = sX S24 x1 7 (gX S24 k0 8) := ⟨_, rfl⟩
    have h := h S31 eS_S31
    rw [← eS_S31] at hG
    have hs_S31 : gSh S31 S24 := by rw [eS_S31]; exact gSh.x _ _ _ _
    have hsh := hs_S31.tr hsh
    have hk32 := hs_S31.lt hk25
    have hq33 := hs_S31.kd hq26
    have hk34 := hs_S31.lt hk27
    have hq35 := hs_S31.kd hq28
    have hk36 := hs_S31.lt hk29
    have hq37 := hs_S31.kd hq30
    refine lv_aload_n hx hb dX2_tellEnd_61 rfl (lv_at hl 1 rfl) ?_
    refine lv_aload_n hx hb dX2_tellEnd_62 rfl (lv_at hl 0 rfl) ?_
    refine g_get (ci := 2) (C := RX2) (T := TX2) (N := 15) hx hb hts hin2 hown hK hG hk34 (cell_2 hq35) rfl 9 (by decide) lk_85 (fun _ h9 => h9) (v := .int (gX S31 k0 9)) rfl dX2_tellEnd_63 ?_
    refine r_put (ci := 1) (C := RX1) (T := TX1) (N := 9) hx hb hts hin1 tyX1 tyX1_ok nmX1 hown hK hG hk36 (cell_1 hq37) rfl 8 (by decide) lk_71 (fun _ h9 => h9) rfl rfl rfl (Nat.le_of_ble_eq_true rfl) (S' := sX S31 x1 8 (gX S31 k0 9)) rfl (pu_1_8 hq37 (gX S31 k0 9)) dX2_tellEnd_66 (fun H locs hG => ?_)
    obtain ⟨S38, eS_S38⟩ : ∃ z : GS, z = sX S31 x1 8 (gX S31 k0 9) := ⟨_, rfl⟩
    have h := h S38 eS_S38
    rw [← eS_S38] at hG
    have hs_S38 : gSh S38 S31 := by rw [eS_S38]; exact gSh.x _ _ _ _
    have hsh := hs_S38.tr hsh
    have hk39 := hs_S38.lt hk32
    have hq40 := hs_S38.kd hq33
    have hk41 := hs_S38.lt hk34
    have hq42 := hs_S38.kd hq35
    have hk43 := hs_S38.lt hk36
    have hq44 := hs_S38.kd hq37
    exact W.vret hx hb hr (fun t ht hW => r_end (r := none) hAe hG hsh ⟨rfl, h⟩ rfl ht) hG.2.2.2.2 dX2_tellEnd_69
  have hl : lv_has ls 2 [(0, .ref (ad k0)), (1, .ref (ad x1))] := hl
  have hsh : gSh S S0 := by rw [hS0]; exact gSh.rf S
  obtain ⟨H, eH⟩ : ∃ z : Heap, z = s.heap := ⟨_, rfl⟩
  obtain ⟨locs, eL⟩ : ∃ z : List Loc, z = [] := ⟨_, rfl⟩
  have hG : gS D Y ad A s.heap S H locs := by rw [eH, eL]; exact hG
  suffices hgoal : W p l e (rmD 1) s m args below meth c H locs 0 0 (MQ below (gE D Y za ad S0 s.heap.size (fun r S9 => r = none ∧ Q S9)) args s 0 0 A) (F0 m 0 ls []) by rw [eH, eL] at hgoal; exact hgoal
  unfold wX2_tellEnd at h
  refine lv_aload_n hx hb dX2_tellEnd_0 rfl (lv_at hl 1 rfl) ?_
  refine lv_aload_n hx hb dX2_tellEnd_1 rfl (lv_at hl 0 rfl) ?_
  obtain ⟨hk45, hq46, h⟩ := h
  refine r_callV (za := za) (k := k0) (ci := 2) (C := RX2) (T := TX2) (N := 15) (As := []) (rest := [.ref (ad x1)]) (tX2_isPause l S k0  _ h) ⟨hx, hb, hml, hown, hts⟩ (cwV 0 hts gX2_tellEnd_X2_isPause rfl rfl rfl (by decide +kernel) ⟨by decide, by decide⟩) hK hG hA hk45 (cell_2 hq46) rfl rfl hl.1 rfl (Nat.le_of_ble_eq_true rfl) ⟨Nat.zero_le _, Nat.zero_le _⟩ dX2_tellEnd_2 (fun r_9 S47 H locs hp hs_S47 hG => ?_)
  obtain ⟨u48, rfl, h⟩ := hp
  have h := h hs_S47
  refine W.eq (g2 := F0 m 5 ls [.int u48, .ref (ad x1)]) rfl ?_
  have hsh := hs_S47.tr hsh
  have hk49 := hs_S47.lt hk45
  have hq50 := hs_S47.kd hq46
  refine lv_if_eq (tgt := 12) hx hb dX2_tellEnd_5 (by decide) (fun c_5 => ?_) (fun c_5 => ?_)
  · have h := h.1 c_5
    refine lv_aload_n hx hb dX2_tellEnd_12 rfl (lv_at hl 0 rfl) ?_
    refine g_get (ci := 2) (C := RX2) (T := TX2) (N := 15) hx hb hts hin2 hown hK hG hk49 (cell_2 hq50) rfl 4 (by decide) lk_37 (fun _ h9 => h9) (v := .int (gX S47 k0 4)) rfl dX2_tellEnd_13 ?_
    refine lv_iconst (v := 3) hx hb dX2_tellEnd_16 (by decide) ?_
    refine lv_icmp_ne (tgt := 24) hx hb dX2_tellEnd_17 (by decide) (fun c_17 => ?_) (fun c_17 => ?_)
    · have h := h.1 c_17
      refine lv_bipush (v := 6) hx hb dX2_tellEnd_24 (by decide) ?_
      exact b_26 x1 x1 6 S47 H locs ls h hsh hG (lv_sub hl [0, 1] rfl)
    · have h := h.2 c_17
      refine lv_iconst (v := 5) hx hb dX2_tellEnd_20 (by decide) ?_
      refine lv_goto (tgt := 26) hx hb dX2_tellEnd_21 (by decide) ?_
      exact b_26 x1 x1 5 S47 H locs ls h hsh hG (lv_sub hl [0, 1] rfl)
  · have h := h.2 c_5
    refine lv_iconst (v := 1) hx hb dX2_tellEnd_8 (by decide) ?_
    refine lv_goto (tgt := 26) hx hb dX2_tellEnd_9 (by decide) ?_
    exact b_26 x1 x1 1 S47 H locs ls h hsh hG (lv_sub hl [0, 1] rfl)
def wX2_tell_131 (Q : GS → Prop) (k0 : Nat)  (S : GS) : Prop :=
  Q S
def wX2_tell_49 (Q : GS → Prop) (k0 : Nat) (t0 : Nat) (t1 : Int32) (S : GS) : Prop :=
  t0 < gN S ∧ gK S t0 = 1 ∧ ∀ S3 : GS, S3 = sX S t0 0 t1 → wX2_tell_131 Q k0  S3
def wX2_tell_110 (Q : GS → Prop) (k0 : Nat) (x2 : Nat) (S : GS) : Prop :=
  x2 < gN S ∧ gK S x2 = 1 ∧ ∀ S8 : GS, S8 = sX S x2 0 3 → k0 < gN S8 ∧ gK S8 k0 = 2 ∧ ∀ S13 : GS, S13 = sX S8 x2 5 (gX S8 k0 12) → ∀ S18 : GS, S18 = sX S13 x2 6 (gX S13 k0 13) → wX2_tell_131 Q k0  S18
def wX2_tell (S : GS) (k0 : Nat) (x1 : Int32) (x2 : Nat) (Q : GS → Prop) : Prop :=
  k0 < gN S ∧ gK S k0 = 2 ∧ x2 < gN S ∧ gK S x2 = 1 ∧ ∀ S27 : GS, S27 = sX S x2 3 (gX S k0 1) → ∀ S32 : GS, S32 = sX S27 x2 4 (gX S27 k0 3) → ∀ S37 : GS, S37 = sX S32 x2 1 (gX S32 k0 4) → ∀ S42 : GS, S42 = sX S37 x2 2 (gX S37 k0 2) → (¬ x1 = 0 → (¬ x1 = ((gX S42 k0 14) - 1) → (¬ x1 = 1 → wX2_tell_110 Q k0 x2 S42) ∧ (x1 = 1 → ((gX S42 k0 10) = (-1) → wX2_tell_110 Q k0 x2 S42) ∧ (¬ (gX S42 k0 10) = (-1) → ∀ S47 : GS, S47 = sX S42 x2 0 2 → ∀ S52 : GS, S52 = sX S47 x2 5 (gX S47 k0 10) → ∀ S57 : GS, S57 = sX S52 x2 6 (gX S52 k0 11) → wX2_tell_131 Q k0  S57))) ∧ (x1 = ((gX S42 k0 14) - 1) → wX2_tellEnd S42 k0 x2 (fun S62 => gSh S62 S42 → wX2_tell_131 Q k0  S62))) ∧ (x1 = 0 → wX2_isPause S42 k0  (fun u69 S68 => gSh S68 S42 → (u69 = 0 → wX2_tell_49 Q k0 x2 4 S68) ∧ (¬ u69 = 0 → wX2_tell_49 Q k0 x2 0 S68)))
set_option maxHeartbeats 4000000 in
set_option maxRecDepth 100000 in
theorem tX2_tell (l : Launch) (S : GS) (k0 : Nat) (x1 : Int32) (x2 : Nat) (Q : GS → Prop) (h : wX2_tell S k0 x1 x2 Q) : CS l yX2_tell wsX2_tell 2 S [vR (some k0), vI x1, vR (some x2)] (fun r S9 => r = none ∧ Q S9) := by
  refine CS.ofW (cc := cX2_tell) (maxL := 3) (ret := none) RX2 (by decide) rfl rfl (fun _ _ => Nat.le_of_ble_eq_true rfl) ?_
  intro p e s m args below meth c D Y za ad A ls hAe hx hb hr hml hts hown hlocks hK hA hG hl
  obtain ⟨S0, hS0⟩ : ∃ z : GS, z = S := ⟨_, rfl⟩
  rw [← hS0] at hAe
  rw [← hS0]
  have hin1 : ∀ w ∈ wsX10, w ∈ wsX2_tell := by decide +kernel
  have hin2 : ∀ w ∈ wsX20, w ∈ wsX2_tell := by decide +kernel
  have lk_23 := hts (.fieldLink RX2 23 "PauseLog$Event" "id" "I") (by decide +kernel)
  have lk_20 := hts (.fieldLink RX2 20 "PauseLog$Entry" "id" "I") (by decide +kernel)
  have lk_31 := hts (.fieldLink RX2 31 "PauseLog$Event" "beginTime" "I") (by decide +kernel)
  have lk_28 := hts (.fieldLink RX2 28 "PauseLog$Entry" "time" "I") (by decide +kernel)
  have lk_37 := hts (.fieldLink RX2 37 "PauseLog$Event" "kind" "I") (by decide +kernel)
  have lk_34 := hts (.fieldLink RX2 34 "PauseLog$Entry" "kind" "I") (by decide +kernel)
  have lk_27 := hts (.fieldLink RX2 27 "PauseLog$Event" "cause" "I") (by decide +kernel)
  have lk_24 := hts (.fieldLink RX2 24 "PauseLog$Entry" "cause" "I") (by decide +kernel)
  have lk_9 := hts (.fieldLink RX2 9 "PauseLog$Entry" "shape" "I") (by decide +kernel)
  have lk_59 := hts (.fieldLink RX2 59 "PauseLog$Event" "lines" "I") (by decide +kernel)
  have lk_47 := hts (.fieldLink RX2 47 "PauseLog$Event" "edenBefore" "I") (by decide +kernel)
  have lk_62 := hts (.fieldLink RX2 62 "PauseLog$Entry" "before" "I") (by decide +kernel)
  have lk_50 := hts (.fieldLink RX2 50 "PauseLog$Event" "edenAfter" "I") (by decide +kernel)
  have lk_63 := hts (.fieldLink RX2 63 "PauseLog$Entry" "after" "I") (by decide +kernel)
  have lk_53 := hts (.fieldLink RX2 53 "PauseLog$Event" "oldBefore" "I") (by decide +kernel)
  have lk_56 := hts (.fieldLink RX2 56 "PauseLog$Event" "oldAfter" "I") (by decide +kernel)
  have b_131 : ∀   (S : GS) (H : Heap) (locs : List Loc) (ls : Array Slot), wX2_tell_131 Q k0  S → gSh S S0 → gS D Y ad A s.heap S H locs → lv_has ls 3 [] → W p l e (rmD 2) s m args below meth c H locs 0 0 (MQ below (gE D Y za ad S0 s.heap.size (fun r S9 => r = none ∧ Q S9)) args s 0 0 A) (F0 m 131 ls []) := by
    intro   S H locs ls h hsh hG hl
    unfold wX2_tell_131 at h
    exact W.vret hx hb hr (fun t ht hW => r_end (r := none) hAe hG hsh ⟨rfl, h⟩ rfl ht) hG.2.2.2.2 dX2_tell_131
  have b_49 : ∀  (t0 : Nat) (t1 : Int32) (S : GS) (H : Heap) (locs : List Loc) (ls : Array Slot), wX2_tell_49 Q k0 t0 t1 S → gSh S S0 → gS D Y ad A s.heap S H locs → lv_has ls 3 [] → W p l e (rmD 2) s m args below meth c H locs 0 0 (MQ below (gE D Y za ad S0 s.heap.size (fun r S9 => r = none ∧ Q S9)) args s 0 0 A) (F0 m 49 ls [.int t1, .ref (ad t0)]) := by
    intro  t0 t1 S H locs ls h hsh hG hl
    unfold wX2_tell_49 at h
    obtain ⟨hk1, hq2, h⟩ := h
    refine r_put (ci := 1) (C := RX1) (T := TX1) (N := 9) hx hb hts hin1 tyX1 tyX1_ok nmX1 hown hK hG hk1 (cell_1 hq2) rfl 0 (by decide) lk_9 (fun _ h9 => h9) rfl rfl rfl (Nat.le_of_ble_eq_true rfl) (S' := sX S t0 0 t1) rfl (pu_1_0 hq2 t1) dX2_tell_49 (fun H locs hG => ?_)
    obtain ⟨S3, eS_S3⟩ : ∃ z : GS, z = sX S t0 0 t1 := ⟨_, rfl⟩
    have h := h S3 eS_S3
    rw [← eS_S3] at hG
    have hs_S3 : gSh S3 S := by rw [eS_S3]; exact gSh.x _ _ _ _
    have hsh := hs_S3.tr hsh
    have hk4 := hs_S3.lt hk1
    have hq5 := hs_S3.kd hq2
    refine lv_goto (tgt := 131) hx hb dX2_tell_52 (by decide) ?_
    exact b_131  S3 H locs ls h hsh hG (lv_sub hl [] rfl)
  have b_110 : ∀  (x2 : Nat) (S : GS) (H : Heap) (locs : List Loc) (ls : Array Slot), wX2_tell_110 Q k0 x2 S → gSh S S0 → gS D Y ad A s.heap S H locs → lv_has ls 3 [(0, .ref (ad k0)), (2, .ref (ad x2))] → W p l e (rmD 2) s m args below meth c H locs 0 0 (MQ below (gE D Y za ad S0 s.heap.size (fun r S9 => r = none ∧ Q S9)) args s 0 0 A) (F0 m 110 ls []) := by
    intro  x2 S H locs ls h hsh hG hl
    unfold wX2_tell_110 at h
    refine lv_aload_n hx hb dX2_tell_110 rfl (lv_at hl 1 rfl) ?_
    refine lv_iconst (v := 3) hx hb dX2_tell_111 (by decide) ?_
    obtain ⟨hk6, hq7, h⟩ := h
    refine r_put (ci := 1) (C := RX1) (T := TX1) (N := 9) hx hb hts hin1 tyX1 tyX1_ok nmX1 hown hK hG hk6 (cell_1 hq7) rfl 0 (by decide) lk_9 (fun _ h9 => h9) rfl rfl rfl (Nat.le_of_ble_eq_true rfl) (S' := sX S x2 0 3) rfl (pu_1_0 hq7 3) dX2_tell_112 (fun H locs hG => ?_)
    obtain ⟨S8, eS_S8⟩ : ∃ z : GS, z = sX S x2 0 3 := ⟨_, rfl⟩
    have h := h S8 eS_S8
    rw [← eS_S8] at hG
    have hs_S8 : gSh S8 S := by rw [eS_S8]; exact gSh.x _ _ _ _
    have hsh := hs_S8.tr hsh
    have hk9 := hs_S8.lt hk6
    have hq10 := hs_S8.kd hq7
    refine lv_aload_n hx hb dX2_tell_115 rfl (lv_at hl 1 rfl) ?_
    refine lv_aload_n hx hb dX2_tell_116 rfl (lv_at hl 0 rfl) ?_
    obtain ⟨hk11, hq12, h⟩ := h
    refine g_get (ci := 2) (C := RX2) (T := TX2) (N := 15) hx hb hts hin2 hown hK hG hk11 (cell_2 hq12) rfl 12 (by decide) lk_53 (fun _ h9 => h9) (v := .int (gX S8 k0 12)) rfl dX2_tell_117 ?_
    refine r_put (ci := 1) (C := RX1) (T := TX1) (N := 9) hx hb hts hin1 tyX1 tyX1_ok nmX1 hown hK hG hk9 (cell_1 hq10) rfl 5 (by decide) lk_62 (fun _ h9 => h9) rfl rfl rfl (Nat.le_of_ble_eq_true rfl) (S' := sX S8 x2 5 (gX S8 k0 12)) rfl (pu_1_5 hq10 (gX S8 k0 12)) dX2_tell_120 (fun H locs hG => ?_)
    obtain ⟨S13, eS_S13⟩ : ∃ z : GS, z = sX S8 x2 5 (gX S8 k0 12) := ⟨_, rfl⟩
    have h := h S13 eS_S13
    rw [← eS_S13] at hG
    have hs_S13 : gSh S13 S8 := by rw [eS_S13]; exact gSh.x _ _ _ _
    have hsh := hs_S13.tr hsh
    have hk14 := hs_S13.lt hk9
    have hq15 := hs_S13.kd hq10
    have hk16 := hs_S13.lt hk11
    have hq17 := hs_S13.kd hq12
    refine lv_aload_n hx hb dX2_tell_123 rfl (lv_at hl 1 rfl) ?_
    refine lv_aload_n hx hb dX2_tell_124 rfl (lv_at hl 0 rfl) ?_
    refine g_get (ci := 2) (C := RX2) (T := TX2) (N := 15) hx hb hts hin2 hown hK hG hk16 (cell_2 hq17) rfl 13 (by decide) lk_56 (fun _ h9 => h9) (v := .int (gX S13 k0 13)) rfl dX2_tell_125 ?_
    refine r_put (ci := 1) (C := RX1) (T := TX1) (N := 9) hx hb hts hin1 tyX1 tyX1_ok nmX1 hown hK hG hk14 (cell_1 hq15) rfl 6 (by decide) lk_63 (fun _ h9 => h9) rfl rfl rfl (Nat.le_of_ble_eq_true rfl) (S' := sX S13 x2 6 (gX S13 k0 13)) rfl (pu_1_6 hq15 (gX S13 k0 13)) dX2_tell_128 (fun H locs hG => ?_)
    obtain ⟨S18, eS_S18⟩ : ∃ z : GS, z = sX S13 x2 6 (gX S13 k0 13) := ⟨_, rfl⟩
    have h := h S18 eS_S18
    rw [← eS_S18] at hG
    have hs_S18 : gSh S18 S13 := by rw [eS_S18]; exact gSh.x _ _ _ _
    have hsh := hs_S18.tr hsh
    have hk19 := hs_S18.lt hk14
    have hq20 := hs_S18.kd hq15
    have hk21 := hs_S18.lt hk16
    have hq22 := hs_S18.kd hq17
    exact b_131  S18 H locs ls h hsh hG (lv_sub hl [] rfl)
  have hl : lv_has ls 3 [(0, .ref (ad k0)), (1, .int x1), (2, .ref (ad x2))] := hl
  have hsh : gSh S S0 := by rw [hS0]; exact gSh.rf S
  obtain ⟨H, eH⟩ : ∃ z : Heap, z = s.heap := ⟨_, rfl⟩
  obtain ⟨locs, eL⟩ : ∃ z : List Loc, z = [] := ⟨_, rfl⟩
  have hG : gS D Y ad A s.heap S H locs := by rw [eH, eL]; exact hG
  suffices hgoal : W p l e (rmD 2) s m args below meth c H locs 0 0 (MQ below (gE D Y za ad S0 s.heap.size (fun r S9 => r = none ∧ Q S9)) args s 0 0 A) (F0 m 0 ls []) by rw [eH, eL] at hgoal; exact hgoal
  unfold wX2_tell at h
  refine lv_aload_n hx hb dX2_tell_0 rfl (lv_at hl 2 rfl) ?_
  refine lv_aload_n hx hb dX2_tell_1 rfl (lv_at hl 0 rfl) ?_
  obtain ⟨hk23, hq24, h⟩ := h
  refine g_get (ci := 2) (C := RX2) (T := TX2) (N := 15) hx hb hts hin2 hown hK hG hk23 (cell_2 hq24) rfl 1 (by decide) lk_23 (fun _ h9 => h9) (v := .int (gX S k0 1)) rfl dX2_tell_2 ?_
  obtain ⟨hk25, hq26, h⟩ := h
  refine r_put (ci := 1) (C := RX1) (T := TX1) (N := 9) hx hb hts hin1 tyX1 tyX1_ok nmX1 hown hK hG hk25 (cell_1 hq26) rfl 3 (by decide) lk_20 (fun _ h9 => h9) rfl rfl rfl (Nat.le_of_ble_eq_true rfl) (S' := sX S x2 3 (gX S k0 1)) rfl (pu_1_3 hq26 (gX S k0 1)) dX2_tell_5 (fun H locs hG => ?_)
  obtain ⟨S27, eS_S27⟩ : ∃ z : GS, z = sX S x2 3 (gX S k0 1) := ⟨_, rfl⟩
  have h := h S27 eS_S27
  rw [← eS_S27] at hG
  have hs_S27 : gSh S27 S := by rw [eS_S27]; exact gSh.x _ _ _ _
  have hsh := hs_S27.tr hsh
  have hk28 := hs_S27.lt hk23
  have hq29 := hs_S27.kd hq24
  have hk30 := hs_S27.lt hk25
  have hq31 := hs_S27.kd hq26
  refine lv_aload_n hx hb dX2_tell_8 rfl (lv_at hl 2 rfl) ?_
  refine lv_aload_n hx hb dX2_tell_9 rfl (lv_at hl 0 rfl) ?_
  refine g_get (ci := 2) (C := RX2) (T := TX2) (N := 15) hx hb hts hin2 hown hK hG hk28 (cell_2 hq29) rfl 3 (by decide) lk_31 (fun _ h9 => h9) (v := .int (gX S27 k0 3)) rfl dX2_tell_10 ?_
  refine r_put (ci := 1) (C := RX1) (T := TX1) (N := 9) hx hb hts hin1 tyX1 tyX1_ok nmX1 hown hK hG hk30 (cell_1 hq31) rfl 4 (by decide) lk_28 (fun _ h9 => h9) rfl rfl rfl (Nat.le_of_ble_eq_true rfl) (S' := sX S27 x2 4 (gX S27 k0 3)) rfl (pu_1_4 hq31 (gX S27 k0 3)) dX2_tell_13 (fun H locs hG => ?_)
  obtain ⟨S32, eS_S32⟩ : ∃ z : GS, z = sX S27 x2 4 (gX S27 k0 3) := ⟨_, rfl⟩
  have h := h S32 eS_S32
  rw [← eS_S32] at hG
  have hs_S32 : gSh S32 S27 := by rw [eS_S32]; exact gSh.x _ _ _ _
  have hsh := hs_S32.tr hsh
  have hk33 := hs_S32.lt hk28
  have hq34 := hs_S32.kd hq29
  have hk35 := hs_S32.lt hk30
  have hq36 := hs_S32.kd hq31
  refine lv_aload_n hx hb dX2_tell_16 rfl (lv_at hl 2 rfl) ?_
  refine lv_aload_n hx hb dX2_tell_17 rfl (lv_at hl 0 rfl) ?_
  refine g_get (ci := 2) (C := RX2) (T := TX2) (N := 15) hx hb hts hin2 hown hK hG hk33 (cell_2 hq34) rfl 4 (by decide) lk_37 (fun _ h9 => h9) (v := .int (gX S32 k0 4)) rfl dX2_tell_18 ?_
  refine r_put (ci := 1) (C := RX1) (T := TX1) (N := 9) hx hb hts hin1 tyX1 tyX1_ok nmX1 hown hK hG hk35 (cell_1 hq36) rfl 1 (by decide) lk_34 (fun _ h9 => h9) rfl rfl rfl (Nat.le_of_ble_eq_true rfl) (S' := sX S32 x2 1 (gX S32 k0 4)) rfl (pu_1_1 hq36 (gX S32 k0 4)) dX2_tell_21 (fun H locs hG => ?_)
  obtain ⟨S37, eS_S37⟩ : ∃ z : GS, z = sX S32 x2 1 (gX S32 k0 4) := ⟨_, rfl⟩
  have h := h S37 eS_S37
  rw [← eS_S37] at hG
  have hs_S37 : gSh S37 S32 := by rw [eS_S37]; exact gSh.x _ _ _ _
  have hsh := hs_S37.tr hsh
  have hk38 := hs_S37.lt hk33
  have hq39 := hs_S37.kd hq34
  have hk40 := hs_S37.lt hk35
  have hq41 := hs_S37.kd hq36
  refine lv_aload_n hx hb dX2_tell_24 rfl (lv_at hl 2 rfl) ?_
  refine lv_aload_n hx hb dX2_tell_25 rfl (lv_at hl 0 rfl) ?_
  refine g_get (ci := 2) (C := RX2) (T := TX2) (N := 15) hx hb hts hin2 hown hK hG hk38 (cell_2 hq39) rfl 2 (by decide) lk_27 (fun _ h9 => h9) (v := .int (gX S37 k0 2)) rfl dX2_tell_26 ?_
  refine r_put (ci := 1) (C := RX1) (T := TX1) (N := 9) hx hb hts hin1 tyX1 tyX1_ok nmX1 hown hK hG hk40 (cell_1 hq41) rfl 2 (by decide) lk_24 (fun _ h9 => h9) rfl rfl rfl (Nat.le_of_ble_eq_true rfl) (S' := sX S37 x2 2 (gX S37 k0 2)) rfl (pu_1_2 hq41 (gX S37 k0 2)) dX2_tell_29 (fun H locs hG => ?_)
  obtain ⟨S42, eS_S42⟩ : ∃ z : GS, z = sX S37 x2 2 (gX S37 k0 2) := ⟨_, rfl⟩
  have h := h S42 eS_S42
  rw [← eS_S42] at hG
  have hs_S42 : gSh S42 S37 := by rw [eS_S42]; exact gSh.x _ _ _ _
  have hsh := hs_S42.tr hsh
  have hk43 := hs_S42.lt hk38
  have hq44 := hs_S42.kd hq39
  have hk45 := hs_S42.lt hk40
  have hq46 := hs_S42.kd hq41
  refine lv_iload_n hx hb dX2_tell_32 rfl (lv_at hl 1 rfl) ?_
  refine lv_if_ne (tgt := 55) hx hb dX2_tell_33 (by decide) (fun c_33 => ?_) (fun c_33 => ?_)
  · have h := h.1 c_33
    refine lv_iload_n hx hb dX2_tell_55 rfl (lv_at hl 1 rfl) ?_
    refine lv_aload_n hx hb dX2_tell_56 rfl (lv_at hl 0 rfl) ?_
    refine g_get (ci := 2) (C := RX2) (T := TX2) (N := 15) hx hb hts hin2 hown hK hG hk43 (cell_2 hq44) rfl 14 (by decide) lk_59 (fun _ h9 => h9) (v := .int (gX S42 k0 14)) rfl dX2_tell_57 ?_
    refine lv_iconst (v := 1) hx hb dX2_tell_60 (by decide) ?_
    refine lv_isub hx hb dX2_tell_61 ?_
    refine lv_icmp_ne (tgt := 73) hx hb dX2_tell_62 (by decide) (fun c_62 => ?_) (fun c_62 => ?_)
    · have h := h.1 c_62
      refine lv_iload_n hx hb dX2_tell_73 rfl (lv_at hl 1 rfl) ?_
      refine lv_iconst (v := 1) hx hb dX2_tell_74 (by decide) ?_
      refine lv_icmp_ne (tgt := 110) hx hb dX2_tell_75 (by decide) (fun c_75 => ?_) (fun c_75 => ?_)
      · have h := h.1 c_75
        exact b_110 x2 S42 H locs ls h hsh hG (lv_sub hl [0, 2] rfl)
      · have h := h.2 c_75
        refine lv_aload_n hx hb dX2_tell_78 rfl (lv_at hl 0 rfl) ?_
        refine g_get (ci := 2) (C := RX2) (T := TX2) (N := 15) hx hb hts hin2 hown hK hG hk43 (cell_2 hq44) rfl 10 (by decide) lk_47 (fun _ h9 => h9) (v := .int (gX S42 k0 10)) rfl dX2_tell_79 ?_
        refine lv_iconst (v := (-1)) hx hb dX2_tell_82 (by decide) ?_
        refine lv_icmp_eq (tgt := 110) hx hb dX2_tell_83 (by decide) (fun c_83 => ?_) (fun c_83 => ?_)
        · have h := h.1 c_83
          exact b_110 x2 S42 H locs ls h hsh hG (lv_sub hl [0, 2] rfl)
        · have h := h.2 c_83
          refine lv_aload_n hx hb dX2_tell_86 rfl (lv_at hl 2 rfl) ?_
          refine lv_iconst (v := 2) hx hb dX2_tell_87 (by decide) ?_
          refine r_put (ci := 1) (C := RX1) (T := TX1) (N := 9) hx hb hts hin1 tyX1 tyX1_ok nmX1 hown hK hG hk45 (cell_1 hq46) rfl 0 (by decide) lk_9 (fun _ h9 => h9) rfl rfl rfl (Nat.le_of_ble_eq_true rfl) (S' := sX S42 x2 0 2) rfl (pu_1_0 hq46 2) dX2_tell_88 (fun H locs hG => ?_)
          obtain ⟨S47, eS_S47⟩ : ∃ z : GS, z = sX S42 x2 0 2 := ⟨_, rfl⟩
          have h := h S47 eS_S47
          rw [← eS_S47] at hG
          have hs_S47 : gSh S47 S42 := by rw [eS_S47]; exact gSh.x _ _ _ _
          have hsh := hs_S47.tr hsh
          have hk48 := hs_S47.lt hk43
          have hq49 := hs_S47.kd hq44
          have hk50 := hs_S47.lt hk45
          have hq51 := hs_S47.kd hq46
          refine lv_aload_n hx hb dX2_tell_91 rfl (lv_at hl 2 rfl) ?_
          refine lv_aload_n hx hb dX2_tell_92 rfl (lv_at hl 0 rfl) ?_
          refine g_get (ci := 2) (C := RX2) (T := TX2) (N := 15) hx hb hts hin2 hown hK hG hk48 (cell_2 hq49) rfl 10 (by decide) lk_47 (fun _ h9 => h9) (v := .int (gX S47 k0 10)) rfl dX2_tell_93 ?_
          refine r_put (ci := 1) (C := RX1) (T := TX1) (N := 9) hx hb hts hin1 tyX1 tyX1_ok nmX1 hown hK hG hk50 (cell_1 hq51) rfl 5 (by decide) lk_62 (fun _ h9 => h9) rfl rfl rfl (Nat.le_of_ble_eq_true rfl) (S' := sX S47 x2 5 (gX S47 k0 10)) rfl (pu_1_5 hq51 (gX S47 k0 10)) dX2_tell_96 (fun H locs hG => ?_)
          obtain ⟨S52, eS_S52⟩ : ∃ z : GS, z = sX S47 x2 5 (gX S47 k0 10) := ⟨_, rfl⟩
          have h := h S52 eS_S52
          rw [← eS_S52] at hG
          have hs_S52 : gSh S52 S47 := by rw [eS_S52]; exact gSh.x _ _ _ _
          have hsh := hs_S52.tr hsh
          have hk53 := hs_S52.lt hk48
          have hq54 := hs_S52.kd hq49
          have hk55 := hs_S52.lt hk50
          have hq56 := hs_S52.kd hq51
          refine lv_aload_n hx hb dX2_tell_99 rfl (lv_at hl 2 rfl) ?_
          refine lv_aload_n hx hb dX2_tell_100 rfl (lv_at hl 0 rfl) ?_
          refine g_get (ci := 2) (C := RX2) (T := TX2) (N := 15) hx hb hts hin2 hown hK hG hk53 (cell_2 hq54) rfl 11 (by decide) lk_50 (fun _ h9 => h9) (v := .int (gX S52 k0 11)) rfl dX2_tell_101 ?_
          refine r_put (ci := 1) (C := RX1) (T := TX1) (N := 9) hx hb hts hin1 tyX1 tyX1_ok nmX1 hown hK hG hk55 (cell_1 hq56) rfl 6 (by decide) lk_63 (fun _ h9 => h9) rfl rfl rfl (Nat.le_of_ble_eq_true rfl) (S' := sX S52 x2 6 (gX S52 k0 11)) rfl (pu_1_6 hq56 (gX S52 k0 11)) dX2_tell_104 (fun H locs hG => ?_)
          obtain ⟨S57, eS_S57⟩ : ∃ z : GS, z = sX S52 x2 6 (gX S52 k0 11) := ⟨_, rfl⟩
          have h := h S57 eS_S57
          rw [← eS_S57] at hG
          have hs_S57 : gSh S57 S52 := by rw [eS_S57]; exact gSh.x _ _ _ _
          have hsh := hs_S57.tr hsh
          have hk58 := hs_S57.lt hk53
          have hq59 := hs_S57.kd hq54
          have hk60 := hs_S57.lt hk55
          have hq61 := hs_S57.kd hq56
          refine lv_goto (tgt := 131) hx hb dX2_tell_107 (by decide) ?_
          exact b_131  S57 H locs ls h hsh hG (lv_sub hl [] rfl)
    · have h := h.2 c_62
      refine lv_aload_n hx hb dX2_tell_65 rfl (lv_at hl 0 rfl) ?_
      refine lv_aload_n hx hb dX2_tell_66 rfl (lv_at hl 2 rfl) ?_
      refine r_callV (za := za) (k := k0) (ci := 2) (C := RX2) (T := TX2) (N := 15) (As := [vR (some x2)]) (rest := []) (tX2_tellEnd l S42 k0 x2 _ h) ⟨hx, hb, hml, hown, hts⟩ (cwV 1 hts gX2_tell_X2_tellEnd rfl rfl rfl (by decide +kernel) ⟨by decide, by decide⟩) hK hG hA hk43 (cell_2 hq44) rfl rfl hl.1 rfl (Nat.le_of_ble_eq_true rfl) ⟨Nat.zero_le _, Nat.zero_le _⟩ dX2_tell_67 (fun r_9 S62 H locs hp hs_S62 hG => ?_)
      obtain ⟨rfl, h⟩ := hp
      have h := h hs_S62
      refine W.eq (g2 := F0 m 70 ls []) rfl ?_
      have hsh := hs_S62.tr hsh
      have hk64 := hs_S62.lt hk43
      have hq65 := hs_S62.kd hq44
      have hk66 := hs_S62.lt hk45
      have hq67 := hs_S62.kd hq46
      refine lv_goto (tgt := 131) hx hb dX2_tell_70 (by decide) ?_
      exact b_131  S62 H locs ls h hsh hG (lv_sub hl [] rfl)
  · have h := h.2 c_33
    refine lv_aload_n hx hb dX2_tell_36 rfl (lv_at hl 2 rfl) ?_
    refine lv_aload_n hx hb dX2_tell_37 rfl (lv_at hl 0 rfl) ?_
    refine r_callV (za := za) (k := k0) (ci := 2) (C := RX2) (T := TX2) (N := 15) (As := []) (rest := [.ref (ad x2)]) (tX2_isPause l S42 k0  _ h) ⟨hx, hb, hml, hown, hts⟩ (cwV 0 hts gX2_tell_X2_isPause rfl rfl rfl (by decide +kernel) ⟨by decide, by decide⟩) hK hG hA hk43 (cell_2 hq44) rfl rfl hl.1 rfl (Nat.le_of_ble_eq_true rfl) ⟨Nat.zero_le _, Nat.zero_le _⟩ dX2_tell_38 (fun r_9 S68 H locs hp hs_S68 hG => ?_)
    obtain ⟨u69, rfl, h⟩ := hp
    have h := h hs_S68
    refine W.eq (g2 := F0 m 41 ls [.int u69, .ref (ad x2)]) rfl ?_
    have hsh := hs_S68.tr hsh
    have hk70 := hs_S68.lt hk43
    have hq71 := hs_S68.kd hq44
    have hk72 := hs_S68.lt hk45
    have hq73 := hs_S68.kd hq46
    refine lv_if_eq (tgt := 48) hx hb dX2_tell_41 (by decide) (fun c_41 => ?_) (fun c_41 => ?_)
    · have h := h.1 c_41
      refine lv_iconst (v := 4) hx hb dX2_tell_48 (by decide) ?_
      exact b_49 x2 4 S68 H locs ls h hsh hG (lv_sub hl [] rfl)
    · have h := h.2 c_41
      refine lv_iconst (v := 0) hx hb dX2_tell_44 (by decide) ?_
      refine lv_goto (tgt := 49) hx hb dX2_tell_45 (by decide) ?_
      exact b_49 x2 0 S68 H locs ls h hsh hG (lv_sub hl [] rfl)
