def wX7_isBack_13 (Q : Int32 → GS → Prop) (k0 : Nat) (t0 : Int32) (S : GS) : Prop :=
  (t0 = 0 ∨ t0 = 1) ∧ Q t0 S
def wX7_isBack (S : GS) (k0 : Nat) (x1 : Int32) (Q : Int32 → GS → Prop) : Prop :=
  k0 < gN S ∧ gK S k0 = 7 ∧ ((gX S k0 2) ≤ x1 → wX7_isBack_13 Q k0 0 S) ∧ (¬ (gX S k0 2) ≤ x1 → wX7_isBack_13 Q k0 1 S)
set_option maxHeartbeats 4000000 in
set_option maxRecDepth 100000 in
theorem tX7_isBack (l : Launch) (S : GS) (k0 : Nat) (x1 : Int32) (Q : Int32 → GS → Prop) (h : wX7_isBack S k0 x1 Q) : CS l yX7_isBack wsX7_isBack 0 S [vR (some k0), vI x1] (fun r S9 => ∃ x, r = some (vI x) ∧ Q x S9) := by
  refine CS.ofW (cc := cX7_isBack) (maxL := 2) (ret := (some .boolean)) RX7 (by decide) rfl rfl (fun _ _ => Nat.le_of_ble_eq_true rfl) ?_
  intro p e s m args below meth c D Y za ad A ls hAe hx hb hr hml hts hown hlocks hK hA hG hl
  obtain ⟨S0, hS0⟩ : ∃ z : GS, z = S := ⟨_, rfl⟩
  rw [← hS0] at hAe
  rw [← hS0]
  have hin7 : ∀ w ∈ wsX70, w ∈ wsX7_isBack := by decide +kernel
  have lk_15 := hts (.fieldLink RX7 15 "PauseLog$Times" "latest" "I") (by decide +kernel)
  have b_13 : ∀  (t0 : Int32) (S : GS) (H : Heap) (locs : List Loc) (ls : Array Slot), wX7_isBack_13 Q k0 t0 S → gSh S S0 → gS D Y ad A s.heap S H locs → lv_has ls 2 [] → W p l e (rmD 0) s m args below meth c H locs 0 0 (MQ below (gE D Y za ad S0 s.heap.size (fun r S9 => ∃ x, r = some (vI x) ∧ Q x S9)) args s 0 0 A) (F0 m 13 ls [.int t0]) := by
    intro  t0 S H locs ls h hsh hG hl
    unfold wX7_isBack_13 at h
    obtain ⟨hz1, h⟩ := h
    exact W.zret (v := t0) hx hb hr (nar01 hz1) (fun t ht hW => r_end (r := some (vI t0)) hAe hG hsh ⟨_, rfl, h⟩ rfl ht) hG.2.2.2.2 dX7_isBack_13
  have hl : lv_has ls 2 [(0, .ref (ad k0)), (1, .int x1)] := hl
  have hsh : gSh S S0 := by rw [hS0]; exact gSh.rf S
  obtain ⟨H, eH⟩ : ∃ z : Heap, z = s.heap := ⟨_, rfl⟩
  obtain ⟨locs, eL⟩ : ∃ z : List Loc, z = [] := ⟨_, rfl⟩
  have hG : gS D Y ad A s.heap S H locs := by rw [eH, eL]; exact hG
  suffices hgoal : W p l e (rmD 0) s m args below meth c H locs 0 0 (MQ below (gE D Y za ad S0 s.heap.size (fun r S9 => ∃ x, r = some (vI x) ∧ Q x S9)) args s 0 0 A) (F0 m 0 ls []) by rw [eH, eL] at hgoal; exact hgoal
  unfold wX7_isBack at h
  refine lv_iload_n hx hb dX7_isBack_0 rfl (lv_at hl 1 rfl) ?_
  refine lv_aload_n hx hb dX7_isBack_1 rfl (lv_at hl 0 rfl) ?_
  obtain ⟨hk2, hq3, h⟩ := h
  refine g_get (ci := 7) (C := RX7) (T := TX7) (N := 3) hx hb hts hin7 hown hK hG hk2 (cell_7 hq3) rfl 2 (by decide) lk_15 (fun _ h9 => h9) (v := .int (gX S k0 2)) rfl dX7_isBack_2 ?_
  refine lv_icmp_ge (tgt := 12) hx hb dX7_isBack_5 (by decide) (fun c_5 => ?_) (fun c_5 => ?_)
  · have h := h.1 c_5
    refine lv_iconst (v := 0) hx hb dX7_isBack_12 (by decide) ?_
    exact b_13 0 S H locs ls h hsh hG (lv_sub hl [] rfl)
  · have h := h.2 c_5
    refine lv_iconst (v := 1) hx hb dX7_isBack_8 (by decide) ?_
    refine lv_goto (tgt := 13) hx hb dX7_isBack_9 (by decide) ?_
    exact b_13 1 S H locs ls h hsh hG (lv_sub hl [] rfl)
def wX7_see_13 (Q : GS → Prop) (k0 : Nat) (x1 : Int32) (S : GS) : Prop :=
  k0 < gN S ∧ gK S k0 = 7 ∧ ∀ S3 : GS, S3 = sX S k0 2 x1 → Q S3
def wX7_see (S : GS) (k0 : Nat) (x1 : Int32) (Q : GS → Prop) : Prop :=
  k0 < gN S ∧ gK S k0 = 7 ∧ (¬ (gX S k0 1) = (-1) → wX7_see_13 Q k0 x1 S) ∧ ((gX S k0 1) = (-1) → ∀ S8 : GS, S8 = sX S k0 1 x1 → wX7_see_13 Q k0 x1 S8)
set_option maxHeartbeats 4000000 in
set_option maxRecDepth 100000 in
theorem tX7_see (l : Launch) (S : GS) (k0 : Nat) (x1 : Int32) (Q : GS → Prop) (h : wX7_see S k0 x1 Q) : CS l yX7_see wsX7_see 0 S [vR (some k0), vI x1] (fun r S9 => r = none ∧ Q S9) := by
  refine CS.ofW (cc := cX7_see) (maxL := 2) (ret := none) RX7 (by decide) rfl rfl (fun _ _ => Nat.le_of_ble_eq_true rfl) ?_
  intro p e s m args below meth c D Y za ad A ls hAe hx hb hr hml hts hown hlocks hK hA hG hl
  obtain ⟨S0, hS0⟩ : ∃ z : GS, z = S := ⟨_, rfl⟩
  rw [← hS0] at hAe
  rw [← hS0]
  have hin7 : ∀ w ∈ wsX70, w ∈ wsX7_see := by decide +kernel
  have lk_9 := hts (.fieldLink RX7 9 "PauseLog$Times" "first" "I") (by decide +kernel)
  have lk_15 := hts (.fieldLink RX7 15 "PauseLog$Times" "latest" "I") (by decide +kernel)
  have b_13 : ∀  (x1 : Int32) (S : GS) (H : Heap) (locs : List Loc) (ls : Array Slot), wX7_see_13 Q k0 x1 S → gSh S S0 → gS D Y ad A s.heap S H locs → lv_has ls 2 [(0, .ref (ad k0)), (1, .int x1)] → W p l e (rmD 0) s m args below meth c H locs 0 0 (MQ below (gE D Y za ad S0 s.heap.size (fun r S9 => r = none ∧ Q S9)) args s 0 0 A) (F0 m 13 ls []) := by
    intro  x1 S H locs ls h hsh hG hl
    unfold wX7_see_13 at h
    refine lv_aload_n hx hb dX7_see_13 rfl (lv_at hl 0 rfl) ?_
    refine lv_iload_n hx hb dX7_see_14 rfl (lv_at hl 1 rfl) ?_
    obtain ⟨hk1, hq2, h⟩ := h
    refine r_put (ci := 7) (C := RX7) (T := TX7) (N := 3) hx hb hts hin7 tyX7 tyX7_ok nmX7 hown hK hG hk1 (cell_7 hq2) rfl 2 (by decide) lk_15 (fun _ h9 => h9) rfl rfl rfl (Nat.le_of_ble_eq_true rfl) (S' := sX S k0 2 x1) rfl (pu_7_2 hq2 x1) dX7_see_15 (fun H locs hG => ?_)
    obtain ⟨S3, eS_S3⟩ : ∃ z : GS, z = sX S k0 2 x1 := ⟨_, rfl⟩
    have h := h S3 eS_S3
    rw [← eS_S3] at hG
    have hs_S3 : gSh S3 S := by rw [eS_S3]; exact gSh.x _ _ _ _
    have hsh := hs_S3.tr hsh
    have hk4 := hs_S3.lt hk1
    have hq5 := hs_S3.kd hq2
    exact W.vret hx hb hr (fun t ht hW => r_end (r := none) hAe hG hsh ⟨rfl, h⟩ rfl ht) hG.2.2.2.2 dX7_see_18
  have hl : lv_has ls 2 [(0, .ref (ad k0)), (1, .int x1)] := hl
  have hsh : gSh S S0 := by rw [hS0]; exact gSh.rf S
  obtain ⟨H, eH⟩ : ∃ z : Heap, z = s.heap := ⟨_, rfl⟩
  obtain ⟨locs, eL⟩ : ∃ z : List Loc, z = [] := ⟨_, rfl⟩
  have hG : gS D Y ad A s.heap S H locs := by rw [eH, eL]; exact hG
  suffices hgoal : W p l e (rmD 0) s m args below meth c H locs 0 0 (MQ below (gE D Y za ad S0 s.heap.size (fun r S9 => r = none ∧ Q S9)) args s 0 0 A) (F0 m 0 ls []) by rw [eH, eL] at hgoal; exact hgoal
  unfold wX7_see at h
  refine lv_aload_n hx hb dX7_see_0 rfl (lv_at hl 0 rfl) ?_
  obtain ⟨hk6, hq7, h⟩ := h
  refine g_get (ci := 7) (C := RX7) (T := TX7) (N := 3) hx hb hts hin7 hown hK hG hk6 (cell_7 hq7) rfl 1 (by decide) lk_9 (fun _ h9 => h9) (v := .int (gX S k0 1)) rfl dX7_see_1 ?_
  refine lv_iconst (v := (-1)) hx hb dX7_see_4 (by decide) ?_
  refine lv_icmp_ne (tgt := 13) hx hb dX7_see_5 (by decide) (fun c_5 => ?_) (fun c_5 => ?_)
  · have h := h.1 c_5
    exact b_13 x1 S H locs ls h hsh hG (lv_sub hl [0, 1] rfl)
  · have h := h.2 c_5
    refine lv_aload_n hx hb dX7_see_8 rfl (lv_at hl 0 rfl) ?_
    refine lv_iload_n hx hb dX7_see_9 rfl (lv_at hl 1 rfl) ?_
    refine r_put (ci := 7) (C := RX7) (T := TX7) (N := 3) hx hb hts hin7 tyX7 tyX7_ok nmX7 hown hK hG hk6 (cell_7 hq7) rfl 1 (by decide) lk_9 (fun _ h9 => h9) rfl rfl rfl (Nat.le_of_ble_eq_true rfl) (S' := sX S k0 1 x1) rfl (pu_7_1 hq7 x1) dX7_see_10 (fun H locs hG => ?_)
    obtain ⟨S8, eS_S8⟩ : ∃ z : GS, z = sX S k0 1 x1 := ⟨_, rfl⟩
    have h := h S8 eS_S8
    rw [← eS_S8] at hG
    have hs_S8 : gSh S8 S := by rw [eS_S8]; exact gSh.x _ _ _ _
    have hsh := hs_S8.tr hsh
    have hk9 := hs_S8.lt hk6
    have hq10 := hs_S8.kd hq7
    exact b_13 x1 S8 H locs ls h hsh hG (lv_sub hl [0, 1] rfl)
def wX7_span (S : GS) (k0 : Nat) (Q : Int64 → GS → Prop) : Prop :=
  k0 < gN S ∧ gK S k0 = 7 ∧ Q ((gZ S k0 0) + (Int32.toInt64 ((gX S k0 2) - (gX S k0 1)))) S
set_option maxHeartbeats 4000000 in
set_option maxRecDepth 100000 in
theorem tX7_span (l : Launch) (S : GS) (k0 : Nat) (Q : Int64 → GS → Prop) (h : wX7_span S k0 Q) : CS l yX7_span wsX7_span 0 S [vR (some k0)] (fun r S9 => ∃ x, r = some (vL x) ∧ Q x S9) := by
  refine CS.ofW (cc := cX7_span) (maxL := 1) (ret := (some .long)) RX7 (by decide) rfl rfl (fun _ _ => Nat.le_of_ble_eq_true rfl) ?_
  intro p e s m args below meth c D Y za ad A ls hAe hx hb hr hml hts hown hlocks hK hA hG hl
  obtain ⟨S0, hS0⟩ : ∃ z : GS, z = S := ⟨_, rfl⟩
  rw [← hS0] at hAe
  rw [← hS0]
  have hin7 : ∀ w ∈ wsX70, w ∈ wsX7_span := by decide +kernel
  have lk_22 := hts (.fieldLink RX7 22 "PauseLog$Times" "spanOfEndedLogs" "J") (by decide +kernel)
  have lk_15 := hts (.fieldLink RX7 15 "PauseLog$Times" "latest" "I") (by decide +kernel)
  have lk_9 := hts (.fieldLink RX7 9 "PauseLog$Times" "first" "I") (by decide +kernel)
  have hl : lv_has ls 1 [(0, .ref (ad k0))] := hl
  have hsh : gSh S S0 := by rw [hS0]; exact gSh.rf S
  obtain ⟨H, eH⟩ : ∃ z : Heap, z = s.heap := ⟨_, rfl⟩
  obtain ⟨locs, eL⟩ : ∃ z : List Loc, z = [] := ⟨_, rfl⟩
  have hG : gS D Y ad A s.heap S H locs := by rw [eH, eL]; exact hG
  suffices hgoal : W p l e (rmD 0) s m args below meth c H locs 0 0 (MQ below (gE D Y za ad S0 s.heap.size (fun r S9 => ∃ x, r = some (vL x) ∧ Q x S9)) args s 0 0 A) (F0 m 0 ls []) by rw [eH, eL] at hgoal; exact hgoal
  unfold wX7_span at h
  refine lv_aload_n hx hb dX7_span_0 rfl (lv_at hl 0 rfl) ?_
  obtain ⟨hk1, hq2, h⟩ := h
  refine g_get (ci := 7) (C := RX7) (T := TX7) (N := 3) hx hb hts hin7 hown hK hG hk1 (cell_7 hq2) rfl 0 (by decide) lk_22 (fun _ h9 => h9) (v := .long (gZ S k0 0)) rfl dX7_span_1 ?_
  refine lv_aload_n hx hb dX7_span_4 rfl (lv_at hl 0 rfl) ?_
  refine g_get (ci := 7) (C := RX7) (T := TX7) (N := 3) hx hb hts hin7 hown hK hG hk1 (cell_7 hq2) rfl 2 (by decide) lk_15 (fun _ h9 => h9) (v := .int (gX S k0 2)) rfl dX7_span_5 ?_
  refine lv_aload_n hx hb dX7_span_8 rfl (lv_at hl 0 rfl) ?_
  refine g_get (ci := 7) (C := RX7) (T := TX7) (N := 3) hx hb hts hin7 hown hK hG hk1 (cell_7 hq2) rfl 1 (by decide) lk_9 (fun _ h9 => h9) (v := .int (gX S k0 1)) rfl dX7_span_9 ?_
  refine lv_isub hx hb dX7_span_12 ?_
  refine lv_i2l hx hb dX7_span_13 rfl ?_
  refine lv_ladd hx hb dX7_span_14 ?_
  exact W.lret (v := (gZ S k0 0) + (Int32.toInt64 ((gX S k0 2) - (gX S k0 1)))) hx hb hr (fun t ht hW => r_end (r := some (vL ((gZ S k0 0) + (Int32.toInt64 ((gX S k0 2) - (gX S k0 1)))))) hAe hG hsh ⟨_, rfl, h⟩ rfl ht) hG.2.2.2.2 dX7_span_15
def wX7_endLog (S : GS) (k0 : Nat) (Q : GS → Prop) : Prop :=
  k0 < gN S ∧ gK S k0 = 7 ∧ wX7_span S k0  (fun u4 S3 => gSh S3 S → ∀ S7 : GS, S7 = sZ S3 k0 0 u4 → ∀ S10 : GS, S10 = sX S7 k0 1 (-1) → ∀ S13 : GS, S13 = sX S10 k0 2 (-1) → Q S13)
set_option maxHeartbeats 4000000 in
set_option maxRecDepth 100000 in
theorem tX7_endLog (l : Launch) (S : GS) (k0 : Nat) (Q : GS → Prop) (h : wX7_endLog S k0 Q) : CS l yX7_endLog wsX7_endLog 1 S [vR (some k0)] (fun r S9 => r = none ∧ Q S9) := by
  refine CS.ofW (cc := cX7_endLog) (maxL := 1) (ret := none) RX7 (by decide) rfl rfl (fun _ _ => Nat.le_of_ble_eq_true rfl) ?_
  intro p e s m args below meth c D Y za ad A ls hAe hx hb hr hml hts hown hlocks hK hA hG hl
  obtain ⟨S0, hS0⟩ : ∃ z : GS, z = S := ⟨_, rfl⟩
  rw [← hS0] at hAe
  rw [← hS0]
  have hin7 : ∀ w ∈ wsX70, w ∈ wsX7_endLog := by decide +kernel
  have lk_22 := hts (.fieldLink RX7 22 "PauseLog$Times" "spanOfEndedLogs" "J") (by decide +kernel)
  have lk_9 := hts (.fieldLink RX7 9 "PauseLog$Times" "first" "I") (by decide +kernel)
  have lk_15 := hts (.fieldLink RX7 15 "PauseLog$Times" "latest" "I") (by decide +kernel)
  have hl : lv_has ls 1 [(0, .ref (ad k0))] := hl
  have hsh : gSh S S0 := by rw [hS0]; exact gSh.rf S
  obtain ⟨H, eH⟩ : ∃ z : Heap, z = s.heap := ⟨_, rfl⟩
  obtain ⟨locs, eL⟩ : ∃ z : List Loc, z = [] := ⟨_, rfl⟩
  have hG : gS D Y ad A s.heap S H locs := by rw [eH, eL]; exact hG
  suffices hgoal : W p l e (rmD 1) s m args below meth c H locs 0 0 (MQ below (gE D Y za ad S0 s.heap.size (fun r S9 => r = none ∧ Q S9)) args s 0 0 A) (F0 m 0 ls []) by rw [eH, eL] at hgoal; exact hgoal
  unfold wX7_endLog at h
  refine lv_aload_n hx hb dX7_endLog_0 rfl (lv_at hl 0 rfl) ?_
  refine lv_aload_n hx hb dX7_endLog_1 rfl (lv_at hl 0 rfl) ?_
  obtain ⟨hk1, hq2, h⟩ := h
  refine r_callV (za := za) (k := k0) (ci := 7) (C := RX7) (T := TX7) (N := 3) (As := []) (rest := [.ref (ad k0)]) (tX7_span l S k0  _ h) ⟨hx, hb, hml, hown, hts⟩ (cwV 0 hts gX7_endLog_X7_span rfl rfl rfl (by decide +kernel) ⟨by decide, by decide⟩) hK hG hA hk1 (cell_7 hq2) rfl rfl hl.1 rfl (Nat.le_of_ble_eq_true rfl) ⟨Nat.zero_le _, Nat.zero_le _⟩ dX7_endLog_2 (fun r_9 S3 H locs hp hs_S3 hG => ?_)
  obtain ⟨u4, rfl, h⟩ := hp
  have h := h hs_S3
  refine W.eq (g2 := F0 m 5 ls [.long u4, .ref (ad k0)]) rfl ?_
  have hsh := hs_S3.tr hsh
  have hk5 := hs_S3.lt hk1
  have hq6 := hs_S3.kd hq2
  refine r_put (ci := 7) (C := RX7) (T := TX7) (N := 3) hx hb hts hin7 tyX7 tyX7_ok nmX7 hown hK hG hk5 (cell_7 hq6) rfl 0 (by decide) lk_22 (fun _ h9 => h9) rfl rfl rfl (Nat.le_of_ble_eq_true rfl) (S' := sZ S3 k0 0 u4) rfl (pu_7_0 hq6 u4) dX7_endLog_5 (fun H locs hG => ?_)
  obtain ⟨S7, eS_S7⟩ : ∃ z : GS, z = sZ S3 k0 0 u4 := ⟨_, rfl⟩
  have h := h S7 eS_S7
  rw [← eS_S7] at hG
  have hs_S7 : gSh S7 S3 := by rw [eS_S7]; exact gSh.z _ _ _ _
  have hsh := hs_S7.tr hsh
  have hk8 := hs_S7.lt hk5
  have hq9 := hs_S7.kd hq6
  refine lv_aload_n hx hb dX7_endLog_8 rfl (lv_at hl 0 rfl) ?_
  refine lv_iconst (v := (-1)) hx hb dX7_endLog_9 (by decide) ?_
  refine r_put (ci := 7) (C := RX7) (T := TX7) (N := 3) hx hb hts hin7 tyX7 tyX7_ok nmX7 hown hK hG hk8 (cell_7 hq9) rfl 1 (by decide) lk_9 (fun _ h9 => h9) rfl rfl rfl (Nat.le_of_ble_eq_true rfl) (S' := sX S7 k0 1 (-1)) rfl (pu_7_1 hq9 (-1)) dX7_endLog_10 (fun H locs hG => ?_)
  obtain ⟨S10, eS_S10⟩ : ∃ z : GS, z = sX S7 k0 1 (-1) := ⟨_, rfl⟩
  have h := h S10 eS_S10
  rw [← eS_S10] at hG
  have hs_S10 : gSh S10 S7 := by rw [eS_S10]; exact gSh.x _ _ _ _
  have hsh := hs_S10.tr hsh
  have hk11 := hs_S10.lt hk8
  have hq12 := hs_S10.kd hq9
  refine lv_aload_n hx hb dX7_endLog_13 rfl (lv_at hl 0 rfl) ?_
  refine lv_iconst (v := (-1)) hx hb dX7_endLog_14 (by decide) ?_
  refine r_put (ci := 7) (C := RX7) (T := TX7) (N := 3) hx hb hts hin7 tyX7 tyX7_ok nmX7 hown hK hG hk11 (cell_7 hq12) rfl 2 (by decide) lk_15 (fun _ h9 => h9) rfl rfl rfl (Nat.le_of_ble_eq_true rfl) (S' := sX S10 k0 2 (-1)) rfl (pu_7_2 hq12 (-1)) dX7_endLog_15 (fun H locs hG => ?_)
  obtain ⟨S13, eS_S13⟩ : ∃ z : GS, z = sX S10 k0 2 (-1) := ⟨_, rfl⟩
  have h := h S13 eS_S13
  rw [← eS_S13] at hG
  have hs_S13 : gSh S13 S10 := by rw [eS_S13]; exact gSh.x _ _ _ _
  have hsh := hs_S13.tr hsh
  have hk14 := hs_S13.lt hk11
  have hq15 := hs_S13.kd hq12
  exact W.vret hx hb hr (fun t ht hW => r_end (r := none) hAe hG hsh ⟨rfl, h⟩ rfl ht) hG.2.2.2.2 dX7_endLog_18
