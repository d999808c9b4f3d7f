def wX9_isPause_20 (Q : Int32 → GS → Prop) (k0 : Nat) (t0 : Int32) (S : GS) : Prop :=
  (t0 = 0 ∨ t0 = 1) ∧ Q t0 S
def wX9_isPause (S : GS) (k0 : Nat) (x1 : Int32) (Q : Int32 → GS → Prop) : Prop :=
  k0 < gN S ∧ gK S k0 = 9 ∧ ∃ q4 : Nat, gR S k0 22 = some q4 ∧ q4 < gN S ∧ gK S q4 = 11 ∧ vp_in x1 (gL S q4) ∧ ∃ q9 : Nat, gR S k0 12 = some q9 ∧ q9 < gN S ∧ gK S q9 = 11 ∧ vp_in (gX S q4 (Int32.toNatClampNeg x1)) (gL S q9) ∧ (¬ (gX S q9 (Int32.toNatClampNeg (gX S q4 (Int32.toNatClampNeg x1)))) = 1 → wX9_isPause_20 Q k0 0 S) ∧ ((gX S q9 (Int32.toNatClampNeg (gX S q4 (Int32.toNatClampNeg x1)))) = 1 → wX9_isPause_20 Q k0 1 S)
set_option maxHeartbeats 4000000 in
set_option maxRecDepth 100000 in
theorem tX9_isPause (l : Launch) (S : GS) (k0 : Nat) (x1 : Int32) (Q : Int32 → GS → Prop) (h : wX9_isPause S k0 x1 Q) : CS l yX9_isPause wsX9_isPause 0 S [vR (some k0), vI x1] (fun r S9 => ∃ x, r = some (vI x) ∧ Q x S9) := by
  refine CS.ofW (cc := cX9_isPause) (maxL := 2) (ret := (some .boolean)) RX9 (by decide) rfl rfl (fun _ _ => Nat.le_of_ble_eq_true rfl) ?_
  intro p e s m args below meth c D Y za ad A ls hAe hx hb hr hml hts hown hlocks hK hA hG hl
  obtain ⟨S0, hS0⟩ : ∃ z : GS, z = S := ⟨_, rfl⟩
  rw [← hS0] at hAe
  rw [← hS0]
  have hin9 : ∀ w ∈ wsX90, w ∈ wsX9_isPause := by decide +kernel
  have lk_35 := hts (.fieldLink RX9 35 "PauseLogModel" "shape" "[I") (by decide +kernel)
  have lk_59 := hts (.fieldLink RX9 59 "PauseLogModel" "endLine" "[I") (by decide +kernel)
  have b_20 : ∀  (t0 : Int32) (S : GS) (H : Heap) (locs : List Loc) (ls : Array Slot), wX9_isPause_20 Q k0 t0 S → gSh S S0 → gS D Y ad A s.heap S H locs → lv_has ls 2 [] → W p l e (rmD 0) s m args below meth c H locs 0 0 (MQ below (gE D Y za ad S0 s.heap.size (fun r S9 => ∃ x, r = some (vI x) ∧ Q x S9)) args s 0 0 A) (F0 m 20 ls [.int t0]) := by
    intro  t0 S H locs ls h hsh hG hl
    unfold wX9_isPause_20 at h
    obtain ⟨hz1, h⟩ := h
    exact W.zret (v := t0) hx hb hr (nar01 hz1) (fun t ht hW => r_end (r := some (vI t0)) hAe hG hsh ⟨_, rfl, h⟩ rfl ht) hG.2.2.2.2 dX9_isPause_20
  have hl : lv_has ls 2 [(0, .ref (ad k0)), (1, .int x1)] := hl
  have hsh : gSh S S0 := by rw [hS0]; exact gSh.rf S
  obtain ⟨H, eH⟩ : ∃ z : Heap, z = s.heap := ⟨_, rfl⟩
  obtain ⟨locs, eL⟩ : ∃ z : List Loc, z = [] := ⟨_, rfl⟩
  have hG : gS D Y ad A s.heap S H locs := by rw [eH, eL]; exact hG
  suffices hgoal : W p l e (rmD 0) s m args below meth c H locs 0 0 (MQ below (gE D Y za ad S0 s.heap.size (fun r S9 => ∃ x, r = some (vI x) ∧ Q x S9)) args s 0 0 A) (F0 m 0 ls []) by rw [eH, eL] at hgoal; exact hgoal
  unfold wX9_isPause at h
  refine lv_aload_n hx hb dX9_isPause_0 rfl (lv_at hl 0 rfl) ?_
  obtain ⟨hk2, hq3, h⟩ := h
  refine g_get (ci := 9) (C := RX9) (T := TX9) (N := 36) hx hb hts hin9 hown hK hG hk2 (cell_9 hq3) rfl 12 (by decide) lk_35 (fun _ h9 => h9) (v := rv ad (gR S k0 12)) rfl dX9_isPause_1 ?_
  refine lv_aload_n hx hb dX9_isPause_4 rfl (lv_at hl 0 rfl) ?_
  refine g_get (ci := 9) (C := RX9) (T := TX9) (N := 36) hx hb hts hin9 hown hK hG hk2 (cell_9 hq3) rfl 22 (by decide) lk_59 (fun _ h9 => h9) (v := rv ad (gR S k0 22)) rfl dX9_isPause_5 ?_
  refine lv_iload_n hx hb dX9_isPause_8 rfl (lv_at hl 1 rfl) ?_
  obtain ⟨q4, e5, h⟩ := h
  refine W.eq (g2 := F0 m 9 ls [.int x1, .ref (ad q4), rv ad (gR S k0 12)]) (by rw [e5]; rfl) ?_
  obtain ⟨hk6, hq7, h⟩ := h
  obtain ⟨hi8, h⟩ := h
  refine r_iald hx hb hK hG hk6 hq7 hi8 dX9_isPause_9 ?_
  obtain ⟨q9, e10, h⟩ := h
  refine W.eq (g2 := F0 m 10 ls [.int (gX S q4 (Int32.toNatClampNeg x1)), .ref (ad q9)]) (by rw [e10]; rfl) ?_
  obtain ⟨hk11, hq12, h⟩ := h
  obtain ⟨hi13, h⟩ := h
  refine r_iald hx hb hK hG hk11 hq12 hi13 dX9_isPause_10 ?_
  refine lv_iconst (v := 1) hx hb dX9_isPause_11 (by decide) ?_
  refine lv_icmp_ne (tgt := 19) hx hb dX9_isPause_12 (by decide) (fun c_12 => ?_) (fun c_12 => ?_)
  · have h := h.1 c_12
    refine lv_iconst (v := 0) hx hb dX9_isPause_19 (by decide) ?_
    exact b_20 0 S H locs ls h hsh hG (lv_sub hl [] rfl)
  · have h := h.2 c_12
    refine lv_iconst (v := 1) hx hb dX9_isPause_15 (by decide) ?_
    refine lv_goto (tgt := 20) hx hb dX9_isPause_16 (by decide) ?_
    exact b_20 1 S H locs ls h hsh hG (lv_sub hl [] rfl)
def wX9_eventKind_42 (Q : Int32 → GS → Prop) (k0 : Nat) (t0 : Int32) (S : GS) : Prop :=
  Q t0 S
def wX9_eventKind (S : GS) (k0 : Nat) (x1 : Int32) (Q : Int32 → GS → Prop) : Prop :=
  k0 < gN S ∧ gK S k0 = 9 ∧ wX9_isPause S k0 x1 (fun u4 S3 => gSh S3 S → (u4 = 0 → ∃ q7 : Nat, gR S3 k0 22 = some q7 ∧ q7 < gN S3 ∧ gK S3 q7 = 11 ∧ vp_in x1 (gL S3 q7) ∧ ∃ q12 : Nat, gR S3 k0 12 = some q12 ∧ q12 < gN S3 ∧ gK S3 q12 = 11 ∧ vp_in (gX S3 q7 (Int32.toNatClampNeg x1)) (gL S3 q12) ∧ (¬ (gX S3 q12 (Int32.toNatClampNeg (gX S3 q7 (Int32.toNatClampNeg x1)))) = 5 → wX9_eventKind_42 Q k0 4 S3) ∧ ((gX S3 q12 (Int32.toNatClampNeg (gX S3 q7 (Int32.toNatClampNeg x1)))) = 5 → wX9_eventKind_42 Q k0 3 S3)) ∧ (¬ u4 = 0 → ∃ q17 : Nat, gR S3 k0 21 = some q17 ∧ q17 < gN S3 ∧ gK S3 q17 = 11 ∧ vp_in x1 (gL S3 q17) ∧ ∃ q22 : Nat, gR S3 k0 13 = some q22 ∧ q22 < gN S3 ∧ gK S3 q22 = 11 ∧ vp_in (gX S3 q17 (Int32.toNatClampNeg x1)) (gL S3 q22) ∧ wX9_eventKind_42 Q k0 (gX S3 q22 (Int32.toNatClampNeg (gX S3 q17 (Int32.toNatClampNeg x1)))) S3))
set_option maxHeartbeats 4000000 in
set_option maxRecDepth 100000 in
theorem tX9_eventKind (l : Launch) (S : GS) (k0 : Nat) (x1 : Int32) (Q : Int32 → GS → Prop) (h : wX9_eventKind S k0 x1 Q) : CS l yX9_eventKind wsX9_eventKind 1 S [vR (some k0), vI x1] (fun r S9 => ∃ x, r = some (vI x) ∧ Q x S9) := by
  refine CS.ofW (cc := cX9_eventKind) (maxL := 2) (ret := (some .int)) RX9 (by decide) rfl rfl (fun _ _ => Nat.le_of_ble_eq_true rfl) ?_
  intro p e s m args below meth c D Y za ad A ls hAe hx hb hr hml hts hown hlocks hK hA hG hl
  obtain ⟨S0, hS0⟩ : ∃ z : GS, z = S := ⟨_, rfl⟩
  rw [← hS0] at hAe
  rw [← hS0]
  have hin9 : ∀ w ∈ wsX90, w ∈ wsX9_eventKind := by decide +kernel
  have lk_38 := hts (.fieldLink RX9 38 "PauseLogModel" "kind" "[I") (by decide +kernel)
  have lk_56 := hts (.fieldLink RX9 56 "PauseLogModel" "beginLine" "[I") (by decide +kernel)
  have lk_35 := hts (.fieldLink RX9 35 "PauseLogModel" "shape" "[I") (by decide +kernel)
  have lk_59 := hts (.fieldLink RX9 59 "PauseLogModel" "endLine" "[I") (by decide +kernel)
  have b_42 : ∀  (t0 : Int32) (S : GS) (H : Heap) (locs : List Loc) (ls : Array Slot), wX9_eventKind_42 Q k0 t0 S → gSh S S0 → gS D Y ad A s.heap S H locs → lv_has ls 2 [] → W p l e (rmD 1) s m args below meth c H locs 0 0 (MQ below (gE D Y za ad S0 s.heap.size (fun r S9 => ∃ x, r = some (vI x) ∧ Q x S9)) args s 0 0 A) (F0 m 42 ls [.int t0]) := by
    intro  t0 S H locs ls h hsh hG hl
    unfold wX9_eventKind_42 at h
    exact W.iret (v := t0) hx hb hr (fun t ht hW => r_end (r := some (vI t0)) hAe hG hsh ⟨_, rfl, h⟩ rfl ht) hG.2.2.2.2 dX9_eventKind_42
  have hl : lv_has ls 2 [(0, .ref (ad k0)), (1, .int x1)] := hl
  have hsh : gSh S S0 := by rw [hS0]; exact gSh.rf S
  obtain ⟨H, eH⟩ : ∃ z : Heap, z = s.heap := ⟨_, rfl⟩
  obtain ⟨locs, eL⟩ : ∃ z : List Loc, z = [] := ⟨_, rfl⟩
  have hG : gS D Y ad A s.heap S H locs := by rw [eH, eL]; exact hG
  suffices hgoal : W p l e (rmD 1) s m args below meth c H locs 0 0 (MQ below (gE D Y za ad S0 s.heap.size (fun r S9 => ∃ x, r = some (vI x) ∧ Q x S9)) args s 0 0 A) (F0 m 0 ls []) by rw [eH, eL] at hgoal; exact hgoal
  unfold wX9_eventKind at h
  refine lv_aload_n hx hb dX9_eventKind_0 rfl (lv_at hl 0 rfl) ?_
  refine lv_iload_n hx hb dX9_eventKind_1 rfl (lv_at hl 1 rfl) ?_
  obtain ⟨hk1, hq2, h⟩ := h
  refine r_callV (za := za) (k := k0) (ci := 9) (C := RX9) (T := TX9) (N := 36) (As := [vI x1]) (rest := []) (tX9_isPause l S k0 x1 _ h) ⟨hx, hb, hml, hown, hts⟩ (cwV 1 hts gX9_eventKind_X9_isPause rfl rfl rfl (by decide +kernel) ⟨by decide, by decide⟩) hK hG hA hk1 (cell_9 hq2) rfl rfl hl.1 rfl (Nat.le_of_ble_eq_true rfl) ⟨Nat.le_refl _, Nat.le_refl _⟩ dX9_eventKind_2 (fun r_9 S3 H locs hp hs_S3 hG => ?_)
  obtain ⟨u4, rfl, h⟩ := hp
  have h := h hs_S3
  refine W.eq (g2 := F0 m 5 ls [.int u4]) rfl ?_
  have hsh := hs_S3.tr hsh
  have hk5 := hs_S3.lt hk1
  have hq6 := hs_S3.kd hq2
  refine lv_if_eq (tgt := 22) hx hb dX9_eventKind_5 (by decide) (fun c_5 => ?_) (fun c_5 => ?_)
  · have h := h.1 c_5
    refine lv_aload_n hx hb dX9_eventKind_22 rfl (lv_at hl 0 rfl) ?_
    refine g_get (ci := 9) (C := RX9) (T := TX9) (N := 36) hx hb hts hin9 hown hK hG hk5 (cell_9 hq6) rfl 12 (by decide) lk_35 (fun _ h9 => h9) (v := rv ad (gR S3 k0 12)) rfl dX9_eventKind_23 ?_
    refine lv_aload_n hx hb dX9_eventKind_26 rfl (lv_at hl 0 rfl) ?_
    refine g_get (ci := 9) (C := RX9) (T := TX9) (N := 36) hx hb hts hin9 hown hK hG hk5 (cell_9 hq6) rfl 22 (by decide) lk_59 (fun _ h9 => h9) (v := rv ad (gR S3 k0 22)) rfl dX9_eventKind_27 ?_
    refine lv_iload_n hx hb dX9_eventKind_30 rfl (lv_at hl 1 rfl) ?_
    obtain ⟨q7, e8, h⟩ := h
    refine W.eq (g2 := F0 m 31 ls [.int x1, .ref (ad q7), rv ad (gR S3 k0 12)]) (by rw [e8]; rfl) ?_
    obtain ⟨hk9, hq10, h⟩ := h
    obtain ⟨hi11, h⟩ := h
    refine r_iald hx hb hK hG hk9 hq10 hi11 dX9_eventKind_31 ?_
    obtain ⟨q12, e13, h⟩ := h
    refine W.eq (g2 := F0 m 32 ls [.int (gX S3 q7 (Int32.toNatClampNeg x1)), .ref (ad q12)]) (by rw [e13]; rfl) ?_
    obtain ⟨hk14, hq15, h⟩ := h
    obtain ⟨hi16, h⟩ := h
    refine r_iald hx hb hK hG hk14 hq15 hi16 dX9_eventKind_32 ?_
    refine lv_iconst (v := 5) hx hb dX9_eventKind_33 (by decide) ?_
    refine lv_icmp_ne (tgt := 41) hx hb dX9_eventKind_34 (by decide) (fun c_34 => ?_) (fun c_34 => ?_)
    · have h := h.1 c_34
      refine lv_iconst (v := 4) hx hb dX9_eventKind_41 (by decide) ?_
      exact b_42 4 S3 H locs ls h hsh hG (lv_sub hl [] rfl)
    · have h := h.2 c_34
      refine lv_iconst (v := 3) hx hb dX9_eventKind_37 (by decide) ?_
      refine lv_goto (tgt := 42) hx hb dX9_eventKind_38 (by decide) ?_
      exact b_42 3 S3 H locs ls h hsh hG (lv_sub hl [] rfl)
  · have h := h.2 c_5
    refine lv_aload_n hx hb dX9_eventKind_8 rfl (lv_at hl 0 rfl) ?_
    refine g_get (ci := 9) (C := RX9) (T := TX9) (N := 36) hx hb hts hin9 hown hK hG hk5 (cell_9 hq6) rfl 13 (by decide) lk_38 (fun _ h9 => h9) (v := rv ad (gR S3 k0 13)) rfl dX9_eventKind_9 ?_
    refine lv_aload_n hx hb dX9_eventKind_12 rfl (lv_at hl 0 rfl) ?_
    refine g_get (ci := 9) (C := RX9) (T := TX9) (N := 36) hx hb hts hin9 hown hK hG hk5 (cell_9 hq6) rfl 21 (by decide) lk_56 (fun _ h9 => h9) (v := rv ad (gR S3 k0 21)) rfl dX9_eventKind_13 ?_
    refine lv_iload_n hx hb dX9_eventKind_16 rfl (lv_at hl 1 rfl) ?_
    obtain ⟨q17, e18, h⟩ := h
    refine W.eq (g2 := F0 m 17 ls [.int x1, .ref (ad q17), rv ad (gR S3 k0 13)]) (by rw [e18]; rfl) ?_
    obtain ⟨hk19, hq20, h⟩ := h
    obtain ⟨hi21, h⟩ := h
    refine r_iald hx hb hK hG hk19 hq20 hi21 dX9_eventKind_17 ?_
    obtain ⟨q22, e23, h⟩ := h
    refine W.eq (g2 := F0 m 18 ls [.int (gX S3 q17 (Int32.toNatClampNeg x1)), .ref (ad q22)]) (by rw [e23]; rfl) ?_
    obtain ⟨hk24, hq25, h⟩ := h
    obtain ⟨hi26, h⟩ := h
    refine r_iald hx hb hK hG hk24 hq25 hi26 dX9_eventKind_18 ?_
    refine lv_goto (tgt := 42) hx hb dX9_eventKind_19 (by decide) ?_
    exact b_42 (gX S3 q22 (Int32.toNatClampNeg (gX S3 q17 (Int32.toNatClampNeg x1)))) S3 H locs ls h hsh hG (lv_sub hl [] rfl)
def wX9_tookOf_65 (Q : Int32 → GS → Prop) (k0 : Nat) (t0 : Int32) (S : GS) : Prop :=
  Q t0 S
def wX9_tookOf (S : GS) (k0 : Nat) (x1 : Int32) (Q : Int32 → GS → Prop) : Prop :=
  k0 < gN S ∧ gK S k0 = 9 ∧ ∃ q3 : Nat, gR S k0 22 = some q3 ∧ q3 < gN S ∧ gK S q3 = 11 ∧ vp_in x1 (gL S q3) ∧ ∃ q8 : Nat, gR S k0 12 = some q8 ∧ q8 < gN S ∧ gK S q8 = 11 ∧ vp_in (gX S q3 (Int32.toNatClampNeg x1)) (gL S q8) ∧ ((gX S q8 (Int32.toNatClampNeg (gX S q3 (Int32.toNatClampNeg x1)))) = 6 → ∃ q13 : Nat, gR S k0 15 = some q13 ∧ q13 < gN S ∧ gK S q13 = 11 ∧ vp_in (gX S q3 (Int32.toNatClampNeg x1)) (gL S q13) ∧ ∃ q18 : Nat, gR S k0 21 = some q18 ∧ q18 < gN S ∧ gK S q18 = 11 ∧ vp_in x1 (gL S q18) ∧ vp_in (gX S q18 (Int32.toNatClampNeg x1)) (gL S q13) ∧ ((lg_cmp (1000 * (Int32.toInt64 ((gX S q13 (Int32.toNatClampNeg (gX S q3 (Int32.toNatClampNeg x1)))) - (gX S q13 (Int32.toNatClampNeg (gX S q18 (Int32.toNatClampNeg x1))))))) 2147483647) ≤ 0 → wX9_tookOf_65 Q k0 (Int64.toInt32 (1000 * (Int32.toInt64 ((gX S q13 (Int32.toNatClampNeg (gX S q3 (Int32.toNatClampNeg x1)))) - (gX S q13 (Int32.toNatClampNeg (gX S q18 (Int32.toNatClampNeg x1)))))))) S) ∧ (¬ (lg_cmp (1000 * (Int32.toInt64 ((gX S q13 (Int32.toNatClampNeg (gX S q3 (Int32.toNatClampNeg x1)))) - (gX S q13 (Int32.toNatClampNeg (gX S q18 (Int32.toNatClampNeg x1))))))) 2147483647) ≤ 0 → wX9_tookOf_65 Q k0 2147483647 S)) ∧ (¬ (gX S q8 (Int32.toNatClampNeg (gX S q3 (Int32.toNatClampNeg x1)))) = 6 → ∃ q24 : Nat, gR S k0 18 = some q24 ∧ q24 < gN S ∧ gK S q24 = 11 ∧ vp_in (gX S q3 (Int32.toNatClampNeg x1)) (gL S q24) ∧ Q (gX S q24 (Int32.toNatClampNeg (gX S q3 (Int32.toNatClampNeg x1)))) S)
set_option maxHeartbeats 4000000 in
set_option maxRecDepth 100000 in
theorem tX9_tookOf (l : Launch) (S : GS) (k0 : Nat) (x1 : Int32) (Q : Int32 → GS → Prop) (h : wX9_tookOf S k0 x1 Q) : CS l yX9_tookOf wsX9_tookOf 0 S [vR (some k0), vI x1] (fun r S9 => ∃ x, r = some (vI x) ∧ Q x S9) := by
  refine CS.ofW (cc := cX9_tookOf) (maxL := 5) (ret := (some .int)) RX9 (by decide) rfl rfl (fun _ _ => Nat.le_of_ble_eq_true rfl) ?_
  intro p e s m args below meth c D Y za ad A ls hAe hx hb hr hml hts hown hlocks hK hA hG hl
  obtain ⟨S0, hS0⟩ : ∃ z : GS, z = S := ⟨_, rfl⟩
  rw [← hS0] at hAe
  rw [← hS0]
  have hin9 : ∀ w ∈ wsX90, w ∈ wsX9_tookOf := by decide +kernel
  have lk_59 := hts (.fieldLink RX9 59 "PauseLogModel" "endLine" "[I") (by decide +kernel)
  have lk_35 := hts (.fieldLink RX9 35 "PauseLogModel" "shape" "[I") (by decide +kernel)
  have lk_53 := hts (.fieldLink RX9 53 "PauseLogModel" "took" "[I") (by decide +kernel)
  have lk_185 := hts (.constantLong RX9 185 (1000)) (by decide +kernel)
  have lk_44 := hts (.fieldLink RX9 44 "PauseLogModel" "time" "[I") (by decide +kernel)
  have lk_56 := hts (.fieldLink RX9 56 "PauseLogModel" "beginLine" "[I") (by decide +kernel)
  have lk_262 := hts (.constantLong RX9 262 (2147483647)) (by decide +kernel)
  have lk_264 := hts (.constant RX9 264 (2147483647)) (by decide +kernel)
  have b_65 : ∀  (t0 : Int32) (S : GS) (H : Heap) (locs : List Loc) (ls : Array Slot), wX9_tookOf_65 Q k0 t0 S → gSh S S0 → gS D Y ad A s.heap S H locs → lv_has ls 5 [] → W p l e (rmD 0) s m args below meth c H locs 0 0 (MQ below (gE D Y za ad S0 s.heap.size (fun r S9 => ∃ x, r = some (vI x) ∧ Q x S9)) args s 0 0 A) (F0 m 65 ls [.int t0]) := by
    intro  t0 S H locs ls h hsh hG hl
    unfold wX9_tookOf_65 at h
    exact W.iret (v := t0) hx hb hr (fun t ht hW => r_end (r := some (vI t0)) hAe hG hsh ⟨_, rfl, h⟩ rfl ht) hG.2.2.2.2 dX9_tookOf_65
  have hl : lv_has ls 5 [(0, .ref (ad k0)), (1, .int x1)] := hl
  have hsh : gSh S S0 := by rw [hS0]; exact gSh.rf S
  obtain ⟨H, eH⟩ : ∃ z : Heap, z = s.heap := ⟨_, rfl⟩
  obtain ⟨locs, eL⟩ : ∃ z : List Loc, z = [] := ⟨_, rfl⟩
  have hG : gS D Y ad A s.heap S H locs := by rw [eH, eL]; exact hG
  suffices hgoal : W p l e (rmD 0) s m args below meth c H locs 0 0 (MQ below (gE D Y za ad S0 s.heap.size (fun r S9 => ∃ x, r = some (vI x) ∧ Q x S9)) args s 0 0 A) (F0 m 0 ls []) by rw [eH, eL] at hgoal; exact hgoal
  unfold wX9_tookOf at h
  refine lv_aload_n hx hb dX9_tookOf_0 rfl (lv_at hl 0 rfl) ?_
  obtain ⟨hk1, hq2, h⟩ := h
  refine g_get (ci := 9) (C := RX9) (T := TX9) (N := 36) hx hb hts hin9 hown hK hG hk1 (cell_9 hq2) rfl 22 (by decide) lk_59 (fun _ h9 => h9) (v := rv ad (gR S k0 22)) rfl dX9_tookOf_1 ?_
  refine lv_iload_n hx hb dX9_tookOf_4 rfl (lv_at hl 1 rfl) ?_
  obtain ⟨q3, e4, h⟩ := h
  refine W.eq (g2 := F0 m 5 ls [.int x1, .ref (ad q3)]) (by rw [e4]; rfl) ?_
  obtain ⟨hk5, hq6, h⟩ := h
  obtain ⟨hi7, h⟩ := h
  refine r_iald hx hb hK hG hk5 hq6 hi7 dX9_tookOf_5 ?_
  refine lv_istore_n (lv' := [(2, .int (gX S q3 (Int32.toNatClampNeg x1))), (0, .ref (ad k0)), (1, .int x1)]) hx hb dX9_tookOf_6 rfl hl (by decide) rfl (fun ls hl => ?_)
  refine lv_aload_n hx hb dX9_tookOf_7 rfl (lv_at hl 1 rfl) ?_
  refine g_get (ci := 9) (C := RX9) (T := TX9) (N := 36) hx hb hts hin9 hown hK hG hk1 (cell_9 hq2) rfl 12 (by decide) lk_35 (fun _ h9 => h9) (v := rv ad (gR S k0 12)) rfl dX9_tookOf_8 ?_
  refine lv_iload_n hx hb dX9_tookOf_11 rfl (lv_at hl 0 rfl) ?_
  obtain ⟨q8, e9, h⟩ := h
  refine W.eq (g2 := F0 m 12 ls [.int (gX S q3 (Int32.toNatClampNeg x1)), .ref (ad q8)]) (by rw [e9]; rfl) ?_
  obtain ⟨hk10, hq11, h⟩ := h
  obtain ⟨hi12, h⟩ := h
  refine r_iald hx hb hK hG hk10 hq11 hi12 dX9_tookOf_12 ?_
  refine lv_bipush (v := 6) hx hb dX9_tookOf_13 (by decide) ?_
  refine lv_icmp_eq (tgt := 25) hx hb dX9_tookOf_15 (by decide) (fun c_15 => ?_) (fun c_15 => ?_)
  · have h := h.1 c_15
    refine lv_ldc2 hx hb hown lk_185 dX9_tookOf_25 ?_
    refine lv_aload_n hx hb dX9_tookOf_28 rfl (lv_at hl 1 rfl) ?_
    refine g_get (ci := 9) (C := RX9) (T := TX9) (N := 36) hx hb hts hin9 hown hK hG hk1 (cell_9 hq2) rfl 15 (by decide) lk_44 (fun _ h9 => h9) (v := rv ad (gR S k0 15)) rfl dX9_tookOf_29 ?_
    refine lv_iload_n hx hb dX9_tookOf_32 rfl (lv_at hl 0 rfl) ?_
    obtain ⟨q13, e14, h⟩ := h
    refine W.eq (g2 := F0 m 33 ls [.int (gX S q3 (Int32.toNatClampNeg x1)), .ref (ad q13), .long 1000]) (by rw [e14]; rfl) ?_
    obtain ⟨hk15, hq16, h⟩ := h
    obtain ⟨hi17, h⟩ := h
    refine r_iald hx hb hK hG hk15 hq16 hi17 dX9_tookOf_33 ?_
    refine lv_aload_n hx hb dX9_tookOf_34 rfl (lv_at hl 1 rfl) ?_
    refine g_get (ci := 9) (C := RX9) (T := TX9) (N := 36) hx hb hts hin9 hown hK hG hk1 (cell_9 hq2) rfl 15 (by decide) lk_44 (fun _ h9 => h9) (v := rv ad (gR S k0 15)) rfl dX9_tookOf_35 ?_
    refine lv_aload_n hx hb dX9_tookOf_38 rfl (lv_at hl 1 rfl) ?_
    refine g_get (ci := 9) (C := RX9) (T := TX9) (N := 36) hx hb hts hin9 hown hK hG hk1 (cell_9 hq2) rfl 21 (by decide) lk_56 (fun _ h9 => h9) (v := rv ad (gR S k0 21)) rfl dX9_tookOf_39 ?_
    refine lv_iload_n hx hb dX9_tookOf_42 rfl (lv_at hl 2 rfl) ?_
    obtain ⟨q18, e19, h⟩ := h
    refine W.eq (g2 := F0 m 43 ls [.int x1, .ref (ad q18), rv ad (gR S k0 15), .int (gX S q13 (Int32.toNatClampNeg (gX S q3 (Int32.toNatClampNeg x1)))), .long 1000]) (by rw [e19]; rfl) ?_
    obtain ⟨hk20, hq21, h⟩ := h
    obtain ⟨hi22, h⟩ := h
    refine r_iald hx hb hK hG hk20 hq21 hi22 dX9_tookOf_43 ?_
    refine W.eq (g2 := F0 m 44 ls [.int (gX S q18 (Int32.toNatClampNeg x1)), .ref (ad q13), .int (gX S q13 (Int32.toNatClampNeg (gX S q3 (Int32.toNatClampNeg x1)))), .long 1000]) (by rw [e14]; rfl) ?_
    obtain ⟨hi23, h⟩ := h
    refine r_iald hx hb hK hG hk15 hq16 hi23 dX9_tookOf_44 ?_
    refine lv_isub hx hb dX9_tookOf_45 ?_
    refine lv_i2l hx hb dX9_tookOf_46 rfl ?_
    refine lv_lmul hx hb dX9_tookOf_47 ?_
    refine lv_lstore_n (lv' := [(3, .long (1000 * (Int32.toInt64 ((gX S q13 (Int32.toNatClampNeg (gX S q3 (Int32.toNatClampNeg x1)))) - (gX S q13 (Int32.toNatClampNeg (gX S q18 (Int32.toNatClampNeg x1)))))))), (2, .int (gX S q3 (Int32.toNatClampNeg x1))), (0, .ref (ad k0)), (1, .int x1)]) hx hb dX9_tookOf_48 rfl hl (by decide) rfl (fun ls hl => ?_)
    refine lv_lload_n hx hb dX9_tookOf_49 rfl (lv_at hl 0 rfl) ?_
    refine lv_ldc2 hx hb hown lk_262 dX9_tookOf_50 ?_
    refine W.lcmp hx hb dX9_tookOf_53 ?_
    refine lv_if_le (tgt := 63) hx hb dX9_tookOf_54 (by decide) (fun c_54 => ?_) (fun c_54 => ?_)
    · have h := h.1 c_54
      refine lv_lload_n hx hb dX9_tookOf_63 rfl (lv_at hl 0 rfl) ?_
      refine lv_l2i hx hb dX9_tookOf_64 rfl ?_
      exact b_65 (Int64.toInt32 (1000 * (Int32.toInt64 ((gX S q13 (Int32.toNatClampNeg (gX S q3 (Int32.toNatClampNeg x1)))) - (gX S q13 (Int32.toNatClampNeg (gX S q18 (Int32.toNatClampNeg x1)))))))) S H locs ls h hsh hG (lv_sub hl [] rfl)
    · have h := h.2 c_54
      refine lv_ldcw hx hb hown lk_264 dX9_tookOf_57 ?_
      refine lv_goto (tgt := 65) hx hb dX9_tookOf_60 (by decide) ?_
      exact b_65 2147483647 S H locs ls h hsh hG (lv_sub hl [] rfl)
  · have h := h.2 c_15
    refine lv_aload_n hx hb dX9_tookOf_18 rfl (lv_at hl 1 rfl) ?_
    refine g_get (ci := 9) (C := RX9) (T := TX9) (N := 36) hx hb hts hin9 hown hK hG hk1 (cell_9 hq2) rfl 18 (by decide) lk_53 (fun _ h9 => h9) (v := rv ad (gR S k0 18)) rfl dX9_tookOf_19 ?_
    refine lv_iload_n hx hb dX9_tookOf_22 rfl (lv_at hl 0 rfl) ?_
    obtain ⟨q24, e25, h⟩ := h
    refine W.eq (g2 := F0 m 23 ls [.int (gX S q3 (Int32.toNatClampNeg x1)), .ref (ad q24)]) (by rw [e25]; rfl) ?_
    obtain ⟨hk26, hq27, h⟩ := h
    obtain ⟨hi28, h⟩ := h
    refine r_iald hx hb hK hG hk26 hq27 hi28 dX9_tookOf_23 ?_
    exact W.iret (v := gX S q24 (Int32.toNatClampNeg (gX S q3 (Int32.toNatClampNeg x1)))) hx hb hr (fun t ht hW => r_end (r := some (vI (gX S q24 (Int32.toNatClampNeg (gX S q3 (Int32.toNatClampNeg x1)))))) hAe hG hsh ⟨_, rfl, h⟩ rfl ht) hG.2.2.2.2 dX9_tookOf_24
def wX9_sizeOf_19 (Q : Int32 → GS → Prop) (k0 : Nat) (t0 : Int32) (S : GS) : Prop :=
  Q t0 S
def wX9_sizeOf (S : GS) (k0 : Nat) (x1 : Int32) (x2 : Int32) (Q : Int32 → GS → Prop) : Prop :=
  (¬ x1 = (-1) → k0 < gN S ∧ gK S k0 = 9 ∧ ∃ q3 : Nat, gR S k0 17 = some q3 ∧ q3 < gN S ∧ gK S q3 = 11 ∧ vp_in ((3 * x1) + x2) (gL S q3) ∧ wX9_sizeOf_19 Q k0 (gX S q3 (Int32.toNatClampNeg ((3 * x1) + x2))) S) ∧ (x1 = (-1) → wX9_sizeOf_19 Q k0 (-1) S)
set_option maxHeartbeats 4000000 in
set_option maxRecDepth 100000 in
theorem tX9_sizeOf (l : Launch) (S : GS) (k0 : Nat) (x1 : Int32) (x2 : Int32) (Q : Int32 → GS → Prop) (h : wX9_sizeOf S k0 x1 x2 Q) : CS l yX9_sizeOf wsX9_sizeOf 0 S [vR (some k0), vI x1, vI x2] (fun r S9 => ∃ x, r = some (vI x) ∧ Q x S9) := by
  refine CS.ofW (cc := cX9_sizeOf) (maxL := 3) (ret := (some .int)) RX9 (by decide) rfl rfl (fun _ _ => Nat.le_of_ble_eq_true rfl) ?_
  intro p e s m args below meth c D Y za ad A ls hAe hx hb hr hml hts hown hlocks hK hA hG hl
  obtain ⟨S0, hS0⟩ : ∃ z : GS, z = S := ⟨_, rfl⟩
  rw [← hS0] at hAe
  rw [← hS0]
  have hin9 : ∀ w ∈ wsX90, w ∈ wsX9_sizeOf := by decide +kernel
  have lk_50 := hts (.fieldLink RX9 50 "PauseLogModel" "sizes" "[I") (by decide +kernel)
  have b_19 : ∀  (t0 : Int32) (S : GS) (H : Heap) (locs : List Loc) (ls : Array Slot), wX9_sizeOf_19 Q k0 t0 S → gSh S S0 → gS D Y ad A s.heap S H locs → lv_has ls 3 [] → W p l e (rmD 0) s m args below meth c H locs 0 0 (MQ below (gE D Y za ad S0 s.heap.size (fun r S9 => ∃ x, r = some (vI x) ∧ Q x S9)) args s 0 0 A) (F0 m 19 ls [.int t0]) := by
    intro  t0 S H locs ls h hsh hG hl
    unfold wX9_sizeOf_19 at h
    exact W.iret (v := t0) hx hb hr (fun t ht hW => r_end (r := some (vI t0)) hAe hG hsh ⟨_, rfl, h⟩ rfl ht) hG.2.2.2.2 dX9_sizeOf_19
  have hl : lv_has ls 3 [(0, .ref (ad k0)), (1, .int x1), (2, .int x2)] := hl
  have hsh : gSh S S0 := by rw [hS0]; exact gSh.rf S
  obtain ⟨H, eH⟩ : ∃ z : Heap, z = s.heap := ⟨_, rfl⟩
  obtain ⟨locs, eL⟩ : ∃ z : List Loc, z = [] := ⟨_, rfl⟩
  have hG : gS D Y ad A s.heap S H locs := by rw [eH, eL]; exact hG
  suffices hgoal : W p l e (rmD 0) s m args below meth c H locs 0 0 (MQ below (gE D Y za ad S0 s.heap.size (fun r S9 => ∃ x, r = some (vI x) ∧ Q x S9)) args s 0 0 A) (F0 m 0 ls []) by rw [eH, eL] at hgoal; exact hgoal
  unfold wX9_sizeOf at h
  refine lv_iload_n hx hb dX9_sizeOf_0 rfl (lv_at hl 1 rfl) ?_
  refine lv_iconst (v := (-1)) hx hb dX9_sizeOf_1 (by decide) ?_
  refine lv_icmp_ne (tgt := 9) hx hb dX9_sizeOf_2 (by decide) (fun c_2 => ?_) (fun c_2 => ?_)
  · have h := h.1 c_2
    refine lv_aload_n hx hb dX9_sizeOf_9 rfl (lv_at hl 0 rfl) ?_
    obtain ⟨hk1, hq2, h⟩ := h
    refine g_get (ci := 9) (C := RX9) (T := TX9) (N := 36) hx hb hts hin9 hown hK hG hk1 (cell_9 hq2) rfl 17 (by decide) lk_50 (fun _ h9 => h9) (v := rv ad (gR S k0 17)) rfl dX9_sizeOf_10 ?_
    refine lv_iconst (v := 3) hx hb dX9_sizeOf_13 (by decide) ?_
    refine lv_iload_n hx hb dX9_sizeOf_14 rfl (lv_at hl 1 rfl) ?_
    refine lv_imul hx hb dX9_sizeOf_15 ?_
    refine lv_iload_n hx hb dX9_sizeOf_16 rfl (lv_at hl 2 rfl) ?_
    refine lv_iadd hx hb dX9_sizeOf_17 ?_
    obtain ⟨q3, e4, h⟩ := h
    refine W.eq (g2 := F0 m 18 ls [.int ((3 * x1) + x2), .ref (ad q3)]) (by rw [e4]; rfl) ?_
    obtain ⟨hk5, hq6, h⟩ := h
    obtain ⟨hi7, h⟩ := h
    refine r_iald hx hb hK hG hk5 hq6 hi7 dX9_sizeOf_18 ?_
    exact b_19 (gX S q3 (Int32.toNatClampNeg ((3 * x1) + x2))) S H locs ls h hsh hG (lv_sub hl [] rfl)
  · have h := h.2 c_2
    refine lv_iconst (v := (-1)) hx hb dX9_sizeOf_5 (by decide) ?_
    refine lv_goto (tgt := 19) hx hb dX9_sizeOf_6 (by decide) ?_
    exact b_19 (-1) S H locs ls h hsh hG (lv_sub hl [] rfl)
def wX9_linesOf_32 (Q : Int32 → GS → Prop) (k0 : Nat) (t0 : Int32) (t1 : Int32) (S : GS) : Prop :=
  Q (t0 + t1) S
def wX9_linesOf_16 (Q : Int32 → GS → Prop) (k0 : Nat) (x1 : Int32) (t0 : Int32) (t1 : Int32) (S : GS) : Prop :=
  k0 < gN S ∧ gK S k0 = 9 ∧ ∃ q3 : Nat, gR S k0 24 = some q3 ∧ q3 < gN S ∧ gK S q3 = 11 ∧ vp_in x1 (gL S q3) ∧ (¬ (gX S q3 (Int32.toNatClampNeg x1)) = (-1) → wX9_linesOf_32 Q k0 (t0 + t1) 1 S) ∧ ((gX S q3 (Int32.toNatClampNeg x1)) = (-1) → wX9_linesOf_32 Q k0 (t0 + t1) 0 S)
def wX9_linesOf (S : GS) (k0 : Nat) (x1 : Int32) (Q : Int32 → GS → Prop) : Prop :=
  k0 < gN S ∧ gK S k0 = 9 ∧ ∃ q10 : Nat, gR S k0 23 = some q10 ∧ q10 < gN S ∧ gK S q10 = 11 ∧ vp_in x1 (gL S q10) ∧ (¬ (gX S q10 (Int32.toNatClampNeg x1)) = (-1) → wX9_linesOf_16 Q k0 x1 2 1 S) ∧ ((gX S q10 (Int32.toNatClampNeg x1)) = (-1) → wX9_linesOf_16 Q k0 x1 2 0 S)
set_option maxHeartbeats 4000000 in
set_option maxRecDepth 100000 in
theorem tX9_linesOf (l : Launch) (S : GS) (k0 : Nat) (x1 : Int32) (Q : Int32 → GS → Prop) (h : wX9_linesOf S k0 x1 Q) : CS l yX9_linesOf wsX9_linesOf 0 S [vR (some k0), vI x1] (fun r S9 => ∃ x, r = some (vI x) ∧ Q x S9) := by
  refine CS.ofW (cc := cX9_linesOf) (maxL := 2) (ret := (some .int)) RX9 (by decide) rfl rfl (fun _ _ => Nat.le_of_ble_eq_true rfl) ?_
  intro p e s m args below meth c D Y za ad A ls hAe hx hb hr hml hts hown hlocks hK hA hG hl
  obtain ⟨S0, hS0⟩ : ∃ z : GS, z = S := ⟨_, rfl⟩
  rw [← hS0] at hAe
  rw [← hS0]
  have hin9 : ∀ w ∈ wsX90, w ∈ wsX9_linesOf := by decide +kernel
  have lk_62 := hts (.fieldLink RX9 62 "PauseLogModel" "edenLine" "[I") (by decide +kernel)
  have lk_65 := hts (.fieldLink RX9 65 "PauseLogModel" "oldLine" "[I") (by decide +kernel)
  have b_32 : ∀  (t0 : Int32) (t1 : Int32) (S : GS) (H : Heap) (locs : List Loc) (ls : Array Slot), wX9_linesOf_32 Q k0 t0 t1 S → gSh S S0 → gS D Y ad A s.heap S H locs → lv_has ls 2 [] → W p l e (rmD 0) s m args below meth c H locs 0 0 (MQ below (gE D Y za ad S0 s.heap.size (fun r S9 => ∃ x, r = some (vI x) ∧ Q x S9)) args s 0 0 A) (F0 m 32 ls [.int t1, .int t0]) := by
    intro  t0 t1 S H locs ls h hsh hG hl
    unfold wX9_linesOf_32 at h
    refine lv_iadd hx hb dX9_linesOf_32 ?_
    exact W.iret (v := t0 + t1) hx hb hr (fun t ht hW => r_end (r := some (vI (t0 + t1))) hAe hG hsh ⟨_, rfl, h⟩ rfl ht) hG.2.2.2.2 dX9_linesOf_33
  have b_16 : ∀  (x1 : Int32) (t0 : Int32) (t1 : Int32) (S : GS) (H : Heap) (locs : List Loc) (ls : Array Slot), wX9_linesOf_16 Q k0 x1 t0 t1 S → gSh S S0 → gS D Y ad A s.heap S H locs → lv_has ls 2 [(0, .ref (ad k0)), (1, .int x1)] → W p l e (rmD 0) s m args below meth c H locs 0 0 (MQ below (gE D Y za ad S0 s.heap.size (fun r S9 => ∃ x, r = some (vI x) ∧ Q x S9)) args s 0 0 A) (F0 m 16 ls [.int t1, .int t0]) := by
    intro  x1 t0 t1 S H locs ls h hsh hG hl
    unfold wX9_linesOf_16 at h
    refine lv_iadd hx hb dX9_linesOf_16 ?_
    refine lv_aload_n hx hb dX9_linesOf_17 rfl (lv_at hl 0 rfl) ?_
    obtain ⟨hk1, hq2, h⟩ := h
    refine g_get (ci := 9) (C := RX9) (T := TX9) (N := 36) hx hb hts hin9 hown hK hG hk1 (cell_9 hq2) rfl 24 (by decide) lk_65 (fun _ h9 => h9) (v := rv ad (gR S k0 24)) rfl dX9_linesOf_18 ?_
    refine lv_iload_n hx hb dX9_linesOf_21 rfl (lv_at hl 1 rfl) ?_
    obtain ⟨q3, e4, h⟩ := h
    refine W.eq (g2 := F0 m 22 ls [.int x1, .ref (ad q3), .int (t0 + t1)]) (by rw [e4]; rfl) ?_
    obtain ⟨hk5, hq6, h⟩ := h
    obtain ⟨hi7, h⟩ := h
    refine r_iald hx hb hK hG hk5 hq6 hi7 dX9_linesOf_22 ?_
    refine lv_iconst (v := (-1)) hx hb dX9_linesOf_23 (by decide) ?_
    refine lv_icmp_ne (tgt := 31) hx hb dX9_linesOf_24 (by decide) (fun c_24 => ?_) (fun c_24 => ?_)
    · have h := h.1 c_24
      refine lv_iconst (v := 1) hx hb dX9_linesOf_31 (by decide) ?_
      exact b_32 (t0 + t1) 1 S H locs ls h hsh hG (lv_sub hl [] rfl)
    · have h := h.2 c_24
      refine lv_iconst (v := 0) hx hb dX9_linesOf_27 (by decide) ?_
      refine lv_goto (tgt := 32) hx hb dX9_linesOf_28 (by decide) ?_
      exact b_32 (t0 + t1) 0 S H locs ls h hsh hG (lv_sub hl [] rfl)
  have hl : lv_has ls 2 [(0, .ref (ad k0)), (1, .int x1)] := hl
  have hsh : gSh S S0 := by rw [hS0]; exact gSh.rf S
  obtain ⟨H, eH⟩ : ∃ z : Heap, z = s.heap := ⟨_, rfl⟩
  obtain ⟨locs, eL⟩ : ∃ z : List Loc, z = [] := ⟨_, rfl⟩
  have hG : gS D Y ad A s.heap S H locs := by rw [eH, eL]; exact hG
  suffices hgoal : W p l e (rmD 0) s m args below meth c H locs 0 0 (MQ below (gE D Y za ad S0 s.heap.size (fun r S9 => ∃ x, r = some (vI x) ∧ Q x S9)) args s 0 0 A) (F0 m 0 ls []) by rw [eH, eL] at hgoal; exact hgoal
  unfold wX9_linesOf at h
  refine lv_iconst (v := 2) hx hb dX9_linesOf_0 (by decide) ?_
  refine lv_aload_n hx hb dX9_linesOf_1 rfl (lv_at hl 0 rfl) ?_
  obtain ⟨hk8, hq9, h⟩ := h
  refine g_get (ci := 9) (C := RX9) (T := TX9) (N := 36) hx hb hts hin9 hown hK hG hk8 (cell_9 hq9) rfl 23 (by decide) lk_62 (fun _ h9 => h9) (v := rv ad (gR S k0 23)) rfl dX9_linesOf_2 ?_
  refine lv_iload_n hx hb dX9_linesOf_5 rfl (lv_at hl 1 rfl) ?_
  obtain ⟨q10, e11, h⟩ := h
  refine W.eq (g2 := F0 m 6 ls [.int x1, .ref (ad q10), .int 2]) (by rw [e11]; rfl) ?_
  obtain ⟨hk12, hq13, h⟩ := h
  obtain ⟨hi14, h⟩ := h
  refine r_iald hx hb hK hG hk12 hq13 hi14 dX9_linesOf_6 ?_
  refine lv_iconst (v := (-1)) hx hb dX9_linesOf_7 (by decide) ?_
  refine lv_icmp_ne (tgt := 15) hx hb dX9_linesOf_8 (by decide) (fun c_8 => ?_) (fun c_8 => ?_)
  · have h := h.1 c_8
    refine lv_iconst (v := 1) hx hb dX9_linesOf_15 (by decide) ?_
    exact b_16 x1 2 1 S H locs ls h hsh hG (lv_sub hl [0, 1] rfl)
  · have h := h.2 c_8
    refine lv_iconst (v := 0) hx hb dX9_linesOf_11 (by decide) ?_
    refine lv_goto (tgt := 16) hx hb dX9_linesOf_12 (by decide) ?_
    exact b_16 x1 2 0 S H locs ls h hsh hG (lv_sub hl [0, 1] rfl)
def wX9_isEvent_17 (Q : Int32 → GS → Prop) (k0 : Nat) (t0 : Int32) (S : GS) : Prop :=
  (t0 = 0 ∨ t0 = 1) ∧ Q t0 S
def wX9_isEvent_16 (Q : Int32 → GS → Prop) (k0 : Nat)  (S : GS) : Prop :=
  wX9_isEvent_17 Q k0 0 S
def wX9_isEvent (S : GS) (k0 : Nat) (x1 : Int32) (Q : Int32 → GS → Prop) : Prop :=
  (x1 < 0 → wX9_isEvent_16 Q k0  S) ∧ (¬ x1 < 0 → k0 < gN S ∧ gK S k0 = 9 ∧ ((gX S k0 25) ≤ x1 → wX9_isEvent_16 Q k0  S) ∧ (¬ (gX S k0 25) ≤ x1 → wX9_isEvent_17 Q k0 1 S))
set_option maxHeartbeats 4000000 in
set_option maxRecDepth 100000 in
theorem tX9_isEvent (l : Launch) (S : GS) (k0 : Nat) (x1 : Int32) (Q : Int32 → GS → Prop) (h : wX9_isEvent S k0 x1 Q) : CS l yX9_isEvent wsX9_isEvent 0 S [vR (some k0), vI x1] (fun r S9 => ∃ x, r = some (vI x) ∧ Q x S9) := by
  refine CS.ofW (cc := cX9_isEvent) (maxL := 2) (ret := (some .boolean)) RX9 (by decide) rfl rfl (fun _ _ => Nat.le_of_ble_eq_true rfl) ?_
  intro p e s m args below meth c D Y za ad A ls hAe hx hb hr hml hts hown hlocks hK hA hG hl
  obtain ⟨S0, hS0⟩ : ∃ z : GS, z = S := ⟨_, rfl⟩
  rw [← hS0] at hAe
  rw [← hS0]
  have hin9 : ∀ w ∈ wsX90, w ∈ wsX9_isEvent := by decide +kernel
  have lk_205 := hts (.fieldLink RX9 205 "PauseLogModel" "events" "I") (by decide +kernel)
  have b_17 : ∀  (t0 : Int32) (S : GS) (H : Heap) (locs : List Loc) (ls : Array Slot), wX9_isEvent_17 Q k0 t0 S → gSh S S0 → gS D Y ad A s.heap S H locs → lv_has ls 2 [] → W p l e (rmD 0) s m args below meth c H locs 0 0 (MQ below (gE D Y za ad S0 s.heap.size (fun r S9 => ∃ x, r = some (vI x) ∧ Q x S9)) args s 0 0 A) (F0 m 17 ls [.int t0]) := by
    intro  t0 S H locs ls h hsh hG hl
    unfold wX9_isEvent_17 at h
    obtain ⟨hz1, h⟩ := h
    exact W.zret (v := t0) hx hb hr (nar01 hz1) (fun t ht hW => r_end (r := some (vI t0)) hAe hG hsh ⟨_, rfl, h⟩ rfl ht) hG.2.2.2.2 dX9_isEvent_17
  have b_16 : ∀   (S : GS) (H : Heap) (locs : List Loc) (ls : Array Slot), wX9_isEvent_16 Q k0  S → gSh S S0 → gS D Y ad A s.heap S H locs → lv_has ls 2 [] → W p l e (rmD 0) s m args below meth c H locs 0 0 (MQ below (gE D Y za ad S0 s.heap.size (fun r S9 => ∃ x, r = some (vI x) ∧ Q x S9)) args s 0 0 A) (F0 m 16 ls []) := by
    intro   S H locs ls h hsh hG hl
    unfold wX9_isEvent_16 at h
    refine lv_iconst (v := 0) hx hb dX9_isEvent_16 (by decide) ?_
    exact b_17 0 S H locs ls h hsh hG (lv_sub hl [] rfl)
  have hl : lv_has ls 2 [(0, .ref (ad k0)), (1, .int x1)] := hl
  have hsh : gSh S S0 := by rw [hS0]; exact gSh.rf S
  obtain ⟨H, eH⟩ : ∃ z : Heap, z = s.heap := ⟨_, rfl⟩
  obtain ⟨locs, eL⟩ : ∃ z : List Loc, z = [] := ⟨_, rfl⟩
  have hG : gS D Y ad A s.heap S H locs := by rw [eH, eL]; exact hG
  suffices hgoal : W p l e (rmD 0) s m args below meth c H locs 0 0 (MQ below (gE D Y za ad S0 s.heap.size (fun r S9 => ∃ x, r = some (vI x) ∧ Q x S9)) args s 0 0 A) (F0 m 0 ls []) by rw [eH, eL] at hgoal; exact hgoal
  unfold wX9_isEvent at h
  refine lv_iload_n hx hb dX9_isEvent_0 rfl (lv_at hl 1 rfl) ?_
  refine lv_if_lt (tgt := 16) hx hb dX9_isEvent_1 (by decide) (fun c_1 => ?_) (fun c_1 => ?_)
  · have h := h.1 c_1
    exact b_16  S H locs ls h hsh hG (lv_sub hl [] rfl)
  · have h := h.2 c_1
    refine lv_iload_n hx hb dX9_isEvent_4 rfl (lv_at hl 1 rfl) ?_
    refine lv_aload_n hx hb dX9_isEvent_5 rfl (lv_at hl 0 rfl) ?_
    obtain ⟨hk2, hq3, h⟩ := h
    refine g_get (ci := 9) (C := RX9) (T := TX9) (N := 36) hx hb hts hin9 hown hK hG hk2 (cell_9 hq3) rfl 25 (by decide) lk_205 (fun _ h9 => h9) (v := .int (gX S k0 25)) rfl dX9_isEvent_6 ?_
    refine lv_icmp_ge (tgt := 16) hx hb dX9_isEvent_9 (by decide) (fun c_9 => ?_) (fun c_9 => ?_)
    · have h := h.1 c_9
      exact b_16  S H locs ls h hsh hG (lv_sub hl [] rfl)
    · have h := h.2 c_9
      refine lv_iconst (v := 1) hx hb dX9_isEvent_12 (by decide) ?_
      refine lv_goto (tgt := 17) hx hb dX9_isEvent_13 (by decide) ?_
      exact b_17 1 S H locs ls h hsh hG (lv_sub hl [] rfl)
def wX9_event_185 (Q : Int32 → GS → Prop) (k0 : Nat) (t0 : Int32) (S : GS) : Prop :=
  Q t0 S
def wX9_event_53 (Q : Int32 → GS → Prop) (k0 : Nat) (x1 : Int32) (x2 : Int32) (t0 : Int32) (S : GS) : Prop :=
  (x2 = 0 → k0 < gN S ∧ gK S k0 = 9 ∧ wX9_eventKind S k0 x1 (fun u4 S3 => gSh S3 S → Q u4 S3)) ∧ (x2 = 1 → k0 < gN S ∧ gK S k0 = 9 ∧ ∃ q9 : Nat, gR S k0 21 = some q9 ∧ q9 < gN S ∧ gK S q9 = 11 ∧ vp_in x1 (gL S q9) ∧ ∃ q14 : Nat, gR S k0 16 = some q14 ∧ q14 < gN S ∧ gK S q14 = 11 ∧ vp_in (gX S q9 (Int32.toNatClampNeg x1)) (gL S q14) ∧ Q (gX S q14 (Int32.toNatClampNeg (gX S q9 (Int32.toNatClampNeg x1)))) S) ∧ (x2 = 2 → k0 < gN S ∧ gK S k0 = 9 ∧ ∃ q21 : Nat, gR S k0 21 = some q21 ∧ q21 < gN S ∧ gK S q21 = 11 ∧ vp_in x1 (gL S q21) ∧ ∃ q26 : Nat, gR S k0 15 = some q26 ∧ q26 < gN S ∧ gK S q26 = 11 ∧ vp_in (gX S q21 (Int32.toNatClampNeg x1)) (gL S q26) ∧ Q (gX S q26 (Int32.toNatClampNeg (gX S q21 (Int32.toNatClampNeg x1)))) S) ∧ (x2 = 3 → k0 < gN S ∧ gK S k0 = 9 ∧ ∃ q33 : Nat, gR S k0 22 = some q33 ∧ q33 < gN S ∧ gK S q33 = 11 ∧ vp_in x1 (gL S q33) ∧ ∃ q38 : Nat, gR S k0 15 = some q38 ∧ q38 < gN S ∧ gK S q38 = 11 ∧ vp_in (gX S q33 (Int32.toNatClampNeg x1)) (gL S q38) ∧ Q (gX S q38 (Int32.toNatClampNeg (gX S q33 (Int32.toNatClampNeg x1)))) S) ∧ (x2 = 4 → k0 < gN S ∧ gK S k0 = 9 ∧ wX9_isPause S k0 x1 (fun u46 S45 => gSh S45 S → (u46 = 0 → wX9_event_185 Q k0 (-1) S45) ∧ (¬ u46 = 0 → ∃ q49 : Nat, gR S45 k0 21 = some q49 ∧ q49 < gN S45 ∧ gK S45 q49 = 11 ∧ vp_in x1 (gL S45 q49) ∧ ∃ q54 : Nat, gR S45 k0 14 = some q54 ∧ q54 < gN S45 ∧ gK S45 q54 = 11 ∧ vp_in (gX S45 q49 (Int32.toNatClampNeg x1)) (gL S45 q54) ∧ wX9_event_185 Q k0 (gX S45 q54 (Int32.toNatClampNeg (gX S45 q49 (Int32.toNatClampNeg x1)))) S45))) ∧ (x2 = 5 → k0 < gN S ∧ gK S k0 = 9 ∧ wX9_sizeOf S k0 t0 0 (fun u62 S61 => gSh S61 S → Q u62 S61)) ∧ (x2 = 6 → k0 < gN S ∧ gK S k0 = 9 ∧ wX9_sizeOf S k0 t0 1 (fun u68 S67 => gSh S67 S → Q u68 S67)) ∧ (x2 = 7 → k0 < gN S ∧ gK S k0 = 9 ∧ wX9_sizeOf S k0 t0 2 (fun u74 S73 => gSh S73 S → Q u74 S73)) ∧ (x2 = 8 → k0 < gN S ∧ gK S k0 = 9 ∧ wX9_tookOf S k0 x1 (fun u80 S79 => gSh S79 S → Q u80 S79)) ∧ (x2 = 9 → k0 < gN S ∧ gK S k0 = 9 ∧ ∃ q85 : Nat, gR S k0 23 = some q85 ∧ q85 < gN S ∧ gK S q85 = 11 ∧ vp_in x1 (gL S q85) ∧ wX9_sizeOf S k0 (gX S q85 (Int32.toNatClampNeg x1)) 0 (fun u91 S90 => gSh S90 S → Q u91 S90)) ∧ (x2 = 10 → k0 < gN S ∧ gK S k0 = 9 ∧ ∃ q98 : Nat, gR S k0 23 = some q98 ∧ q98 < gN S ∧ gK S q98 = 11 ∧ vp_in x1 (gL S q98) ∧ wX9_sizeOf S k0 (gX S q98 (Int32.toNatClampNeg x1)) 1 (fun u104 S103 => gSh S103 S → Q u104 S103)) ∧ (x2 = 11 → k0 < gN S ∧ gK S k0 = 9 ∧ ∃ q111 : Nat, gR S k0 24 = some q111 ∧ q111 < gN S ∧ gK S q111 = 11 ∧ vp_in x1 (gL S q111) ∧ wX9_sizeOf S k0 (gX S q111 (Int32.toNatClampNeg x1)) 0 (fun u117 S116 => gSh S116 S → Q u117 S116)) ∧ (x2 = 12 → k0 < gN S ∧ gK S k0 = 9 ∧ ∃ q124 : Nat, gR S k0 24 = some q124 ∧ q124 < gN S ∧ gK S q124 = 11 ∧ vp_in x1 (gL S q124) ∧ wX9_sizeOf S k0 (gX S q124 (Int32.toNatClampNeg x1)) 1 (fun u130 S129 => gSh S129 S → Q u130 S129)) ∧ (¬ x2 = 0 → ¬ x2 = 1 → ¬ x2 = 2 → ¬ x2 = 3 → ¬ x2 = 4 → ¬ x2 = 5 → ¬ x2 = 6 → ¬ x2 = 7 → ¬ x2 = 8 → ¬ x2 = 9 → ¬ x2 = 10 → ¬ x2 = 11 → ¬ x2 = 12 → k0 < gN S ∧ gK S k0 = 9 ∧ wX9_linesOf S k0 x1 (fun u138 S137 => gSh S137 S → Q u138 S137))
def wX9_event_23 (Q : Int32 → GS → Prop) (k0 : Nat) (x1 : Int32) (x2 : Int32) (t0 : Nat) (t1 : Int32) (S : GS) : Prop :=
  t0 < gN S ∧ gK S t0 = 9 ∧ ∀ S143 : GS, S143 = sX S t0 32 t1 → k0 < gN S143 ∧ gK S143 k0 = 9 ∧ ((gX S143 k0 32) = 0 → wX9_isPause S143 k0 x1 (fun u149 S148 => gSh S148 S143 → (u149 = 0 → wX9_event_53 Q k0 x1 x2 (-1) S148) ∧ (¬ u149 = 0 → ∃ q154 : Nat, gR S148 k0 22 = some q154 ∧ q154 < gN S148 ∧ gK S148 q154 = 11 ∧ vp_in x1 (gL S148 q154) ∧ wX9_event_53 Q k0 x1 x2 (gX S148 q154 (Int32.toNatClampNeg x1)) S148))) ∧ (¬ (gX S143 k0 32) = 0 → Q 0 S143)
def wX9_event_22 (Q : Int32 → GS → Prop) (k0 : Nat) (x1 : Int32) (x2 : Int32) (t0 : Nat) (S : GS) : Prop :=
  wX9_event_23 Q k0 x1 x2 t0 1 S
def wX9_event (S : GS) (k0 : Nat) (x1 : Int32) (x2 : Int32) (Q : Int32 → GS → Prop) : Prop :=
  k0 < gN S ∧ gK S k0 = 9 ∧ wX9_isEvent S k0 x1 (fun u162 S161 => gSh S161 S → (u162 = 0 → wX9_event_22 Q k0 x1 x2 k0 S161) ∧ (¬ u162 = 0 → wX9_tells S161 x2 13 (fun u166 S165 => gSh S165 S161 → (u166 = 0 → wX9_event_22 Q k0 x1 x2 k0 S165) ∧ (¬ u166 = 0 → wX9_event_23 Q k0 x1 x2 k0 0 S165))))
set_option maxHeartbeats 4000000 in
set_option maxRecDepth 100000 in
theorem tX9_event (l : Launch) (S : GS) (k0 : Nat) (x1 : Int32) (x2 : Int32) (Q : Int32 → GS → Prop) (h : wX9_event S k0 x1 x2 Q) : CS l yX9_event wsX9_event 2 S [vR (some k0), vI x1, vI x2] (fun r S9 => ∃ x, r = some (vI x) ∧ Q x S9) := by
  refine CS.ofW (cc := cX9_event) (maxL := 4) (ret := (some .int)) RX9 (by decide) rfl rfl (fun _ _ => Nat.le_of_ble_eq_true rfl) ?_
  intro p e s m args below meth c D Y za ad A ls hAe hx hb hr hml hts hown hlocks hK hA hG hl
  obtain ⟨S0, hS0⟩ : ∃ z : GS, z = S := ⟨_, rfl⟩
  rw [← hS0] at hAe
  rw [← hS0]
  have hin9 : ∀ w ∈ wsX90, w ∈ wsX9_event := by decide +kernel
  have lk_84 := hts (.fieldLink RX9 84 "PauseLogModel" "thrown" "I") (by decide +kernel)
  have lk_59 := hts (.fieldLink RX9 59 "PauseLogModel" "endLine" "[I") (by decide +kernel)
  have lk_47 := hts (.fieldLink RX9 47 "PauseLogModel" "id" "[I") (by decide +kernel)
  have lk_56 := hts (.fieldLink RX9 56 "PauseLogModel" "beginLine" "[I") (by decide +kernel)
  have lk_44 := hts (.fieldLink RX9 44 "PauseLogModel" "time" "[I") (by decide +kernel)
  have lk_41 := hts (.fieldLink RX9 41 "PauseLogModel" "cause" "[I") (by decide +kernel)
  have lk_62 := hts (.fieldLink RX9 62 "PauseLogModel" "edenLine" "[I") (by decide +kernel)
  have lk_65 := hts (.fieldLink RX9 65 "PauseLogModel" "oldLine" "[I") (by decide +kernel)
  have b_185 : ∀  (t0 : Int32) (S : GS) (H : Heap) (locs : List Loc) (ls : Array Slot), wX9_event_185 Q k0 t0 S → gSh S S0 → gS D Y ad A s.heap S H locs → lv_has ls 4 [] → W p l e (rmD 2) s m args below meth c H locs 0 0 (MQ below (gE D Y za ad S0 s.heap.size (fun r S9 => ∃ x, r = some (vI x) ∧ Q x S9)) args s 0 0 A) (F0 m 185 ls [.int t0]) := by
    intro  t0 S H locs ls h hsh hG hl
    unfold wX9_event_185 at h
    exact W.iret (v := t0) hx hb hr (fun t ht hW => r_end (r := some (vI t0)) hAe hG hsh ⟨_, rfl, h⟩ rfl ht) hG.2.2.2.2 dX9_event_185
  have b_53 : ∀  (x1 : Int32) (x2 : Int32) (t0 : Int32) (S : GS) (H : Heap) (locs : List Loc) (ls : Array Slot), wX9_event_53 Q k0 x1 x2 t0 S → gSh S S0 → gS D Y ad A s.heap S H locs → lv_has ls 4 [(0, .ref (ad k0)), (1, .int x1), (2, .int x2)] → W p l e (rmD 2) s m args below meth c H locs 0 0 (MQ below (gE D Y za ad S0 s.heap.size (fun r S9 => ∃ x, r = some (vI x) ∧ Q x S9)) args s 0 0 A) (F0 m 53 ls [.int t0]) := by
    intro  x1 x2 t0 S H locs ls h hsh hG hl
    unfold wX9_event_53 at h
    refine lv_istore_n (lv' := [(3, .int t0), (0, .ref (ad k0)), (1, .int x1), (2, .int x2)]) hx hb dX9_event_53 rfl hl (by decide) rfl (fun ls hl => ?_)
    refine lv_iload_n hx hb dX9_event_54 rfl (lv_at hl 3 rfl) ?_
    by_cases q_55_0 : x2 = 0
    · have h := h.1 q_55_0
      refine lv_tableIn (tgt := 120) hx hb dX9_event_55 (by rw [q_55_0]; decide) (by rw [q_55_0]; decide) (by rw [q_55_0]; rfl) (by decide) ?_
      refine lv_aload_n hx hb dX9_event_120 rfl (lv_at hl 1 rfl) ?_
      refine lv_iload_n hx hb dX9_event_121 rfl (lv_at hl 2 rfl) ?_
      obtain ⟨hk1, hq2, h⟩ := h
      refine r_callV (za := za) (k := k0) (ci := 9) (C := RX9) (T := TX9) (N := 36) (As := [vI x1]) (rest := []) (tX9_eventKind l S k0 x1 _ h) ⟨hx, hb, hml, hown, hts⟩ (cwV 1 hts gX9_event_X9_eventKind rfl rfl rfl (by decide +kernel) ⟨by decide, by decide⟩) hK hG hA hk1 (cell_9 hq2) rfl rfl hl.1 rfl (Nat.le_of_ble_eq_true rfl) ⟨Nat.le_refl _, Nat.le_refl _⟩ dX9_event_122 (fun r_9 S3 H locs hp hs_S3 hG => ?_)
      obtain ⟨u4, rfl, h⟩ := hp
      have h := h hs_S3
      refine W.eq (g2 := F0 m 125 ls [.int u4]) rfl ?_
      have hsh := hs_S3.tr hsh
      have hk5 := hs_S3.lt hk1
      have hq6 := hs_S3.kd hq2
      exact W.iret (v := u4) hx hb hr (fun t ht hW => r_end (r := some (vI u4)) hAe hG hsh ⟨_, rfl, h⟩ rfl ht) hG.2.2.2.2 dX9_event_125
    by_cases q_55_1 : x2 = 1
    · have h := h.2.1 q_55_1
      refine lv_tableIn (tgt := 126) hx hb dX9_event_55 (by rw [q_55_1]; decide) (by rw [q_55_1]; decide) (by rw [q_55_1]; rfl) (by decide) ?_
      refine lv_aload_n hx hb dX9_event_126 rfl (lv_at hl 1 rfl) ?_
      obtain ⟨hk7, hq8, h⟩ := h
      refine g_get (ci := 9) (C := RX9) (T := TX9) (N := 36) hx hb hts hin9 hown hK hG hk7 (cell_9 hq8) rfl 16 (by decide) lk_47 (fun _ h9 => h9) (v := rv ad (gR S k0 16)) rfl dX9_event_127 ?_
      refine lv_aload_n hx hb dX9_event_130 rfl (lv_at hl 1 rfl) ?_
      refine g_get (ci := 9) (C := RX9) (T := TX9) (N := 36) hx hb hts hin9 hown hK hG hk7 (cell_9 hq8) rfl 21 (by decide) lk_56 (fun _ h9 => h9) (v := rv ad (gR S k0 21)) rfl dX9_event_131 ?_
      refine lv_iload_n hx hb dX9_event_134 rfl (lv_at hl 2 rfl) ?_
      obtain ⟨q9, e10, h⟩ := h
      refine W.eq (g2 := F0 m 135 ls [.int x1, .ref (ad q9), rv ad (gR S k0 16)]) (by rw [e10]; rfl) ?_
      obtain ⟨hk11, hq12, h⟩ := h
      obtain ⟨hi13, h⟩ := h
      refine r_iald hx hb hK hG hk11 hq12 hi13 dX9_event_135 ?_
      obtain ⟨q14, e15, h⟩ := h
      refine W.eq (g2 := F0 m 136 ls [.int (gX S q9 (Int32.toNatClampNeg x1)), .ref (ad q14)]) (by rw [e15]; rfl) ?_
      obtain ⟨hk16, hq17, h⟩ := h
      obtain ⟨hi18, h⟩ := h
      refine r_iald hx hb hK hG hk16 hq17 hi18 dX9_event_136 ?_
      exact W.iret (v := gX S q14 (Int32.toNatClampNeg (gX S q9 (Int32.toNatClampNeg x1)))) hx hb hr (fun t ht hW => r_end (r := some (vI (gX S q14 (Int32.toNatClampNeg (gX S q9 (Int32.toNatClampNeg x1)))))) hAe hG hsh ⟨_, rfl, h⟩ rfl ht) hG.2.2.2.2 dX9_event_137
    by_cases q_55_2 : x2 = 2
    · have h := h.2.2.1 q_55_2
      refine lv_tableIn (tgt := 138) hx hb dX9_event_55 (by rw [q_55_2]; decide) (by rw [q_55_2]; decide) (by rw [q_55_2]; rfl) (by decide) ?_
      refine lv_aload_n hx hb dX9_event_138 rfl (lv_at hl 1 rfl) ?_
      obtain ⟨hk19, hq20, h⟩ := h
      refine g_get (ci := 9) (C := RX9) (T := TX9) (N := 36) hx hb hts hin9 hown hK hG hk19 (cell_9 hq20) rfl 15 (by decide) lk_44 (fun _ h9 => h9) (v := rv ad (gR S k0 15)) rfl dX9_event_139 ?_
      refine lv_aload_n hx hb dX9_event_142 rfl (lv_at hl 1 rfl) ?_
      refine g_get (ci := 9) (C := RX9) (T := TX9) (N := 36) hx hb hts hin9 hown hK hG hk19 (cell_9 hq20) rfl 21 (by decide) lk_56 (fun _ h9 => h9) (v := rv ad (gR S k0 21)) rfl dX9_event_143 ?_
      refine lv_iload_n hx hb dX9_event_146 rfl (lv_at hl 2 rfl) ?_
      obtain ⟨q21, e22, h⟩ := h
      refine W.eq (g2 := F0 m 147 ls [.int x1, .ref (ad q21), rv ad (gR S k0 15)]) (by rw [e22]; rfl) ?_
      obtain ⟨hk23, hq24, h⟩ := h
      obtain ⟨hi25, h⟩ := h
      refine r_iald hx hb hK hG hk23 hq24 hi25 dX9_event_147 ?_
      obtain ⟨q26, e27, h⟩ := h
      refine W.eq (g2 := F0 m 148 ls [.int (gX S q21 (Int32.toNatClampNeg x1)), .ref (ad q26)]) (by rw [e27]; rfl) ?_
      obtain ⟨hk28, hq29, h⟩ := h
      obtain ⟨hi30, h⟩ := h
      refine r_iald hx hb hK hG hk28 hq29 hi30 dX9_event_148 ?_
      exact W.iret (v := gX S q26 (Int32.toNatClampNeg (gX S q21 (Int32.toNatClampNeg x1)))) hx hb hr (fun t ht hW => r_end (r := some (vI (gX S q26 (Int32.toNatClampNeg (gX S q21 (Int32.toNatClampNeg x1)))))) hAe hG hsh ⟨_, rfl, h⟩ rfl ht) hG.2.2.2.2 dX9_event_149
    by_cases q_55_3 : x2 = 3
    · have h := h.2.2.2.1 q_55_3
      refine lv_tableIn (tgt := 150) hx hb dX9_event_55 (by rw [q_55_3]; decide) (by rw [q_55_3]; decide) (by rw [q_55_3]; rfl) (by decide) ?_
      refine lv_aload_n hx hb dX9_event_150 rfl (lv_at hl 1 rfl) ?_
      obtain ⟨hk31, hq32, h⟩ := h
      refine g_get (ci := 9) (C := RX9) (T := TX9) (N := 36) hx hb hts hin9 hown hK hG hk31 (cell_9 hq32) rfl 15 (by decide) lk_44 (fun _ h9 => h9) (v := rv ad (gR S k0 15)) rfl dX9_event_151 ?_
      refine lv_aload_n hx hb dX9_event_154 rfl (lv_at hl 1 rfl) ?_
      refine g_get (ci := 9) (C := RX9) (T := TX9) (N := 36) hx hb hts hin9 hown hK hG hk31 (cell_9 hq32) rfl 22 (by decide) lk_59 (fun _ h9 => h9) (v := rv ad (gR S k0 22)) rfl dX9_event_155 ?_
      refine lv_iload_n hx hb dX9_event_158 rfl (lv_at hl 2 rfl) ?_
      obtain ⟨q33, e34, h⟩ := h
      refine W.eq (g2 := F0 m 159 ls [.int x1, .ref (ad q33), rv ad (gR S k0 15)]) (by rw [e34]; rfl) ?_
      obtain ⟨hk35, hq36, h⟩ := h
      obtain ⟨hi37, h⟩ := h
      refine r_iald hx hb hK hG hk35 hq36 hi37 dX9_event_159 ?_
      obtain ⟨q38, e39, h⟩ := h
      refine W.eq (g2 := F0 m 160 ls [.int (gX S q33 (Int32.toNatClampNeg x1)), .ref (ad q38)]) (by rw [e39]; rfl) ?_
      obtain ⟨hk40, hq41, h⟩ := h
      obtain ⟨hi42, h⟩ := h
      refine r_iald hx hb hK hG hk40 hq41 hi42 dX9_event_160 ?_
      exact W.iret (v := gX S q38 (Int32.toNatClampNeg (gX S q33 (Int32.toNatClampNeg x1)))) hx hb hr (fun t ht hW => r_end (r := some (vI (gX S q38 (Int32.toNatClampNeg (gX S q33 (Int32.toNatClampNeg x1)))))) hAe hG hsh ⟨_, rfl, h⟩ rfl ht) hG.2.2.2.2 dX9_event_161
    by_cases q_55_4 : x2 = 4
    · have h := h.2.2.2.2.1 q_55_4
      refine lv_tableIn (tgt := 162) hx hb dX9_event_55 (by rw [q_55_4]; decide) (by rw [q_55_4]; decide) (by rw [q_55_4]; rfl) (by decide) ?_
      refine lv_aload_n hx hb dX9_event_162 rfl (lv_at hl 1 rfl) ?_
      refine lv_iload_n hx hb dX9_event_163 rfl (lv_at hl 2 rfl) ?_
      obtain ⟨hk43, hq44, h⟩ := h
      refine r_callV (za := za) (k := k0) (ci := 9) (C := RX9) (T := TX9) (N := 36) (As := [vI x1]) (rest := []) (tX9_isPause l S k0 x1 _ h) ⟨hx, hb, hml, hown, hts⟩ (cwV 1 hts gX9_event_X9_isPause rfl rfl rfl (by decide +kernel) ⟨by decide, by decide⟩) hK hG hA hk43 (cell_9 hq44) rfl rfl hl.1 rfl (Nat.le_of_ble_eq_true rfl) ⟨Nat.le_refl _, Nat.le_refl _⟩ dX9_event_164 (fun r_9 S45 H locs hp hs_S45 hG => ?_)
      obtain ⟨u46, rfl, h⟩ := hp
      have h := h hs_S45
      refine W.eq (g2 := F0 m 167 ls [.int u46]) rfl ?_
      have hsh := hs_S45.tr hsh
      have hk47 := hs_S45.lt hk43
      have hq48 := hs_S45.kd hq44
      refine lv_if_eq (tgt := 184) hx hb dX9_event_167 (by decide) (fun c_167 => ?_) (fun c_167 => ?_)
      · have h := h.1 c_167
        refine lv_iconst (v := (-1)) hx hb dX9_event_184 (by decide) ?_
        exact b_185 (-1) S45 H locs ls h hsh hG (lv_sub hl [] rfl)
      · have h := h.2 c_167
        refine lv_aload_n hx hb dX9_event_170 rfl (lv_at hl 1 rfl) ?_
        refine g_get (ci := 9) (C := RX9) (T := TX9) (N := 36) hx hb hts hin9 hown hK hG hk47 (cell_9 hq48) rfl 14 (by decide) lk_41 (fun _ h9 => h9) (v := rv ad (gR S45 k0 14)) rfl dX9_event_171 ?_
        refine lv_aload_n hx hb dX9_event_174 rfl (lv_at hl 1 rfl) ?_
        refine g_get (ci := 9) (C := RX9) (T := TX9) (N := 36) hx hb hts hin9 hown hK hG hk47 (cell_9 hq48) rfl 21 (by decide) lk_56 (fun _ h9 => h9) (v := rv ad (gR S45 k0 21)) rfl dX9_event_175 ?_
        refine lv_iload_n hx hb dX9_event_178 rfl (lv_at hl 2 rfl) ?_
        obtain ⟨q49, e50, h⟩ := h
        refine W.eq (g2 := F0 m 179 ls [.int x1, .ref (ad q49), rv ad (gR S45 k0 14)]) (by rw [e50]; rfl) ?_
        obtain ⟨hk51, hq52, h⟩ := h
        obtain ⟨hi53, h⟩ := h
        refine r_iald hx hb hK hG hk51 hq52 hi53 dX9_event_179 ?_
        obtain ⟨q54, e55, h⟩ := h
        refine W.eq (g2 := F0 m 180 ls [.int (gX S45 q49 (Int32.toNatClampNeg x1)), .ref (ad q54)]) (by rw [e55]; rfl) ?_
        obtain ⟨hk56, hq57, h⟩ := h
        obtain ⟨hi58, h⟩ := h
        refine r_iald hx hb hK hG hk56 hq57 hi58 dX9_event_180 ?_
        refine lv_goto (tgt := 185) hx hb dX9_event_181 (by decide) ?_
        exact b_185 (gX S45 q54 (Int32.toNatClampNeg (gX S45 q49 (Int32.toNatClampNeg x1)))) S45 H locs ls h hsh hG (lv_sub hl [] rfl)
    by_cases q_55_5 : x2 = 5
    · have h := h.2.2.2.2.2.1 q_55_5
      refine lv_tableIn (tgt := 186) hx hb dX9_event_55 (by rw [q_55_5]; decide) (by rw [q_55_5]; decide) (by rw [q_55_5]; rfl) (by decide) ?_
      refine lv_aload_n hx hb dX9_event_186 rfl (lv_at hl 1 rfl) ?_
      refine lv_iload_n hx hb dX9_event_187 rfl (lv_at hl 0 rfl) ?_
      refine lv_iconst (v := 0) hx hb dX9_event_188 (by decide) ?_
      obtain ⟨hk59, hq60, h⟩ := h
      refine r_callV (za := za) (k := k0) (ci := 9) (C := RX9) (T := TX9) (N := 36) (As := [vI t0, vI 0]) (rest := []) (tX9_sizeOf l S k0 t0 0 _ h) ⟨hx, hb, hml, hown, hts⟩ (cwV 2 hts gX9_event_X9_sizeOf rfl rfl rfl (by decide +kernel) ⟨by decide, by decide⟩) hK hG hA hk59 (cell_9 hq60) rfl rfl hl.1 rfl (Nat.le_of_ble_eq_true rfl) ⟨Nat.le_refl _, Nat.le_refl _⟩ dX9_event_189 (fun r_9 S61 H locs hp hs_S61 hG => ?_)
      obtain ⟨u62, rfl, h⟩ := hp
      have h := h hs_S61
      refine W.eq (g2 := F0 m 192 ls [.int u62]) rfl ?_
      have hsh := hs_S61.tr hsh
      have hk63 := hs_S61.lt hk59
      have hq64 := hs_S61.kd hq60
      exact W.iret (v := u62) hx hb hr (fun t ht hW => r_end (r := some (vI u62)) hAe hG hsh ⟨_, rfl, h⟩ rfl ht) hG.2.2.2.2 dX9_event_192
    by_cases q_55_6 : x2 = 6
    · have h := h.2.2.2.2.2.2.1 q_55_6
      refine lv_tableIn (tgt := 193) hx hb dX9_event_55 (by rw [q_55_6]; decide) (by rw [q_55_6]; decide) (by rw [q_55_6]; rfl) (by decide) ?_
      refine lv_aload_n hx hb dX9_event_193 rfl (lv_at hl 1 rfl) ?_
      refine lv_iload_n hx hb dX9_event_194 rfl (lv_at hl 0 rfl) ?_
      refine lv_iconst (v := 1) hx hb dX9_event_195 (by decide) ?_
      obtain ⟨hk65, hq66, h⟩ := h
      refine r_callV (za := za) (k := k0) (ci := 9) (C := RX9) (T := TX9) (N := 36) (As := [vI t0, vI 1]) (rest := []) (tX9_sizeOf l S k0 t0 1 _ h) ⟨hx, hb, hml, hown, hts⟩ (cwV 2 hts gX9_event_X9_sizeOf rfl rfl rfl (by decide +kernel) ⟨by decide, by decide⟩) hK hG hA hk65 (cell_9 hq66) rfl rfl hl.1 rfl (Nat.le_of_ble_eq_true rfl) ⟨Nat.le_refl _, Nat.le_refl _⟩ dX9_event_196 (fun r_9 S67 H locs hp hs_S67 hG => ?_)
      obtain ⟨u68, rfl, h⟩ := hp
      have h := h hs_S67
      refine W.eq (g2 := F0 m 199 ls [.int u68]) rfl ?_
      have hsh := hs_S67.tr hsh
      have hk69 := hs_S67.lt hk65
      have hq70 := hs_S67.kd hq66
      exact W.iret (v := u68) hx hb hr (fun t ht hW => r_end (r := some (vI u68)) hAe hG hsh ⟨_, rfl, h⟩ rfl ht) hG.2.2.2.2 dX9_event_199
    by_cases q_55_7 : x2 = 7
    · have h := h.2.2.2.2.2.2.2.1 q_55_7
      refine lv_tableIn (tgt := 200) hx hb dX9_event_55 (by rw [q_55_7]; decide) (by rw [q_55_7]; decide) (by rw [q_55_7]; rfl) (by decide) ?_
      refine lv_aload_n hx hb dX9_event_200 rfl (lv_at hl 1 rfl) ?_
      refine lv_iload_n hx hb dX9_event_201 rfl (lv_at hl 0 rfl) ?_
      refine lv_iconst (v := 2) hx hb dX9_event_202 (by decide) ?_
      obtain ⟨hk71, hq72, h⟩ := h
      refine r_callV (za := za) (k := k0) (ci := 9) (C := RX9) (T := TX9) (N := 36) (As := [vI t0, vI 2]) (rest := []) (tX9_sizeOf l S k0 t0 2 _ h) ⟨hx, hb, hml, hown, hts⟩ (cwV 2 hts gX9_event_X9_sizeOf rfl rfl rfl (by decide +kernel) ⟨by decide, by decide⟩) hK hG hA hk71 (cell_9 hq72) rfl rfl hl.1 rfl (Nat.le_of_ble_eq_true rfl) ⟨Nat.le_refl _, Nat.le_refl _⟩ dX9_event_203 (fun r_9 S73 H locs hp hs_S73 hG => ?_)
      obtain ⟨u74, rfl, h⟩ := hp
      have h := h hs_S73
      refine W.eq (g2 := F0 m 206 ls [.int u74]) rfl ?_
      have hsh := hs_S73.tr hsh
      have hk75 := hs_S73.lt hk71
      have hq76 := hs_S73.kd hq72
      exact W.iret (v := u74) hx hb hr (fun t ht hW => r_end (r := some (vI u74)) hAe hG hsh ⟨_, rfl, h⟩ rfl ht) hG.2.2.2.2 dX9_event_206
    by_cases q_55_8 : x2 = 8
    · have h := h.2.2.2.2.2.2.2.2.1 q_55_8
      refine lv_tableIn (tgt := 207) hx hb dX9_event_55 (by rw [q_55_8]; decide) (by rw [q_55_8]; decide) (by rw [q_55_8]; rfl) (by decide) ?_
      refine lv_aload_n hx hb dX9_event_207 rfl (lv_at hl 1 rfl) ?_
      refine lv_iload_n hx hb dX9_event_208 rfl (lv_at hl 2 rfl) ?_
      obtain ⟨hk77, hq78, h⟩ := h
      refine r_callV (za := za) (k := k0) (ci := 9) (C := RX9) (T := TX9) (N := 36) (As := [vI x1]) (rest := []) (tX9_tookOf l S k0 x1 _ h) ⟨hx, hb, hml, hown, hts⟩ (cwV 1 hts gX9_event_X9_tookOf rfl rfl rfl (by decide +kernel) ⟨by decide, by decide⟩) hK hG hA hk77 (cell_9 hq78) rfl rfl hl.1 rfl (Nat.le_of_ble_eq_true rfl) ⟨Nat.le_refl _, Nat.le_refl _⟩ dX9_event_209 (fun r_9 S79 H locs hp hs_S79 hG => ?_)
      obtain ⟨u80, rfl, h⟩ := hp
      have h := h hs_S79
      refine W.eq (g2 := F0 m 212 ls [.int u80]) rfl ?_
      have hsh := hs_S79.tr hsh
      have hk81 := hs_S79.lt hk77
      have hq82 := hs_S79.kd hq78
      exact W.iret (v := u80) hx hb hr (fun t ht hW => r_end (r := some (vI u80)) hAe hG hsh ⟨_, rfl, h⟩ rfl ht) hG.2.2.2.2 dX9_event_212
    by_cases q_55_9 : x2 = 9
    · have h := h.2.2.2.2.2.2.2.2.2.1 q_55_9
      refine lv_tableIn (tgt := 213) hx hb dX9_event_55 (by rw [q_55_9]; decide) (by rw [q_55_9]; decide) (by rw [q_55_9]; rfl) (by decide) ?_
      refine lv_aload_n hx hb dX9_event_213 rfl (lv_at hl 1 rfl) ?_
      refine lv_aload_n hx hb dX9_event_214 rfl (lv_at hl 1 rfl) ?_
      obtain ⟨hk83, hq84, h⟩ := h
      refine g_get (ci := 9) (C := RX9) (T := TX9) (N := 36) hx hb hts hin9 hown hK hG hk83 (cell_9 hq84) rfl 23 (by decide) lk_62 (fun _ h9 => h9) (v := rv ad (gR S k0 23)) rfl dX9_event_215 ?_
      refine lv_iload_n hx hb dX9_event_218 rfl (lv_at hl 2 rfl) ?_
      obtain ⟨q85, e86, h⟩ := h
      refine W.eq (g2 := F0 m 219 ls [.int x1, .ref (ad q85), .ref (ad k0)]) (by rw [e86]; rfl) ?_
      obtain ⟨hk87, hq88, h⟩ := h
      obtain ⟨hi89, h⟩ := h
      refine r_iald hx hb hK hG hk87 hq88 hi89 dX9_event_219 ?_
      refine lv_iconst (v := 0) hx hb dX9_event_220 (by decide) ?_
      refine r_callV (za := za) (k := k0) (ci := 9) (C := RX9) (T := TX9) (N := 36) (As := [vI (gX S q85 (Int32.toNatClampNeg x1)), vI 0]) (rest := []) (tX9_sizeOf l S k0 (gX S q85 (Int32.toNatClampNeg x1)) 0 _ h) ⟨hx, hb, hml, hown, hts⟩ (cwV 2 hts gX9_event_X9_sizeOf rfl rfl rfl (by decide +kernel) ⟨by decide, by decide⟩) hK hG hA hk83 (cell_9 hq84) rfl rfl hl.1 rfl (Nat.le_of_ble_eq_true rfl) ⟨Nat.le_refl _, Nat.le_refl _⟩ dX9_event_221 (fun r_9 S90 H locs hp hs_S90 hG => ?_)
      obtain ⟨u91, rfl, h⟩ := hp
      have h := h hs_S90
      refine W.eq (g2 := F0 m 224 ls [.int u91]) rfl ?_
      have hsh := hs_S90.tr hsh
      have hk92 := hs_S90.lt hk83
      have hq93 := hs_S90.kd hq84
      have hk94 := hs_S90.lt hk87
      have hq95 := hs_S90.kd hq88
      exact W.iret (v := u91) hx hb hr (fun t ht hW => r_end (r := some (vI u91)) hAe hG hsh ⟨_, rfl, h⟩ rfl ht) hG.2.2.2.2 dX9_event_224
    by_cases q_55_10 : x2 = 10
    · have h := h.2.2.2.2.2.2.2.2.2.2.1 q_55_10
      refine lv_tableIn (tgt := 225) hx hb dX9_event_55 (by rw [q_55_10]; decide) (by rw [q_55_10]; decide) (by rw [q_55_10]; rfl) (by decide) ?_
      refine lv_aload_n hx hb dX9_event_225 rfl (lv_at hl 1 rfl) ?_
      refine lv_aload_n hx hb dX9_event_226 rfl (lv_at hl 1 rfl) ?_
      obtain ⟨hk96, hq97, h⟩ := h
      refine g_get (ci := 9) (C := RX9) (T := TX9) (N := 36) hx hb hts hin9 hown hK hG hk96 (cell_9 hq97) rfl 23 (by decide) lk_62 (fun _ h9 => h9) (v := rv ad (gR S k0 23)) rfl dX9_event_227 ?_
      refine lv_iload_n hx hb dX9_event_230 rfl (lv_at hl 2 rfl) ?_
      obtain ⟨q98, e99, h⟩ := h
      refine W.eq (g2 := F0 m 231 ls [.int x1, .ref (ad q98), .ref (ad k0)]) (by rw [e99]; rfl) ?_
      obtain ⟨hk100, hq101, h⟩ := h
      obtain ⟨hi102, h⟩ := h
      refine r_iald hx hb hK hG hk100 hq101 hi102 dX9_event_231 ?_
      refine lv_iconst (v := 1) hx hb dX9_event_232 (by decide) ?_
      refine r_callV (za := za) (k := k0) (ci := 9) (C := RX9) (T := TX9) (N := 36) (As := [vI (gX S q98 (Int32.toNatClampNeg x1)), vI 1]) (rest := []) (tX9_sizeOf l S k0 (gX S q98 (Int32.toNatClampNeg x1)) 1 _ h) ⟨hx, hb, hml, hown, hts⟩ (cwV 2 hts gX9_event_X9_sizeOf rfl rfl rfl (by decide +kernel) ⟨by decide, by decide⟩) hK hG hA hk96 (cell_9 hq97) rfl rfl hl.1 rfl (Nat.le_of_ble_eq_true rfl) ⟨Nat.le_refl _, Nat.le_refl _⟩ dX9_event_233 (fun r_9 S103 H locs hp hs_S103 hG => ?_)
      obtain ⟨u104, rfl, h⟩ := hp
      have h := h hs_S103
      refine W.eq (g2 := F0 m 236 ls [.int u104]) rfl ?_
      have hsh := hs_S103.tr hsh
      have hk105 := hs_S103.lt hk96
      have hq106 := hs_S103.kd hq97
      have hk107 := hs_S103.lt hk100
      have hq108 := hs_S103.kd hq101
      exact W.iret (v := u104) hx hb hr (fun t ht hW => r_end (r := some (vI u104)) hAe hG hsh ⟨_, rfl, h⟩ rfl ht) hG.2.2.2.2 dX9_event_236
    by_cases q_55_11 : x2 = 11
    · have h := h.2.2.2.2.2.2.2.2.2.2.2.1 q_55_11
      refine lv_tableIn (tgt := 237) hx hb dX9_event_55 (by rw [q_55_11]; decide) (by rw [q_55_11]; decide) (by rw [q_55_11]; rfl) (by decide) ?_
      refine lv_aload_n hx hb dX9_event_237 rfl (lv_at hl 1 rfl) ?_
      refine lv_aload_n hx hb dX9_event_238 rfl (lv_at hl 1 rfl) ?_
      obtain ⟨hk109, hq110, h⟩ := h
      refine g_get (ci := 9) (C := RX9) (T := TX9) (N := 36) hx hb hts hin9 hown hK hG hk109 (cell_9 hq110) rfl 24 (by decide) lk_65 (fun _ h9 => h9) (v := rv ad (gR S k0 24)) rfl dX9_event_239 ?_
      refine lv_iload_n hx hb dX9_event_242 rfl (lv_at hl 2 rfl) ?_
      obtain ⟨q111, e112, h⟩ := h
      refine W.eq (g2 := F0 m 243 ls [.int x1, .ref (ad q111), .ref (ad k0)]) (by rw [e112]; rfl) ?_
      obtain ⟨hk113, hq114, h⟩ := h
      obtain ⟨hi115, h⟩ := h
      refine r_iald hx hb hK hG hk113 hq114 hi115 dX9_event_243 ?_
      refine lv_iconst (v := 0) hx hb dX9_event_244 (by decide) ?_
      refine r_callV (za := za) (k := k0) (ci := 9) (C := RX9) (T := TX9) (N := 36) (As := [vI (gX S q111 (Int32.toNatClampNeg x1)), vI 0]) (rest := []) (tX9_sizeOf l S k0 (gX S q111 (Int32.toNatClampNeg x1)) 0 _ h) ⟨hx, hb, hml, hown, hts⟩ (cwV 2 hts gX9_event_X9_sizeOf rfl rfl rfl (by decide +kernel) ⟨by decide, by decide⟩) hK hG hA hk109 (cell_9 hq110) rfl rfl hl.1 rfl (Nat.le_of_ble_eq_true rfl) ⟨Nat.le_refl _, Nat.le_refl _⟩ dX9_event_245 (fun r_9 S116 H locs hp hs_S116 hG => ?_)
      obtain ⟨u117, rfl, h⟩ := hp
      have h := h hs_S116
      refine W.eq (g2 := F0 m 248 ls [.int u117]) rfl ?_
      have hsh := hs_S116.tr hsh
      have hk118 := hs_S116.lt hk109
      have hq119 := hs_S116.kd hq110
      have hk120 := hs_S116.lt hk113
      have hq121 := hs_S116.kd hq114
      exact W.iret (v := u117) hx hb hr (fun t ht hW => r_end (r := some (vI u117)) hAe hG hsh ⟨_, rfl, h⟩ rfl ht) hG.2.2.2.2 dX9_event_248
    by_cases q_55_12 : x2 = 12
    · have h := h.2.2.2.2.2.2.2.2.2.2.2.2.1 q_55_12
      refine lv_tableIn (tgt := 249) hx hb dX9_event_55 (by rw [q_55_12]; decide) (by rw [q_55_12]; decide) (by rw [q_55_12]; rfl) (by decide) ?_
      refine lv_aload_n hx hb dX9_event_249 rfl (lv_at hl 1 rfl) ?_
      refine lv_aload_n hx hb dX9_event_250 rfl (lv_at hl 1 rfl) ?_
      obtain ⟨hk122, hq123, h⟩ := h
      refine g_get (ci := 9) (C := RX9) (T := TX9) (N := 36) hx hb hts hin9 hown hK hG hk122 (cell_9 hq123) rfl 24 (by decide) lk_65 (fun _ h9 => h9) (v := rv ad (gR S k0 24)) rfl dX9_event_251 ?_
      refine lv_iload_n hx hb dX9_event_254 rfl (lv_at hl 2 rfl) ?_
      obtain ⟨q124, e125, h⟩ := h
      refine W.eq (g2 := F0 m 255 ls [.int x1, .ref (ad q124), .ref (ad k0)]) (by rw [e125]; rfl) ?_
      obtain ⟨hk126, hq127, h⟩ := h
      obtain ⟨hi128, h⟩ := h
      refine r_iald hx hb hK hG hk126 hq127 hi128 dX9_event_255 ?_
      refine lv_iconst (v := 1) hx hb dX9_event_256 (by decide) ?_
      refine r_callV (za := za) (k := k0) (ci := 9) (C := RX9) (T := TX9) (N := 36) (As := [vI (gX S q124 (Int32.toNatClampNeg x1)), vI 1]) (rest := []) (tX9_sizeOf l S k0 (gX S q124 (Int32.toNatClampNeg x1)) 1 _ h) ⟨hx, hb, hml, hown, hts⟩ (cwV 2 hts gX9_event_X9_sizeOf rfl rfl rfl (by decide +kernel) ⟨by decide, by decide⟩) hK hG hA hk122 (cell_9 hq123) rfl rfl hl.1 rfl (Nat.le_of_ble_eq_true rfl) ⟨Nat.le_refl _, Nat.le_refl _⟩ dX9_event_257 (fun r_9 S129 H locs hp hs_S129 hG => ?_)
      obtain ⟨u130, rfl, h⟩ := hp
      have h := h hs_S129
      refine W.eq (g2 := F0 m 260 ls [.int u130]) rfl ?_
      have hsh := hs_S129.tr hsh
      have hk131 := hs_S129.lt hk122
      have hq132 := hs_S129.kd hq123
      have hk133 := hs_S129.lt hk126
      have hq134 := hs_S129.kd hq127
      exact W.iret (v := u130) hx hb hr (fun t ht hW => r_end (r := some (vI u130)) hAe hG hsh ⟨_, rfl, h⟩ rfl ht) hG.2.2.2.2 dX9_event_260
    have h := h.2.2.2.2.2.2.2.2.2.2.2.2.2 q_55_0 q_55_1 q_55_2 q_55_3 q_55_4 q_55_5 q_55_6 q_55_7 q_55_8 q_55_9 q_55_10 q_55_11 q_55_12
    refine lv_tableOut (tgt := 261) hx hb dX9_event_55 (tab0 (N := 12) (fun k hk => match k, hk with | 0, _ => q_55_0 | 1, _ => q_55_1 | 2, _ => q_55_2 | 3, _ => q_55_3 | 4, _ => q_55_4 | 5, _ => q_55_5 | 6, _ => q_55_6 | 7, _ => q_55_7 | 8, _ => q_55_8 | 9, _ => q_55_9 | 10, _ => q_55_10 | 11, _ => q_55_11 | 12, _ => q_55_12 | k + 13, hk => absurd hk (by omega)) (by decide)) (by decide) ?_
    refine lv_aload_n hx hb dX9_event_261 rfl (lv_at hl 1 rfl) ?_
    refine lv_iload_n hx hb dX9_event_262 rfl (lv_at hl 2 rfl) ?_
    obtain ⟨hk135, hq136, h⟩ := h
    refine r_callV (za := za) (k := k0) (ci := 9) (C := RX9) (T := TX9) (N := 36) (As := [vI x1]) (rest := []) (tX9_linesOf l S k0 x1 _ h) ⟨hx, hb, hml, hown, hts⟩ (cwV 1 hts gX9_event_X9_linesOf rfl rfl rfl (by decide +kernel) ⟨by decide, by decide⟩) hK hG hA hk135 (cell_9 hq136) rfl rfl hl.1 rfl (Nat.le_of_ble_eq_true rfl) ⟨Nat.le_refl _, Nat.le_refl _⟩ dX9_event_263 (fun r_9 S137 H locs hp hs_S137 hG => ?_)
    obtain ⟨u138, rfl, h⟩ := hp
    have h := h hs_S137
    refine W.eq (g2 := F0 m 266 ls [.int u138]) rfl ?_
    have hsh := hs_S137.tr hsh
    have hk139 := hs_S137.lt hk135
    have hq140 := hs_S137.kd hq136
    exact W.iret (v := u138) hx hb hr (fun t ht hW => r_end (r := some (vI u138)) hAe hG hsh ⟨_, rfl, h⟩ rfl ht) hG.2.2.2.2 dX9_event_266
  have b_23 : ∀  (x1 : Int32) (x2 : Int32) (t0 : Nat) (t1 : Int32) (S : GS) (H : Heap) (locs : List Loc) (ls : Array Slot), wX9_event_23 Q k0 x1 x2 t0 t1 S → gSh S S0 → gS D Y ad A s.heap S H locs → lv_has ls 4 [(0, .ref (ad k0)), (1, .int x1), (2, .int x2)] → W p l e (rmD 2) s m args below meth c H locs 0 0 (MQ below (gE D Y za ad S0 s.heap.size (fun r S9 => ∃ x, r = some (vI x) ∧ Q x S9)) args s 0 0 A) (F0 m 23 ls [.int t1, .ref (ad t0)]) := by
    intro  x1 x2 t0 t1 S H locs ls h hsh hG hl
    unfold wX9_event_23 at h
    obtain ⟨hk141, hq142, h⟩ := h
    refine r_put (ci := 9) (C := RX9) (T := TX9) (N := 36) hx hb hts hin9 tyX9 tyX9_ok nmX9 hown hK hG hk141 (cell_9 hq142) rfl 32 (by decide) lk_84 (fun _ h9 => h9) rfl rfl rfl (Nat.le_of_ble_eq_true rfl) (S' := sX S t0 32 t1) rfl (pu_9_32 hq142 t1) dX9_event_23 (fun H locs hG => ?_)
    obtain ⟨S143, eS_S143⟩ : ∃ z : GS, z = sX S t0 32 t1 := ⟨_, rfl⟩
    have h := h S143 eS_S143
    rw [← eS_S143] at hG
    have hs_S143 : gSh S143 S := by rw [eS_S143]; exact gSh.x _ _ _ _
    have hsh := hs_S143.tr hsh
    have hk144 := hs_S143.lt hk141
    have hq145 := hs_S143.kd hq142
    refine lv_aload_n hx hb dX9_event_26 rfl (lv_at hl 0 rfl) ?_
    obtain ⟨hk146, hq147, h⟩ := h
    refine g_get (ci := 9) (C := RX9) (T := TX9) (N := 36) hx hb hts hin9 hown hK hG hk146 (cell_9 hq147) rfl 32 (by decide) lk_84 (fun _ h9 => h9) (v := .int (gX S143 k0 32)) rfl dX9_event_27 ?_
    refine lv_if_eq (tgt := 35) hx hb dX9_event_30 (by decide) (fun c_30 => ?_) (fun c_30 => ?_)
    · have h := h.1 c_30
      refine lv_aload_n hx hb dX9_event_35 rfl (lv_at hl 0 rfl) ?_
      refine lv_iload_n hx hb dX9_event_36 rfl (lv_at hl 1 rfl) ?_
      refine r_callV (za := za) (k := k0) (ci := 9) (C := RX9) (T := TX9) (N := 36) (As := [vI x1]) (rest := []) (tX9_isPause l S143 k0 x1 _ h) ⟨hx, hb, hml, hown, hts⟩ (cwV 1 hts gX9_event_X9_isPause rfl rfl rfl (by decide +kernel) ⟨by decide, by decide⟩) hK hG hA hk146 (cell_9 hq147) rfl rfl hl.1 rfl (Nat.le_of_ble_eq_true rfl) ⟨Nat.le_refl _, Nat.le_refl _⟩ dX9_event_37 (fun r_9 S148 H locs hp hs_S148 hG => ?_)
      obtain ⟨u149, rfl, h⟩ := hp
      have h := h hs_S148
      refine W.eq (g2 := F0 m 40 ls [.int u149]) rfl ?_
      have hsh := hs_S148.tr hsh
      have hk150 := hs_S148.lt hk144
      have hq151 := hs_S148.kd hq145
      have hk152 := hs_S148.lt hk146
      have hq153 := hs_S148.kd hq147
      refine lv_if_eq (tgt := 52) hx hb dX9_event_40 (by decide) (fun c_40 => ?_) (fun c_40 => ?_)
      · have h := h.1 c_40
        refine lv_iconst (v := (-1)) hx hb dX9_event_52 (by decide) ?_
        exact b_53 x1 x2 (-1) S148 H locs ls h hsh hG (lv_sub hl [0, 1, 2] rfl)
      · have h := h.2 c_40
        refine lv_aload_n hx hb dX9_event_43 rfl (lv_at hl 0 rfl) ?_
        refine g_get (ci := 9) (C := RX9) (T := TX9) (N := 36) hx hb hts hin9 hown hK hG hk152 (cell_9 hq153) rfl 22 (by decide) lk_59 (fun _ h9 => h9) (v := rv ad (gR S148 k0 22)) rfl dX9_event_44 ?_
        refine lv_iload_n hx hb dX9_event_47 rfl (lv_at hl 1 rfl) ?_
        obtain ⟨q154, e155, h⟩ := h
        refine W.eq (g2 := F0 m 48 ls [.int x1, .ref (ad q154)]) (by rw [e155]; rfl) ?_
        obtain ⟨hk156, hq157, h⟩ := h
        obtain ⟨hi158, h⟩ := h
        refine r_iald hx hb hK hG hk156 hq157 hi158 dX9_event_48 ?_
        refine lv_goto (tgt := 53) hx hb dX9_event_49 (by decide) ?_
        exact b_53 x1 x2 (gX S148 q154 (Int32.toNatClampNeg x1)) S148 H locs ls h hsh hG (lv_sub hl [0, 1, 2] rfl)
    · have h := h.2 c_30
      refine lv_iconst (v := 0) hx hb dX9_event_33 (by decide) ?_
      exact W.iret (v := 0) hx hb hr (fun t ht hW => r_end (r := some (vI 0)) hAe hG hsh ⟨_, rfl, h⟩ rfl ht) hG.2.2.2.2 dX9_event_34
  have b_22 : ∀  (x1 : Int32) (x2 : Int32) (t0 : Nat) (S : GS) (H : Heap) (locs : List Loc) (ls : Array Slot), wX9_event_22 Q k0 x1 x2 t0 S → gSh S S0 → gS D Y ad A s.heap S H locs → lv_has ls 4 [(0, .ref (ad k0)), (1, .int x1), (2, .int x2)] → W p l e (rmD 2) s m args below meth c H locs 0 0 (MQ below (gE D Y za ad S0 s.heap.size (fun r S9 => ∃ x, r = some (vI x) ∧ Q x S9)) args s 0 0 A) (F0 m 22 ls [.ref (ad t0)]) := by
    intro  x1 x2 t0 S H locs ls h hsh hG hl
    unfold wX9_event_22 at h
    refine lv_iconst (v := 1) hx hb dX9_event_22 (by decide) ?_
    exact b_23 x1 x2 t0 1 S H locs ls h hsh hG (lv_sub hl [0, 1, 2] rfl)
  have hl : lv_has ls 4 [(0, .ref (ad k0)), (1, .int x1), (2, .int x2)] := hl
  have hsh : gSh S S0 := by rw [hS0]; exact gSh.rf S
  obtain ⟨H, eH⟩ : ∃ z : Heap, z = s.heap := ⟨_, rfl⟩
  obtain ⟨locs, eL⟩ : ∃ z : List Loc, z = [] := ⟨_, rfl⟩
  have hG : gS D Y ad A s.heap S H locs := by rw [eH, eL]; exact hG
  suffices hgoal : W p l e (rmD 2) s m args below meth c H locs 0 0 (MQ below (gE D Y za ad S0 s.heap.size (fun r S9 => ∃ x, r = some (vI x) ∧ Q x S9)) args s 0 0 A) (F0 m 0 ls []) by rw [eH, eL] at hgoal; exact hgoal
  unfold wX9_event at h
  refine lv_aload_n hx hb dX9_event_0 rfl (lv_at hl 0 rfl) ?_
  refine lv_aload_n hx hb dX9_event_1 rfl (lv_at hl 0 rfl) ?_
  refine lv_iload_n hx hb dX9_event_2 rfl (lv_at hl 1 rfl) ?_
  obtain ⟨hk159, hq160, h⟩ := h
  refine r_callV (za := za) (k := k0) (ci := 9) (C := RX9) (T := TX9) (N := 36) (As := [vI x1]) (rest := [.ref (ad k0)]) (tX9_isEvent l S k0 x1 _ h) ⟨hx, hb, hml, hown, hts⟩ (cwV 1 hts gX9_event_X9_isEvent rfl rfl rfl (by decide +kernel) ⟨by decide, by decide⟩) hK hG hA hk159 (cell_9 hq160) rfl rfl hl.1 rfl (Nat.le_of_ble_eq_true rfl) ⟨Nat.le_refl _, Nat.le_refl _⟩ dX9_event_3 (fun r_9 S161 H locs hp hs_S161 hG => ?_)
  obtain ⟨u162, rfl, h⟩ := hp
  have h := h hs_S161
  refine W.eq (g2 := F0 m 6 ls [.int u162, .ref (ad k0)]) rfl ?_
  have hsh := hs_S161.tr hsh
  have hk163 := hs_S161.lt hk159
  have hq164 := hs_S161.kd hq160
  refine lv_if_eq (tgt := 22) hx hb dX9_event_6 (by decide) (fun c_6 => ?_) (fun c_6 => ?_)
  · have h := h.1 c_6
    exact b_22 x1 x2 k0 S161 H locs ls h hsh hG (lv_sub hl [0, 1, 2] rfl)
  · have h := h.2 c_6
    refine lv_iload_n hx hb dX9_event_9 rfl (lv_at hl 2 rfl) ?_
    refine lv_bipush (v := 13) hx hb dX9_event_10 (by decide) ?_
    refine r_callS (za := za) (As := [vI x2, vI 13]) (rest := [.ref (ad k0)]) (tX9_tells l S161 x2 13 _ h) ⟨hx, hb, hml, hown, hts⟩ (cwS 2 hts gX9_event_X9_tells rfl rfl rfl (by decide +kernel) ⟨by decide, by decide⟩) hK hG hA rfl hl.1 rfl (Nat.le_of_ble_eq_true rfl) ⟨Nat.le_refl _, Nat.le_refl _⟩ dX9_event_12 (fun r_9 S165 H locs hp hs_S165 hG => ?_)
    obtain ⟨u166, rfl, h⟩ := hp
    have h := h hs_S165
    refine W.eq (g2 := F0 m 15 ls [.int u166, .ref (ad k0)]) rfl ?_
    have hsh := hs_S165.tr hsh
    have hk167 := hs_S165.lt hk163
    have hq168 := hs_S165.kd hq164
    refine lv_if_eq (tgt := 22) hx hb dX9_event_15 (by decide) (fun c_15 => ?_) (fun c_15 => ?_)
    · have h := h.1 c_15
      exact b_22 x1 x2 k0 S165 H locs ls h hsh hG (lv_sub hl [0, 1, 2] rfl)
    · have h := h.2 c_15
      refine lv_iconst (v := 0) hx hb dX9_event_18 (by decide) ?_
      refine lv_goto (tgt := 23) hx hb dX9_event_19 (by decide) ?_
      exact b_23 x1 x2 k0 0 S165 H locs ls h hsh hG (lv_sub hl [0, 1, 2] rfl)
def wX9_lineOf_59 (Q : Int32 → GS → Prop) (k0 : Nat) (t0 : Int32) (S : GS) : Prop :=
  Q t0 S
def wX9_lineOf_53 (Q : Int32 → GS → Prop) (k0 : Nat) (x1 : Int32) (S : GS) : Prop :=
  k0 < gN S ∧ gK S k0 = 9 ∧ ∃ q3 : Nat, gR S k0 24 = some q3 ∧ q3 < gN S ∧ gK S q3 = 11 ∧ vp_in x1 (gL S q3) ∧ wX9_lineOf_59 Q k0 (gX S q3 (Int32.toNatClampNeg x1)) S
def wX9_lineOf (S : GS) (k0 : Nat) (x1 : Int32) (x2 : Int32) (Q : Int32 → GS → Prop) : Prop :=
  (¬ x2 = 0 → k0 < gN S ∧ gK S k0 = 9 ∧ wX9_linesOf S k0 x1 (fun u11 S10 => gSh S10 S → (¬ x2 = (u11 - 1) → (¬ x2 = 1 → wX9_lineOf_53 Q k0 x1 S10) ∧ (x2 = 1 → ∃ q14 : Nat, gR S10 k0 23 = some q14 ∧ q14 < gN S10 ∧ gK S10 q14 = 11 ∧ vp_in x1 (gL S10 q14) ∧ ((gX S10 q14 (Int32.toNatClampNeg x1)) = (-1) → wX9_lineOf_53 Q k0 x1 S10) ∧ (¬ (gX S10 q14 (Int32.toNatClampNeg x1)) = (-1) → vp_in x1 (gL S10 q14) ∧ wX9_lineOf_59 Q k0 (gX S10 q14 (Int32.toNatClampNeg x1)) S10))) ∧ (x2 = (u11 - 1) → ∃ q20 : Nat, gR S10 k0 22 = some q20 ∧ q20 < gN S10 ∧ gK S10 q20 = 11 ∧ vp_in x1 (gL S10 q20) ∧ Q (gX S10 q20 (Int32.toNatClampNeg x1)) S10))) ∧ (x2 = 0 → k0 < gN S ∧ gK S k0 = 9 ∧ ∃ q27 : Nat, gR S k0 21 = some q27 ∧ q27 < gN S ∧ gK S q27 = 11 ∧ vp_in x1 (gL S q27) ∧ Q (gX S q27 (Int32.toNatClampNeg x1)) S)
set_option maxHeartbeats 4000000 in
set_option maxRecDepth 100000 in
theorem tX9_lineOf (l : Launch) (S : GS) (k0 : Nat) (x1 : Int32) (x2 : Int32) (Q : Int32 → GS → Prop) (h : wX9_lineOf S k0 x1 x2 Q) : CS l yX9_lineOf wsX9_lineOf 1 S [vR (some k0), vI x1, vI x2] (fun r S9 => ∃ x, r = some (vI x) ∧ Q x S9) := by
  refine CS.ofW (cc := cX9_lineOf) (maxL := 3) (ret := (some .int)) RX9 (by decide) rfl rfl (fun _ _ => Nat.le_of_ble_eq_true rfl) ?_
  intro p e s m args below meth c D Y za ad A ls hAe hx hb hr hml hts hown hlocks hK hA hG hl
  obtain ⟨S0, hS0⟩ : ∃ z : GS, z = S := ⟨_, rfl⟩
  rw [← hS0] at hAe
  rw [← hS0]
  have hin9 : ∀ w ∈ wsX90, w ∈ wsX9_lineOf := by decide +kernel
  have lk_56 := hts (.fieldLink RX9 56 "PauseLogModel" "beginLine" "[I") (by decide +kernel)
  have lk_59 := hts (.fieldLink RX9 59 "PauseLogModel" "endLine" "[I") (by decide +kernel)
  have lk_62 := hts (.fieldLink RX9 62 "PauseLogModel" "edenLine" "[I") (by decide +kernel)
  have lk_65 := hts (.fieldLink RX9 65 "PauseLogModel" "oldLine" "[I") (by decide +kernel)
  have b_59 : ∀  (t0 : Int32) (S : GS) (H : Heap) (locs : List Loc) (ls : Array Slot), wX9_lineOf_59 Q k0 t0 S → gSh S S0 → gS D Y ad A s.heap S H locs → lv_has ls 3 [] → W p l e (rmD 1) s m args below meth c H locs 0 0 (MQ below (gE D Y za ad S0 s.heap.size (fun r S9 => ∃ x, r = some (vI x) ∧ Q x S9)) args s 0 0 A) (F0 m 59 ls [.int t0]) := by
    intro  t0 S H locs ls h hsh hG hl
    unfold wX9_lineOf_59 at h
    exact W.iret (v := t0) hx hb hr (fun t ht hW => r_end (r := some (vI t0)) hAe hG hsh ⟨_, rfl, h⟩ rfl ht) hG.2.2.2.2 dX9_lineOf_59
  have b_53 : ∀  (x1 : Int32) (S : GS) (H : Heap) (locs : List Loc) (ls : Array Slot), wX9_lineOf_53 Q k0 x1 S → gSh S S0 → gS D Y ad A s.heap S H locs → lv_has ls 3 [(0, .ref (ad k0)), (1, .int x1)] → W p l e (rmD 1) s m args below meth c H locs 0 0 (MQ below (gE D Y za ad S0 s.heap.size (fun r S9 => ∃ x, r = some (vI x) ∧ Q x S9)) args s 0 0 A) (F0 m 53 ls []) := by
    intro  x1 S H locs ls h hsh hG hl
    unfold wX9_lineOf_53 at h
    refine lv_aload_n hx hb dX9_lineOf_53 rfl (lv_at hl 0 rfl) ?_
    obtain ⟨hk1, hq2, h⟩ := h
    refine g_get (ci := 9) (C := RX9) (T := TX9) (N := 36) hx hb hts hin9 hown hK hG hk1 (cell_9 hq2) rfl 24 (by decide) lk_65 (fun _ h9 => h9) (v := rv ad (gR S k0 24)) rfl dX9_lineOf_54 ?_
    refine lv_iload_n hx hb dX9_lineOf_57 rfl (lv_at hl 1 rfl) ?_
    obtain ⟨q3, e4, h⟩ := h
    refine W.eq (g2 := F0 m 58 ls [.int x1, .ref (ad q3)]) (by rw [e4]; rfl) ?_
    obtain ⟨hk5, hq6, h⟩ := h
    obtain ⟨hi7, h⟩ := h
    refine r_iald hx hb hK hG hk5 hq6 hi7 dX9_lineOf_58 ?_
    exact b_59 (gX S q3 (Int32.toNatClampNeg x1)) S H locs ls h hsh hG (lv_sub hl [] rfl)
  have hl : lv_has ls 3 [(0, .ref (ad k0)), (1, .int x1), (2, .int x2)] := hl
  have hsh : gSh S S0 := by rw [hS0]; exact gSh.rf S
  obtain ⟨H, eH⟩ : ∃ z : Heap, z = s.heap := ⟨_, rfl⟩
  obtain ⟨locs, eL⟩ : ∃ z : List Loc, z = [] := ⟨_, rfl⟩
  have hG : gS D Y ad A s.heap S H locs := by rw [eH, eL]; exact hG
  suffices hgoal : W p l e (rmD 1) s m args below meth c H locs 0 0 (MQ below (gE D Y za ad S0 s.heap.size (fun r S9 => ∃ x, r = some (vI x) ∧ Q x S9)) args s 0 0 A) (F0 m 0 ls []) by rw [eH, eL] at hgoal; exact hgoal
  unfold wX9_lineOf at h
  refine lv_iload_n hx hb dX9_lineOf_0 rfl (lv_at hl 2 rfl) ?_
  refine lv_if_ne (tgt := 11) hx hb dX9_lineOf_1 (by decide) (fun c_1 => ?_) (fun c_1 => ?_)
  · have h := h.1 c_1
    refine lv_iload_n hx hb dX9_lineOf_11 rfl (lv_at hl 2 rfl) ?_
    refine lv_aload_n hx hb dX9_lineOf_12 rfl (lv_at hl 0 rfl) ?_
    refine lv_iload_n hx hb dX9_lineOf_13 rfl (lv_at hl 1 rfl) ?_
    obtain ⟨hk8, hq9, h⟩ := h
    refine r_callV (za := za) (k := k0) (ci := 9) (C := RX9) (T := TX9) (N := 36) (As := [vI x1]) (rest := [.int x2]) (tX9_linesOf l S k0 x1 _ h) ⟨hx, hb, hml, hown, hts⟩ (cwV 1 hts gX9_lineOf_X9_linesOf rfl rfl rfl (by decide +kernel) ⟨by decide, by decide⟩) hK hG hA hk8 (cell_9 hq9) rfl rfl hl.1 rfl (Nat.le_of_ble_eq_true rfl) ⟨Nat.le_refl _, Nat.le_refl _⟩ dX9_lineOf_14 (fun r_9 S10 H locs hp hs_S10 hG => ?_)
    obtain ⟨u11, rfl, h⟩ := hp
    have h := h hs_S10
    refine W.eq (g2 := F0 m 17 ls [.int u11, .int x2]) rfl ?_
    have hsh := hs_S10.tr hsh
    have hk12 := hs_S10.lt hk8
    have hq13 := hs_S10.kd hq9
    refine lv_iconst (v := 1) hx hb dX9_lineOf_17 (by decide) ?_
    refine lv_isub hx hb dX9_lineOf_18 ?_
    refine lv_icmp_ne (tgt := 29) hx hb dX9_lineOf_19 (by decide) (fun c_19 => ?_) (fun c_19 => ?_)
    · have h := h.1 c_19
      refine lv_iload_n hx hb dX9_lineOf_29 rfl (lv_at hl 2 rfl) ?_
      refine lv_iconst (v := 1) hx hb dX9_lineOf_30 (by decide) ?_
      refine lv_icmp_ne (tgt := 53) hx hb dX9_lineOf_31 (by decide) (fun c_31 => ?_) (fun c_31 => ?_)
      · have h := h.1 c_31
        exact b_53 x1 S10 H locs ls h hsh hG (lv_sub hl [0, 1] rfl)
      · have h := h.2 c_31
        refine lv_aload_n hx hb dX9_lineOf_34 rfl (lv_at hl 0 rfl) ?_
        refine g_get (ci := 9) (C := RX9) (T := TX9) (N := 36) hx hb hts hin9 hown hK hG hk12 (cell_9 hq13) rfl 23 (by decide) lk_62 (fun _ h9 => h9) (v := rv ad (gR S10 k0 23)) rfl dX9_lineOf_35 ?_
        refine lv_iload_n hx hb dX9_lineOf_38 rfl (lv_at hl 1 rfl) ?_
        obtain ⟨q14, e15, h⟩ := h
        refine W.eq (g2 := F0 m 39 ls [.int x1, .ref (ad q14)]) (by rw [e15]; rfl) ?_
        obtain ⟨hk16, hq17, h⟩ := h
        obtain ⟨hi18, h⟩ := h
        refine r_iald hx hb hK hG hk16 hq17 hi18 dX9_lineOf_39 ?_
        refine lv_iconst (v := (-1)) hx hb dX9_lineOf_40 (by decide) ?_
        refine lv_icmp_eq (tgt := 53) hx hb dX9_lineOf_41 (by decide) (fun c_41 => ?_) (fun c_41 => ?_)
        · have h := h.1 c_41
          exact b_53 x1 S10 H locs ls h hsh hG (lv_sub hl [0, 1] rfl)
        · have h := h.2 c_41
          refine lv_aload_n hx hb dX9_lineOf_44 rfl (lv_at hl 0 rfl) ?_
          refine g_get (ci := 9) (C := RX9) (T := TX9) (N := 36) hx hb hts hin9 hown hK hG hk12 (cell_9 hq13) rfl 23 (by decide) lk_62 (fun _ h9 => h9) (v := rv ad (gR S10 k0 23)) rfl dX9_lineOf_45 ?_
          refine lv_iload_n hx hb dX9_lineOf_48 rfl (lv_at hl 1 rfl) ?_
          refine W.eq (g2 := F0 m 49 ls [.int x1, .ref (ad q14)]) (by rw [e15]; rfl) ?_
          obtain ⟨hi19, h⟩ := h
          refine r_iald hx hb hK hG hk16 hq17 hi19 dX9_lineOf_49 ?_
          refine lv_goto (tgt := 59) hx hb dX9_lineOf_50 (by decide) ?_
          exact b_59 (gX S10 q14 (Int32.toNatClampNeg x1)) S10 H locs ls h hsh hG (lv_sub hl [] rfl)
    · have h := h.2 c_19
      refine lv_aload_n hx hb dX9_lineOf_22 rfl (lv_at hl 0 rfl) ?_
      refine g_get (ci := 9) (C := RX9) (T := TX9) (N := 36) hx hb hts hin9 hown hK hG hk12 (cell_9 hq13) rfl 22 (by decide) lk_59 (fun _ h9 => h9) (v := rv ad (gR S10 k0 22)) rfl dX9_lineOf_23 ?_
      refine lv_iload_n hx hb dX9_lineOf_26 rfl (lv_at hl 1 rfl) ?_
      obtain ⟨q20, e21, h⟩ := h
      refine W.eq (g2 := F0 m 27 ls [.int x1, .ref (ad q20)]) (by rw [e21]; rfl) ?_
      obtain ⟨hk22, hq23, h⟩ := h
      obtain ⟨hi24, h⟩ := h
      refine r_iald hx hb hK hG hk22 hq23 hi24 dX9_lineOf_27 ?_
      exact W.iret (v := gX S10 q20 (Int32.toNatClampNeg x1)) hx hb hr (fun t ht hW => r_end (r := some (vI (gX S10 q20 (Int32.toNatClampNeg x1)))) hAe hG hsh ⟨_, rfl, h⟩ rfl ht) hG.2.2.2.2 dX9_lineOf_28
  · have h := h.2 c_1
    refine lv_aload_n hx hb dX9_lineOf_4 rfl (lv_at hl 0 rfl) ?_
    obtain ⟨hk25, hq26, h⟩ := h
    refine g_get (ci := 9) (C := RX9) (T := TX9) (N := 36) hx hb hts hin9 hown hK hG hk25 (cell_9 hq26) rfl 21 (by decide) lk_56 (fun _ h9 => h9) (v := rv ad (gR S k0 21)) rfl dX9_lineOf_5 ?_
    refine lv_iload_n hx hb dX9_lineOf_8 rfl (lv_at hl 1 rfl) ?_
    obtain ⟨q27, e28, h⟩ := h
    refine W.eq (g2 := F0 m 9 ls [.int x1, .ref (ad q27)]) (by rw [e28]; rfl) ?_
    obtain ⟨hk29, hq30, h⟩ := h
    obtain ⟨hi31, h⟩ := h
    refine r_iald hx hb hK hG hk29 hq30 hi31 dX9_lineOf_9 ?_
    exact W.iret (v := gX S q27 (Int32.toNatClampNeg x1)) hx hb hr (fun t ht hW => r_end (r := some (vI (gX S q27 (Int32.toNatClampNeg x1)))) hAe hG hsh ⟨_, rfl, h⟩ rfl ht) hG.2.2.2.2 dX9_lineOf_10
def wX9_shown_186 (Q : Int32 → GS → Prop) (k0 : Nat) (t0 : Int32) (S : GS) : Prop :=
  Q t0 S
def wX9_shown_108 (Q : Int32 → GS → Prop) (k0 : Nat) (x3 : Int32) (x4 : Int32) (t0 : Int32) (S : GS) : Prop :=
  k0 < gN S ∧ gK S k0 = 9 ∧ ∃ q3 : Nat, gR S k0 12 = some q3 ∧ q3 < gN S ∧ gK S q3 = 11 ∧ vp_in x4 (gL S q3) ∧ ∃ q8 : Nat, gR S k0 16 = some q8 ∧ q8 < gN S ∧ gK S q8 = 11 ∧ vp_in x4 (gL S q8) ∧ ∃ q13 : Nat, gR S k0 17 = some q13 ∧ q13 < gN S ∧ gK S q13 = 11 ∧ vp_in (3 * x4) (gL S q13) ∧ vp_in ((3 * x4) + 1) (gL S q13) ∧ vp_in ((3 * x4) + 2) (gL S q13) ∧ ∃ q20 : Nat, gR S k0 18 = some q20 ∧ q20 < gN S ∧ gK S q20 = 11 ∧ vp_in x4 (gL S q20) ∧ wX9_pourNumbers S k0 (gX S q3 (Int32.toNatClampNeg x4)) (gX S q8 (Int32.toNatClampNeg x4)) t0 (gX S q13 (Int32.toNatClampNeg (3 * x4))) (gX S q13 (Int32.toNatClampNeg ((3 * x4) + 1))) (gX S q13 (Int32.toNatClampNeg ((3 * x4) + 2))) (gX S q20 (Int32.toNatClampNeg x4)) (fun S25 => gSh S25 S → ((gX S25 k0 5) ≤ x3 → wX9_shown_186 Q k0 (-1) S25) ∧ (¬ (gX S25 k0 5) ≤ x3 → ∃ q37 : Nat, gR S25 k0 4 = some q37 ∧ q37 < gN S25 ∧ gK S25 q37 = 11 ∧ vp_in x3 (gL S25 q37) ∧ wX9_shown_186 Q k0 (gX S25 q37 (Int32.toNatClampNeg x3)) S25))
def wX9_shown_31 (Q : Int32 → GS → Prop) (k0 : Nat) (x1 : Int32) (x2 : Int32) (x3 : Int32) (t0 : Nat) (t1 : Int32) (S : GS) : Prop :=
  t0 < gN S ∧ gK S t0 = 9 ∧ ∀ S44 : GS, S44 = sX S t0 32 t1 → k0 < gN S44 ∧ gK S44 k0 = 9 ∧ ((gX S44 k0 32) = 0 → wX9_lineOf S44 k0 x1 x2 (fun u50 S49 => gSh S49 S44 → ∃ q55 : Nat, gR S49 k0 12 = some q55 ∧ q55 < gN S49 ∧ gK S49 q55 = 11 ∧ vp_in u50 (gL S49 q55) ∧ ∃ q60 : Nat, gR S49 k0 13 = some q60 ∧ q60 < gN S49 ∧ gK S49 q60 = 11 ∧ vp_in u50 (gL S49 q60) ∧ ∃ q65 : Nat, gR S49 k0 14 = some q65 ∧ q65 < gN S49 ∧ gK S49 q65 = 11 ∧ vp_in u50 (gL S49 q65) ∧ wX9_makeMould S49 k0 (gX S49 q55 (Int32.toNatClampNeg u50)) (gX S49 q60 (Int32.toNatClampNeg u50)) (gX S49 q65 (Int32.toNatClampNeg u50)) (fun S70 => gSh S70 S49 → ∃ q82 : Nat, gR S70 k0 22 = some q82 ∧ q82 < gN S70 ∧ gK S70 q82 = 11 ∧ vp_in x1 (gL S70 q82) ∧ (¬ u50 = (gX S70 q82 (Int32.toNatClampNeg x1)) → ∃ q87 : Nat, gR S70 k0 21 = some q87 ∧ q87 < gN S70 ∧ gK S70 q87 = 11 ∧ vp_in x1 (gL S70 q87) ∧ ∃ q92 : Nat, gR S70 k0 15 = some q92 ∧ q92 < gN S70 ∧ gK S70 q92 = 11 ∧ vp_in (gX S70 q87 (Int32.toNatClampNeg x1)) (gL S70 q92) ∧ wX9_shown_108 Q k0 x3 u50 (gX S70 q92 (Int32.toNatClampNeg (gX S70 q87 (Int32.toNatClampNeg x1)))) S70) ∧ (u50 = (gX S70 q82 (Int32.toNatClampNeg x1)) → ∃ q97 : Nat, gR S70 k0 15 = some q97 ∧ q97 < gN S70 ∧ gK S70 q97 = 11 ∧ vp_in u50 (gL S70 q97) ∧ wX9_shown_108 Q k0 x3 u50 (gX S70 q97 (Int32.toNatClampNeg u50)) S70)))) ∧ (¬ (gX S44 k0 32) = 0 → Q 0 S44)
def wX9_shown_30 (Q : Int32 → GS → Prop) (k0 : Nat) (x1 : Int32) (x2 : Int32) (x3 : Int32) (t0 : Nat) (S : GS) : Prop :=
  wX9_shown_31 Q k0 x1 x2 x3 t0 1 S
def wX9_shown (S : GS) (k0 : Nat) (x1 : Int32) (x2 : Int32) (x3 : Int32) (Q : Int32 → GS → Prop) : Prop :=
  k0 < gN S ∧ gK S k0 = 9 ∧ wX9_isEvent S k0 x1 (fun u105 S104 => gSh S104 S → (u105 = 0 → wX9_shown_30 Q k0 x1 x2 x3 k0 S104) ∧ (¬ u105 = 0 → (x2 < 0 → wX9_shown_30 Q k0 x1 x2 x3 k0 S104) ∧ (¬ x2 < 0 → wX9_linesOf S104 k0 x1 (fun u109 S108 => gSh S108 S104 → (u109 ≤ x2 → wX9_shown_30 Q k0 x1 x2 x3 k0 S108) ∧ (¬ u109 ≤ x2 → (x3 < 0 → wX9_shown_30 Q k0 x1 x2 x3 k0 S108) ∧ (¬ x3 < 0 → wX9_shown_31 Q k0 x1 x2 x3 k0 0 S108))))))
set_option maxHeartbeats 4000000 in
set_option maxRecDepth 100000 in
theorem tX9_shown (l : Launch) (S : GS) (k0 : Nat) (x1 : Int32) (x2 : Int32) (x3 : Int32) (Q : Int32 → GS → Prop) (h : wX9_shown S k0 x1 x2 x3 Q) : CS l yX9_shown wsX9_shown 4 S [vR (some k0), vI x1, vI x2, vI x3] (fun r S9 => ∃ x, r = some (vI x) ∧ Q x S9) := by
  refine CS.ofW (cc := cX9_shown) (maxL := 6) (ret := (some .int)) RX9 (by decide) rfl rfl (fun _ _ => Nat.le_of_ble_eq_true rfl) ?_
  intro p e s m args below meth c D Y za ad A ls hAe hx hb hr hml hts hown hlocks hK hA hG hl
  obtain ⟨S0, hS0⟩ : ∃ z : GS, z = S := ⟨_, rfl⟩
  rw [← hS0] at hAe
  rw [← hS0]
  have hin9 : ∀ w ∈ wsX90, w ∈ wsX9_shown := by decide +kernel
  have lk_84 := hts (.fieldLink RX9 84 "PauseLogModel" "thrown" "I") (by decide +kernel)
  have lk_35 := hts (.fieldLink RX9 35 "PauseLogModel" "shape" "[I") (by decide +kernel)
  have lk_38 := hts (.fieldLink RX9 38 "PauseLogModel" "kind" "[I") (by decide +kernel)
  have lk_41 := hts (.fieldLink RX9 41 "PauseLogModel" "cause" "[I") (by decide +kernel)
  have lk_59 := hts (.fieldLink RX9 59 "PauseLogModel" "endLine" "[I") (by decide +kernel)
  have lk_44 := hts (.fieldLink RX9 44 "PauseLogModel" "time" "[I") (by decide +kernel)
  have lk_56 := hts (.fieldLink RX9 56 "PauseLogModel" "beginLine" "[I") (by decide +kernel)
  have lk_47 := hts (.fieldLink RX9 47 "PauseLogModel" "id" "[I") (by decide +kernel)
  have lk_50 := hts (.fieldLink RX9 50 "PauseLogModel" "sizes" "[I") (by decide +kernel)
  have lk_53 := hts (.fieldLink RX9 53 "PauseLogModel" "took" "[I") (by decide +kernel)
  have lk_229 := hts (.fieldLink RX9 229 "PauseLogModel" "outLong" "I") (by decide +kernel)
  have lk_16 := hts (.fieldLink RX9 16 "PauseLogModel" "out" "[I") (by decide +kernel)
  have b_186 : ∀  (t0 : Int32) (S : GS) (H : Heap) (locs : List Loc) (ls : Array Slot), wX9_shown_186 Q k0 t0 S → gSh S S0 → gS D Y ad A s.heap S H locs → lv_has ls 6 [] → W p l e (rmD 4) s m args below meth c H locs 0 0 (MQ below (gE D Y za ad S0 s.heap.size (fun r S9 => ∃ x, r = some (vI x) ∧ Q x S9)) args s 0 0 A) (F0 m 186 ls [.int t0]) := by
    intro  t0 S H locs ls h hsh hG hl
    unfold wX9_shown_186 at h
    exact W.iret (v := t0) hx hb hr (fun t ht hW => r_end (r := some (vI t0)) hAe hG hsh ⟨_, rfl, h⟩ rfl ht) hG.2.2.2.2 dX9_shown_186
  have b_108 : ∀  (x3 : Int32) (x4 : Int32) (t0 : Int32) (S : GS) (H : Heap) (locs : List Loc) (ls : Array Slot), wX9_shown_108 Q k0 x3 x4 t0 S → gSh S S0 → gS D Y ad A s.heap S H locs → lv_has ls 6 [(0, .ref (ad k0)), (3, .int x3), (4, .int x4)] → W p l e (rmD 4) s m args below meth c H locs 0 0 (MQ below (gE D Y za ad S0 s.heap.size (fun r S9 => ∃ x, r = some (vI x) ∧ Q x S9)) args s 0 0 A) (F0 m 108 ls [.int t0]) := by
    intro  x3 x4 t0 S H locs ls h hsh hG hl
    unfold wX9_shown_108 at h
    refine lv_istore (lv' := [(5, .int t0), (0, .ref (ad k0)), (3, .int x3), (4, .int x4)]) hx hb dX9_shown_108 hl (by decide) rfl (fun ls hl => ?_)
    refine lv_aload_n hx hb dX9_shown_110 rfl (lv_at hl 1 rfl) ?_
    refine lv_aload_n hx hb dX9_shown_111 rfl (lv_at hl 1 rfl) ?_
    obtain ⟨hk1, hq2, h⟩ := h
    refine g_get (ci := 9) (C := RX9) (T := TX9) (N := 36) hx hb hts hin9 hown hK hG hk1 (cell_9 hq2) rfl 12 (by decide) lk_35 (fun _ h9 => h9) (v := rv ad (gR S k0 12)) rfl dX9_shown_112 ?_
    refine lv_iload hx hb dX9_shown_115 (lv_at hl 3 rfl) ?_
    obtain ⟨q3, e4, h⟩ := h
    refine W.eq (g2 := F0 m 117 ls [.int x4, .ref (ad q3), .ref (ad k0)]) (by rw [e4]; rfl) ?_
    obtain ⟨hk5, hq6, h⟩ := h
    obtain ⟨hi7, h⟩ := h
    refine r_iald hx hb hK hG hk5 hq6 hi7 dX9_shown_117 ?_
    refine lv_aload_n hx hb dX9_shown_118 rfl (lv_at hl 1 rfl) ?_
    refine g_get (ci := 9) (C := RX9) (T := TX9) (N := 36) hx hb hts hin9 hown hK hG hk1 (cell_9 hq2) rfl 16 (by decide) lk_47 (fun _ h9 => h9) (v := rv ad (gR S k0 16)) rfl dX9_shown_119 ?_
    refine lv_iload hx hb dX9_shown_122 (lv_at hl 3 rfl) ?_
    obtain ⟨q8, e9, h⟩ := h
    refine W.eq (g2 := F0 m 124 ls [.int x4, .ref (ad q8), .int (gX S q3 (Int32.toNatClampNeg x4)), .ref (ad k0)]) (by rw [e9]; rfl) ?_
    obtain ⟨hk10, hq11, h⟩ := h
    obtain ⟨hi12, h⟩ := h
    refine r_iald hx hb hK hG hk10 hq11 hi12 dX9_shown_124 ?_
    refine lv_iload hx hb dX9_shown_125 (lv_at hl 0 rfl) ?_
    refine lv_aload_n hx hb dX9_shown_127 rfl (lv_at hl 1 rfl) ?_
    refine g_get (ci := 9) (C := RX9) (T := TX9) (N := 36) hx hb hts hin9 hown hK hG hk1 (cell_9 hq2) rfl 17 (by decide) lk_50 (fun _ h9 => h9) (v := rv ad (gR S k0 17)) rfl dX9_shown_128 ?_
    refine lv_iconst (v := 3) hx hb dX9_shown_131 (by decide) ?_
    refine lv_iload hx hb dX9_shown_132 (lv_at hl 3 rfl) ?_
    refine lv_imul hx hb dX9_shown_134 ?_
    obtain ⟨q13, e14, h⟩ := h
    refine W.eq (g2 := F0 m 135 ls [.int (3 * x4), .ref (ad q13), .int t0, .int (gX S q8 (Int32.toNatClampNeg x4)), .int (gX S q3 (Int32.toNatClampNeg x4)), .ref (ad k0)]) (by rw [e14]; rfl) ?_
    obtain ⟨hk15, hq16, h⟩ := h
    obtain ⟨hi17, h⟩ := h
    refine r_iald hx hb hK hG hk15 hq16 hi17 dX9_shown_135 ?_
    refine lv_aload_n hx hb dX9_shown_136 rfl (lv_at hl 1 rfl) ?_
    refine g_get (ci := 9) (C := RX9) (T := TX9) (N := 36) hx hb hts hin9 hown hK hG hk1 (cell_9 hq2) rfl 17 (by decide) lk_50 (fun _ h9 => h9) (v := rv ad (gR S k0 17)) rfl dX9_shown_137 ?_
    refine lv_iconst (v := 3) hx hb dX9_shown_140 (by decide) ?_
    refine lv_iload hx hb dX9_shown_141 (lv_at hl 3 rfl) ?_
    refine lv_imul hx hb dX9_shown_143 ?_
    refine lv_iconst (v := 1) hx hb dX9_shown_144 (by decide) ?_
    refine lv_iadd hx hb dX9_shown_145 ?_
    refine W.eq (g2 := F0 m 146 ls [.int ((3 * x4) + 1), .ref (ad q13), .int (gX S q13 (Int32.toNatClampNeg (3 * x4))), .int t0, .int (gX S q8 (Int32.toNatClampNeg x4)), .int (gX S q3 (Int32.toNatClampNeg x4)), .ref (ad k0)]) (by rw [e14]; rfl) ?_
    obtain ⟨hi18, h⟩ := h
    refine r_iald hx hb hK hG hk15 hq16 hi18 dX9_shown_146 ?_
    refine lv_aload_n hx hb dX9_shown_147 rfl (lv_at hl 1 rfl) ?_
    refine g_get (ci := 9) (C := RX9) (T := TX9) (N := 36) hx hb hts hin9 hown hK hG hk1 (cell_9 hq2) rfl 17 (by decide) lk_50 (fun _ h9 => h9) (v := rv ad (gR S k0 17)) rfl dX9_shown_148 ?_
    refine lv_iconst (v := 3) hx hb dX9_shown_151 (by decide) ?_
    refine lv_iload hx hb dX9_shown_152 (lv_at hl 3 rfl) ?_
    refine lv_imul hx hb dX9_shown_154 ?_
    refine lv_iconst (v := 2) hx hb dX9_shown_155 (by decide) ?_
    refine lv_iadd hx hb dX9_shown_156 ?_
    refine W.eq (g2 := F0 m 157 ls [.int ((3 * x4) + 2), .ref (ad q13), .int (gX S q13 (Int32.toNatClampNeg ((3 * x4) + 1))), .int (gX S q13 (Int32.toNatClampNeg (3 * x4))), .int t0, .int (gX S q8 (Int32.toNatClampNeg x4)), .int (gX S q3 (Int32.toNatClampNeg x4)), .ref (ad k0)]) (by rw [e14]; rfl) ?_
    obtain ⟨hi19, h⟩ := h
    refine r_iald hx hb hK hG hk15 hq16 hi19 dX9_shown_157 ?_
    refine lv_aload_n hx hb dX9_shown_158 rfl (lv_at hl 1 rfl) ?_
    refine g_get (ci := 9) (C := RX9) (T := TX9) (N := 36) hx hb hts hin9 hown hK hG hk1 (cell_9 hq2) rfl 18 (by decide) lk_53 (fun _ h9 => h9) (v := rv ad (gR S k0 18)) rfl dX9_shown_159 ?_
    refine lv_iload hx hb dX9_shown_162 (lv_at hl 3 rfl) ?_
    obtain ⟨q20, e21, h⟩ := h
    refine W.eq (g2 := F0 m 164 ls [.int x4, .ref (ad q20), .int (gX S q13 (Int32.toNatClampNeg ((3 * x4) + 2))), .int (gX S q13 (Int32.toNatClampNeg ((3 * x4) + 1))), .int (gX S q13 (Int32.toNatClampNeg (3 * x4))), .int t0, .int (gX S q8 (Int32.toNatClampNeg x4)), .int (gX S q3 (Int32.toNatClampNeg x4)), .ref (ad k0)]) (by rw [e21]; rfl) ?_
    obtain ⟨hk22, hq23, h⟩ := h
    obtain ⟨hi24, h⟩ := h
    refine r_iald hx hb hK hG hk22 hq23 hi24 dX9_shown_164 ?_
    refine r_callV (za := za) (k := k0) (ci := 9) (C := RX9) (T := TX9) (N := 36) (As := [vI (gX S q3 (Int32.toNatClampNeg x4)), vI (gX S q8 (Int32.toNatClampNeg x4)), vI t0, vI (gX S q13 (Int32.toNatClampNeg (3 * x4))), vI (gX S q13 (Int32.toNatClampNeg ((3 * x4) + 1))), vI (gX S q13 (Int32.toNatClampNeg ((3 * x4) + 2))), vI (gX S q20 (Int32.toNatClampNeg x4))]) (rest := []) (tX9_pourNumbers l S k0 (gX S q3 (Int32.toNatClampNeg x4)) (gX S q8 (Int32.toNatClampNeg x4)) t0 (gX S q13 (Int32.toNatClampNeg (3 * x4))) (gX S q13 (Int32.toNatClampNeg ((3 * x4) + 1))) (gX S q13 (Int32.toNatClampNeg ((3 * x4) + 2))) (gX S q20 (Int32.toNatClampNeg x4)) _ h) ⟨hx, hb, hml, hown, hts⟩ (cwV 7 hts gX9_shown_X9_pourNumbers rfl rfl rfl (by decide +kernel) ⟨by decide, by decide⟩) hK hG hA hk1 (cell_9 hq2) rfl rfl hl.1 rfl (Nat.le_of_ble_eq_true rfl) ⟨Nat.le_refl _, Nat.le_refl _⟩ dX9_shown_165 (fun r_9 S25 H locs hp hs_S25 hG => ?_)
    obtain ⟨rfl, h⟩ := hp
    have h := h hs_S25
    refine W.eq (g2 := F0 m 168 ls []) rfl ?_
    have hsh := hs_S25.tr hsh
    have hk27 := hs_S25.lt hk1
    have hq28 := hs_S25.kd hq2
    have hk29 := hs_S25.lt hk5
    have hq30 := hs_S25.kd hq6
    have hk31 := hs_S25.lt hk10
    have hq32 := hs_S25.kd hq11
    have hk33 := hs_S25.lt hk15
    have hq34 := hs_S25.kd hq16
    have hk35 := hs_S25.lt hk22
    have hq36 := hs_S25.kd hq23
    refine lv_iload_n hx hb dX9_shown_168 rfl (lv_at hl 2 rfl) ?_
    refine lv_aload_n hx hb dX9_shown_169 rfl (lv_at hl 1 rfl) ?_
    refine g_get (ci := 9) (C := RX9) (T := TX9) (N := 36) hx hb hts hin9 hown hK hG hk27 (cell_9 hq28) rfl 5 (by decide) lk_229 (fun _ h9 => h9) (v := .int (gX S25 k0 5)) rfl dX9_shown_170 ?_
    refine lv_icmp_ge (tgt := 185) hx hb dX9_shown_173 (by decide) (fun c_173 => ?_) (fun c_173 => ?_)
    · have h := h.1 c_173
      refine lv_iconst (v := (-1)) hx hb dX9_shown_185 (by decide) ?_
      exact b_186 (-1) S25 H locs ls h hsh hG (lv_sub hl [] rfl)
    · have h := h.2 c_173
      refine lv_aload_n hx hb dX9_shown_176 rfl (lv_at hl 1 rfl) ?_
      refine g_get (ci := 9) (C := RX9) (T := TX9) (N := 36) hx hb hts hin9 hown hK hG hk27 (cell_9 hq28) rfl 4 (by decide) lk_16 (fun _ h9 => h9) (v := rv ad (gR S25 k0 4)) rfl dX9_shown_177 ?_
      refine lv_iload_n hx hb dX9_shown_180 rfl (lv_at hl 2 rfl) ?_
      obtain ⟨q37, e38, h⟩ := h
      refine W.eq (g2 := F0 m 181 ls [.int x3, .ref (ad q37)]) (by rw [e38]; rfl) ?_
      obtain ⟨hk39, hq40, h⟩ := h
      obtain ⟨hi41, h⟩ := h
      refine r_iald hx hb hK hG hk39 hq40 hi41 dX9_shown_181 ?_
      refine lv_goto (tgt := 186) hx hb dX9_shown_182 (by decide) ?_
      exact b_186 (gX S25 q37 (Int32.toNatClampNeg x3)) S25 H locs ls h hsh hG (lv_sub hl [] rfl)
  have b_31 : ∀  (x1 : Int32) (x2 : Int32) (x3 : Int32) (t0 : Nat) (t1 : Int32) (S : GS) (H : Heap) (locs : List Loc) (ls : Array Slot), wX9_shown_31 Q k0 x1 x2 x3 t0 t1 S → gSh S S0 → gS D Y ad A s.heap S H locs → lv_has ls 6 [(0, .ref (ad k0)), (1, .int x1), (2, .int x2), (3, .int x3)] → W p l e (rmD 4) s m args below meth c H locs 0 0 (MQ below (gE D Y za ad S0 s.heap.size (fun r S9 => ∃ x, r = some (vI x) ∧ Q x S9)) args s 0 0 A) (F0 m 31 ls [.int t1, .ref (ad t0)]) := by
    intro  x1 x2 x3 t0 t1 S H locs ls h hsh hG hl
    unfold wX9_shown_31 at h
    obtain ⟨hk42, hq43, h⟩ := h
    refine r_put (ci := 9) (C := RX9) (T := TX9) (N := 36) hx hb hts hin9 tyX9 tyX9_ok nmX9 hown hK hG hk42 (cell_9 hq43) rfl 32 (by decide) lk_84 (fun _ h9 => h9) rfl rfl rfl (Nat.le_of_ble_eq_true rfl) (S' := sX S t0 32 t1) rfl (pu_9_32 hq43 t1) dX9_shown_31 (fun H locs hG => ?_)
    obtain ⟨S44, eS_S44⟩ : ∃ z : GS, z = sX S t0 32 t1 := ⟨_, rfl⟩
    have h := h S44 eS_S44
    rw [← eS_S44] at hG
    have hs_S44 : gSh S44 S := by rw [eS_S44]; exact gSh.x _ _ _ _
    have hsh := hs_S44.tr hsh
    have hk45 := hs_S44.lt hk42
    have hq46 := hs_S44.kd hq43
    refine lv_aload_n hx hb dX9_shown_34 rfl (lv_at hl 0 rfl) ?_
    obtain ⟨hk47, hq48, h⟩ := h
    refine g_get (ci := 9) (C := RX9) (T := TX9) (N := 36) hx hb hts hin9 hown hK hG hk47 (cell_9 hq48) rfl 32 (by decide) lk_84 (fun _ h9 => h9) (v := .int (gX S44 k0 32)) rfl dX9_shown_35 ?_
    refine lv_if_eq (tgt := 43) hx hb dX9_shown_38 (by decide) (fun c_38 => ?_) (fun c_38 => ?_)
    · have h := h.1 c_38
      refine lv_aload_n hx hb dX9_shown_43 rfl (lv_at hl 0 rfl) ?_
      refine lv_iload_n hx hb dX9_shown_44 rfl (lv_at hl 1 rfl) ?_
      refine lv_iload_n hx hb dX9_shown_45 rfl (lv_at hl 2 rfl) ?_
      refine r_callV (za := za) (k := k0) (ci := 9) (C := RX9) (T := TX9) (N := 36) (As := [vI x1, vI x2]) (rest := []) (tX9_lineOf l S44 k0 x1 x2 _ h) ⟨hx, hb, hml, hown, hts⟩ (cwV 2 hts gX9_shown_X9_lineOf rfl rfl rfl (by decide +kernel) ⟨by decide, by decide⟩) hK hG hA hk47 (cell_9 hq48) rfl rfl hl.1 rfl (Nat.le_of_ble_eq_true rfl) ⟨Nat.le_refl _, Nat.le_refl _⟩ dX9_shown_46 (fun r_9 S49 H locs hp hs_S49 hG => ?_)
      obtain ⟨u50, rfl, h⟩ := hp
      have h := h hs_S49
      refine W.eq (g2 := F0 m 49 ls [.int u50]) rfl ?_
      have hsh := hs_S49.tr hsh
      have hk51 := hs_S49.lt hk45
      have hq52 := hs_S49.kd hq46
      have hk53 := hs_S49.lt hk47
      have hq54 := hs_S49.kd hq48
      refine lv_istore (lv' := [(4, .int u50), (0, .ref (ad k0)), (1, .int x1), (2, .int x2), (3, .int x3)]) hx hb dX9_shown_49 hl (by decide) rfl (fun ls hl => ?_)
      refine lv_aload_n hx hb dX9_shown_51 rfl (lv_at hl 1 rfl) ?_
      refine lv_aload_n hx hb dX9_shown_52 rfl (lv_at hl 1 rfl) ?_
      refine g_get (ci := 9) (C := RX9) (T := TX9) (N := 36) hx hb hts hin9 hown hK hG hk53 (cell_9 hq54) rfl 12 (by decide) lk_35 (fun _ h9 => h9) (v := rv ad (gR S49 k0 12)) rfl dX9_shown_53 ?_
      refine lv_iload hx hb dX9_shown_56 (lv_at hl 0 rfl) ?_
      obtain ⟨q55, e56, h⟩ := h
      refine W.eq (g2 := F0 m 58 ls [.int u50, .ref (ad q55), .ref (ad k0)]) (by rw [e56]; rfl) ?_
      obtain ⟨hk57, hq58, h⟩ := h
      obtain ⟨hi59, h⟩ := h
      refine r_iald hx hb hK hG hk57 hq58 hi59 dX9_shown_58 ?_
      refine lv_aload_n hx hb dX9_shown_59 rfl (lv_at hl 1 rfl) ?_
      refine g_get (ci := 9) (C := RX9) (T := TX9) (N := 36) hx hb hts hin9 hown hK hG hk53 (cell_9 hq54) rfl 13 (by decide) lk_38 (fun _ h9 => h9) (v := rv ad (gR S49 k0 13)) rfl dX9_shown_60 ?_
      refine lv_iload hx hb dX9_shown_63 (lv_at hl 0 rfl) ?_
      obtain ⟨q60, e61, h⟩ := h
      refine W.eq (g2 := F0 m 65 ls [.int u50, .ref (ad q60), .int (gX S49 q55 (Int32.toNatClampNeg u50)), .ref (ad k0)]) (by rw [e61]; rfl) ?_
      obtain ⟨hk62, hq63, h⟩ := h
      obtain ⟨hi64, h⟩ := h
      refine r_iald hx hb hK hG hk62 hq63 hi64 dX9_shown_65 ?_
      refine lv_aload_n hx hb dX9_shown_66 rfl (lv_at hl 1 rfl) ?_
      refine g_get (ci := 9) (C := RX9) (T := TX9) (N := 36) hx hb hts hin9 hown hK hG hk53 (cell_9 hq54) rfl 14 (by decide) lk_41 (fun _ h9 => h9) (v := rv ad (gR S49 k0 14)) rfl dX9_shown_67 ?_
      refine lv_iload hx hb dX9_shown_70 (lv_at hl 0 rfl) ?_
      obtain ⟨q65, e66, h⟩ := h
      refine W.eq (g2 := F0 m 72 ls [.int u50, .ref (ad q65), .int (gX S49 q60 (Int32.toNatClampNeg u50)), .int (gX S49 q55 (Int32.toNatClampNeg u50)), .ref (ad k0)]) (by rw [e66]; rfl) ?_
      obtain ⟨hk67, hq68, h⟩ := h
      obtain ⟨hi69, h⟩ := h
      refine r_iald hx hb hK hG hk67 hq68 hi69 dX9_shown_72 ?_
      refine r_callV (za := za) (k := k0) (ci := 9) (C := RX9) (T := TX9) (N := 36) (As := [vI (gX S49 q55 (Int32.toNatClampNeg u50)), vI (gX S49 q60 (Int32.toNatClampNeg u50)), vI (gX S49 q65 (Int32.toNatClampNeg u50))]) (rest := []) (tX9_makeMould l S49 k0 (gX S49 q55 (Int32.toNatClampNeg u50)) (gX S49 q60 (Int32.toNatClampNeg u50)) (gX S49 q65 (Int32.toNatClampNeg u50)) _ h) ⟨hx, hb, hml, hown, hts⟩ (cwV 3 hts gX9_shown_X9_makeMould rfl rfl rfl (by decide +kernel) ⟨by decide, by decide⟩) hK hG hA hk53 (cell_9 hq54) rfl rfl hl.1 rfl (Nat.le_of_ble_eq_true rfl) ⟨Nat.le_refl _, Nat.le_refl _⟩ dX9_shown_73 (fun r_9 S70 H locs hp hs_S70 hG => ?_)
      obtain ⟨rfl, h⟩ := hp
      have h := h hs_S70
      refine W.eq (g2 := F0 m 76 ls []) rfl ?_
      have hsh := hs_S70.tr hsh
      have hk72 := hs_S70.lt hk51
      have hq73 := hs_S70.kd hq52
      have hk74 := hs_S70.lt hk53
      have hq75 := hs_S70.kd hq54
      have hk76 := hs_S70.lt hk57
      have hq77 := hs_S70.kd hq58
      have hk78 := hs_S70.lt hk62
      have hq79 := hs_S70.kd hq63
      have hk80 := hs_S70.lt hk67
      have hq81 := hs_S70.kd hq68
      refine lv_iload hx hb dX9_shown_76 (lv_at hl 0 rfl) ?_
      refine lv_aload_n hx hb dX9_shown_78 rfl (lv_at hl 1 rfl) ?_
      refine g_get (ci := 9) (C := RX9) (T := TX9) (N := 36) hx hb hts hin9 hown hK hG hk74 (cell_9 hq75) rfl 22 (by decide) lk_59 (fun _ h9 => h9) (v := rv ad (gR S70 k0 22)) rfl dX9_shown_79 ?_
      refine lv_iload_n hx hb dX9_shown_82 rfl (lv_at hl 2 rfl) ?_
      obtain ⟨q82, e83, h⟩ := h
      refine W.eq (g2 := F0 m 83 ls [.int x1, .ref (ad q82), .int u50]) (by rw [e83]; rfl) ?_
      obtain ⟨hk84, hq85, h⟩ := h
      obtain ⟨hi86, h⟩ := h
      refine r_iald hx hb hK hG hk84 hq85 hi86 dX9_shown_83 ?_
      refine lv_icmp_ne (tgt := 97) hx hb dX9_shown_84 (by decide) (fun c_84 => ?_) (fun c_84 => ?_)
      · have h := h.1 c_84
        refine lv_aload_n hx hb dX9_shown_97 rfl (lv_at hl 1 rfl) ?_
        refine g_get (ci := 9) (C := RX9) (T := TX9) (N := 36) hx hb hts hin9 hown hK hG hk74 (cell_9 hq75) rfl 15 (by decide) lk_44 (fun _ h9 => h9) (v := rv ad (gR S70 k0 15)) rfl dX9_shown_98 ?_
        refine lv_aload_n hx hb dX9_shown_101 rfl (lv_at hl 1 rfl) ?_
        refine g_get (ci := 9) (C := RX9) (T := TX9) (N := 36) hx hb hts hin9 hown hK hG hk74 (cell_9 hq75) rfl 21 (by decide) lk_56 (fun _ h9 => h9) (v := rv ad (gR S70 k0 21)) rfl dX9_shown_102 ?_
        refine lv_iload_n hx hb dX9_shown_105 rfl (lv_at hl 2 rfl) ?_
        obtain ⟨q87, e88, h⟩ := h
        refine W.eq (g2 := F0 m 106 ls [.int x1, .ref (ad q87), rv ad (gR S70 k0 15)]) (by rw [e88]; rfl) ?_
        obtain ⟨hk89, hq90, h⟩ := h
        obtain ⟨hi91, h⟩ := h
        refine r_iald hx hb hK hG hk89 hq90 hi91 dX9_shown_106 ?_
        obtain ⟨q92, e93, h⟩ := h
        refine W.eq (g2 := F0 m 107 ls [.int (gX S70 q87 (Int32.toNatClampNeg x1)), .ref (ad q92)]) (by rw [e93]; rfl) ?_
        obtain ⟨hk94, hq95, h⟩ := h
        obtain ⟨hi96, h⟩ := h
        refine r_iald hx hb hK hG hk94 hq95 hi96 dX9_shown_107 ?_
        exact b_108 x3 u50 (gX S70 q92 (Int32.toNatClampNeg (gX S70 q87 (Int32.toNatClampNeg x1)))) S70 H locs ls h hsh hG (lv_sub hl [1, 4, 0] rfl)
      · have h := h.2 c_84
        refine lv_aload_n hx hb dX9_shown_87 rfl (lv_at hl 1 rfl) ?_
        refine g_get (ci := 9) (C := RX9) (T := TX9) (N := 36) hx hb hts hin9 hown hK hG hk74 (cell_9 hq75) rfl 15 (by decide) lk_44 (fun _ h9 => h9) (v := rv ad (gR S70 k0 15)) rfl dX9_shown_88 ?_
        refine lv_iload hx hb dX9_shown_91 (lv_at hl 0 rfl) ?_
        obtain ⟨q97, e98, h⟩ := h
        refine W.eq (g2 := F0 m 93 ls [.int u50, .ref (ad q97)]) (by rw [e98]; rfl) ?_
        obtain ⟨hk99, hq100, h⟩ := h
        obtain ⟨hi101, h⟩ := h
        refine r_iald hx hb hK hG hk99 hq100 hi101 dX9_shown_93 ?_
        refine lv_goto (tgt := 108) hx hb dX9_shown_94 (by decide) ?_
        exact b_108 x3 u50 (gX S70 q97 (Int32.toNatClampNeg u50)) S70 H locs ls h hsh hG (lv_sub hl [1, 4, 0] rfl)
    · have h := h.2 c_38
      refine lv_iconst (v := 0) hx hb dX9_shown_41 (by decide) ?_
      exact W.iret (v := 0) hx hb hr (fun t ht hW => r_end (r := some (vI 0)) hAe hG hsh ⟨_, rfl, h⟩ rfl ht) hG.2.2.2.2 dX9_shown_42
  have b_30 : ∀  (x1 : Int32) (x2 : Int32) (x3 : Int32) (t0 : Nat) (S : GS) (H : Heap) (locs : List Loc) (ls : Array Slot), wX9_shown_30 Q k0 x1 x2 x3 t0 S → gSh S S0 → gS D Y ad A s.heap S H locs → lv_has ls 6 [(0, .ref (ad k0)), (1, .int x1), (2, .int x2), (3, .int x3)] → W p l e (rmD 4) s m args below meth c H locs 0 0 (MQ below (gE D Y za ad S0 s.heap.size (fun r S9 => ∃ x, r = some (vI x) ∧ Q x S9)) args s 0 0 A) (F0 m 30 ls [.ref (ad t0)]) := by
    intro  x1 x2 x3 t0 S H locs ls h hsh hG hl
    unfold wX9_shown_30 at h
    refine lv_iconst (v := 1) hx hb dX9_shown_30 (by decide) ?_
    exact b_31 x1 x2 x3 t0 1 S H locs ls h hsh hG (lv_sub hl [0, 1, 2, 3] rfl)
  have hl : lv_has ls 6 [(0, .ref (ad k0)), (1, .int x1), (2, .int x2), (3, .int x3)] := hl
  have hsh : gSh S S0 := by rw [hS0]; exact gSh.rf S
  obtain ⟨H, eH⟩ : ∃ z : Heap, z = s.heap := ⟨_, rfl⟩
  obtain ⟨locs, eL⟩ : ∃ z : List Loc, z = [] := ⟨_, rfl⟩
  have hG : gS D Y ad A s.heap S H locs := by rw [eH, eL]; exact hG
  suffices hgoal : W p l e (rmD 4) s m args below meth c H locs 0 0 (MQ below (gE D Y za ad S0 s.heap.size (fun r S9 => ∃ x, r = some (vI x) ∧ Q x S9)) args s 0 0 A) (F0 m 0 ls []) by rw [eH, eL] at hgoal; exact hgoal
  unfold wX9_shown at h
  refine lv_aload_n hx hb dX9_shown_0 rfl (lv_at hl 0 rfl) ?_
  refine lv_aload_n hx hb dX9_shown_1 rfl (lv_at hl 0 rfl) ?_
  refine lv_iload_n hx hb dX9_shown_2 rfl (lv_at hl 1 rfl) ?_
  obtain ⟨hk102, hq103, h⟩ := h
  refine r_callV (za := za) (k := k0) (ci := 9) (C := RX9) (T := TX9) (N := 36) (As := [vI x1]) (rest := [.ref (ad k0)]) (tX9_isEvent l S k0 x1 _ h) ⟨hx, hb, hml, hown, hts⟩ (cwV 1 hts gX9_shown_X9_isEvent rfl rfl rfl (by decide +kernel) ⟨by decide, by decide⟩) hK hG hA hk102 (cell_9 hq103) rfl rfl hl.1 rfl (Nat.le_of_ble_eq_true rfl) ⟨Nat.le_refl _, Nat.le_refl _⟩ dX9_shown_3 (fun r_9 S104 H locs hp hs_S104 hG => ?_)
  obtain ⟨u105, rfl, h⟩ := hp
  have h := h hs_S104
  refine W.eq (g2 := F0 m 6 ls [.int u105, .ref (ad k0)]) rfl ?_
  have hsh := hs_S104.tr hsh
  have hk106 := hs_S104.lt hk102
  have hq107 := hs_S104.kd hq103
  refine lv_if_eq (tgt := 30) hx hb dX9_shown_6 (by decide) (fun c_6 => ?_) (fun c_6 => ?_)
  · have h := h.1 c_6
    exact b_30 x1 x2 x3 k0 S104 H locs ls h hsh hG (lv_sub hl [0, 1, 2, 3] rfl)
  · have h := h.2 c_6
    refine lv_iload_n hx hb dX9_shown_9 rfl (lv_at hl 2 rfl) ?_
    refine lv_if_lt (tgt := 30) hx hb dX9_shown_10 (by decide) (fun c_10 => ?_) (fun c_10 => ?_)
    · have h := h.1 c_10
      exact b_30 x1 x2 x3 k0 S104 H locs ls h hsh hG (lv_sub hl [0, 1, 2, 3] rfl)
    · have h := h.2 c_10
      refine lv_iload_n hx hb dX9_shown_13 rfl (lv_at hl 2 rfl) ?_
      refine lv_aload_n hx hb dX9_shown_14 rfl (lv_at hl 0 rfl) ?_
      refine lv_iload_n hx hb dX9_shown_15 rfl (lv_at hl 1 rfl) ?_
      refine r_callV (za := za) (k := k0) (ci := 9) (C := RX9) (T := TX9) (N := 36) (As := [vI x1]) (rest := [.int x2, .ref (ad k0)]) (tX9_linesOf l S104 k0 x1 _ h) ⟨hx, hb, hml, hown, hts⟩ (cwV 1 hts gX9_shown_X9_linesOf rfl rfl rfl (by decide +kernel) ⟨by decide, by decide⟩) hK hG hA hk106 (cell_9 hq107) rfl rfl hl.1 rfl (Nat.le_of_ble_eq_true rfl) ⟨Nat.le_refl _, Nat.le_refl _⟩ dX9_shown_16 (fun r_9 S108 H locs hp hs_S108 hG => ?_)
      obtain ⟨u109, rfl, h⟩ := hp
      have h := h hs_S108
      refine W.eq (g2 := F0 m 19 ls [.int u109, .int x2, .ref (ad k0)]) rfl ?_
      have hsh := hs_S108.tr hsh
      have hk110 := hs_S108.lt hk106
      have hq111 := hs_S108.kd hq107
      refine lv_icmp_ge (tgt := 30) hx hb dX9_shown_19 (by decide) (fun c_19 => ?_) (fun c_19 => ?_)
      · have h := h.1 c_19
        exact b_30 x1 x2 x3 k0 S108 H locs ls h hsh hG (lv_sub hl [0, 1, 2, 3] rfl)
      · have h := h.2 c_19
        refine lv_iload_n hx hb dX9_shown_22 rfl (lv_at hl 3 rfl) ?_
        refine lv_if_lt (tgt := 30) hx hb dX9_shown_23 (by decide) (fun c_23 => ?_) (fun c_23 => ?_)
        · have h := h.1 c_23
          exact b_30 x1 x2 x3 k0 S108 H locs ls h hsh hG (lv_sub hl [0, 1, 2, 3] rfl)
        · have h := h.2 c_23
          refine lv_iconst (v := 0) hx hb dX9_shown_26 (by decide) ?_
          refine lv_goto (tgt := 31) hx hb dX9_shown_27 (by decide) ?_
          exact b_31 x1 x2 x3 k0 0 S108 H locs ls h hsh hG (lv_sub hl [0, 1, 2, 3] rfl)
def wX9_diagnostic_88 (Q : Int32 → GS → Prop) (k0 : Nat) (t0 : Int32) (S : GS) : Prop :=
  Q t0 S
def wX9_diagnostic_32 (Q : Int32 → GS → Prop) (k0 : Nat) (x1 : Int32) (x2 : Int32) (t0 : Nat) (t1 : Int32) (S : GS) : Prop :=
  t0 < gN S ∧ gK S t0 = 9 ∧ ∀ S3 : GS, S3 = sX S t0 32 t1 → k0 < gN S3 ∧ gK S3 k0 = 9 ∧ ((gX S3 k0 32) = 0 → (¬ x2 = 0 → (¬ x2 = 1 → ∃ q8 : Nat, gR S3 k0 28 = some q8 ∧ q8 < gN S3 ∧ gK S3 q8 = 11 ∧ vp_in (((gX S3 k0 29) - 1) - x1) (gL S3 q8) ∧ wX9_diagnostic_88 Q k0 (gX S3 q8 (Int32.toNatClampNeg (((gX S3 k0 29) - 1) - x1))) S3) ∧ (x2 = 1 → ∃ q13 : Nat, gR S3 k0 27 = some q13 ∧ q13 < gN S3 ∧ gK S3 q13 = 11 ∧ vp_in (((gX S3 k0 29) - 1) - x1) (gL S3 q13) ∧ wX9_diagnostic_88 Q k0 ((gX S3 q13 (Int32.toNatClampNeg (((gX S3 k0 29) - 1) - x1))) + 1) S3)) ∧ (x2 = 0 → ∃ q18 : Nat, gR S3 k0 26 = some q18 ∧ q18 < gN S3 ∧ gK S3 q18 = 11 ∧ vp_in (((gX S3 k0 29) - 1) - x1) (gL S3 q18) ∧ wX9_diagnostic_88 Q k0 (gX S3 q18 (Int32.toNatClampNeg (((gX S3 k0 29) - 1) - x1))) S3)) ∧ (¬ (gX S3 k0 32) = 0 → Q 0 S3)
def wX9_diagnostic_31 (Q : Int32 → GS → Prop) (k0 : Nat) (x1 : Int32) (x2 : Int32) (t0 : Nat) (S : GS) : Prop :=
  wX9_diagnostic_32 Q k0 x1 x2 t0 1 S
def wX9_diagnostic (S : GS) (k0 : Nat) (x1 : Int32) (x2 : Int32) (Q : Int32 → GS → Prop) : Prop :=
  (x1 < 0 → wX9_diagnostic_31 Q k0 x1 x2 k0 S) ∧ (¬ x1 < 0 → ((12 : Int32) ≤ x1 → wX9_diagnostic_31 Q k0 x1 x2 k0 S) ∧ (¬ (12 : Int32) ≤ x1 → k0 < gN S ∧ gK S k0 = 9 ∧ ((gX S k0 29) ≤ x1 → wX9_diagnostic_31 Q k0 x1 x2 k0 S) ∧ (¬ (gX S k0 29) ≤ x1 → wX9_tells S x2 2 (fun u26 S25 => gSh S25 S → (u26 = 0 → wX9_diagnostic_31 Q k0 x1 x2 k0 S25) ∧ (¬ u26 = 0 → wX9_diagnostic_32 Q k0 x1 x2 k0 0 S25)))))
set_option maxHeartbeats 4000000 in
set_option maxRecDepth 100000 in
theorem tX9_diagnostic (l : Launch) (S : GS) (k0 : Nat) (x1 : Int32) (x2 : Int32) (Q : Int32 → GS → Prop) (h : wX9_diagnostic S k0 x1 x2 Q) : CS l yX9_diagnostic wsX9_diagnostic 1 S [vR (some k0), vI x1, vI x2] (fun r S9 => ∃ x, r = some (vI x) ∧ Q x S9) := by
  refine CS.ofW (cc := cX9_diagnostic) (maxL := 4) (ret := (some .int)) RX9 (by decide) rfl rfl (fun _ _ => Nat.le_of_ble_eq_true rfl) ?_
  intro p e s m args below meth c D Y za ad A ls hAe hx hb hr hml hts hown hlocks hK hA hG hl
  obtain ⟨S0, hS0⟩ : ∃ z : GS, z = S := ⟨_, rfl⟩
  rw [← hS0] at hAe
  rw [← hS0]
  have hin9 : ∀ w ∈ wsX90, w ∈ wsX9_diagnostic := by decide +kernel
  have lk_208 := hts (.fieldLink RX9 208 "PauseLogModel" "problems" "I") (by decide +kernel)
  have lk_84 := hts (.fieldLink RX9 84 "PauseLogModel" "thrown" "I") (by decide +kernel)
  have lk_68 := hts (.fieldLink RX9 68 "PauseLogModel" "problem" "[I") (by decide +kernel)
  have lk_71 := hts (.fieldLink RX9 71 "PauseLogModel" "problemLine" "[I") (by decide +kernel)
  have lk_74 := hts (.fieldLink RX9 74 "PauseLogModel" "problemFault" "[I") (by decide +kernel)
  have b_88 : ∀  (t0 : Int32) (S : GS) (H : Heap) (locs : List Loc) (ls : Array Slot), wX9_diagnostic_88 Q k0 t0 S → gSh S S0 → gS D Y ad A s.heap S H locs → lv_has ls 4 [] → W p l e (rmD 1) s m args below meth c H locs 0 0 (MQ below (gE D Y za ad S0 s.heap.size (fun r S9 => ∃ x, r = some (vI x) ∧ Q x S9)) args s 0 0 A) (F0 m 88 ls [.int t0]) := by
    intro  t0 S H locs ls h hsh hG hl
    unfold wX9_diagnostic_88 at h
    exact W.iret (v := t0) hx hb hr (fun t ht hW => r_end (r := some (vI t0)) hAe hG hsh ⟨_, rfl, h⟩ rfl ht) hG.2.2.2.2 dX9_diagnostic_88
  have b_32 : ∀  (x1 : Int32) (x2 : Int32) (t0 : Nat) (t1 : Int32) (S : GS) (H : Heap) (locs : List Loc) (ls : Array Slot), wX9_diagnostic_32 Q k0 x1 x2 t0 t1 S → gSh S S0 → gS D Y ad A s.heap S H locs → lv_has ls 4 [(0, .ref (ad k0)), (1, .int x1), (2, .int x2)] → W p l e (rmD 1) s m args below meth c H locs 0 0 (MQ below (gE D Y za ad S0 s.heap.size (fun r S9 => ∃ x, r = some (vI x) ∧ Q x S9)) args s 0 0 A) (F0 m 32 ls [.int t1, .ref (ad t0)]) := by
    intro  x1 x2 t0 t1 S H locs ls h hsh hG hl
    unfold wX9_diagnostic_32 at h
    obtain ⟨hk1, hq2, h⟩ := h
    refine r_put (ci := 9) (C := RX9) (T := TX9) (N := 36) hx hb hts hin9 tyX9 tyX9_ok nmX9 hown hK hG hk1 (cell_9 hq2) rfl 32 (by decide) lk_84 (fun _ h9 => h9) rfl rfl rfl (Nat.le_of_ble_eq_true rfl) (S' := sX S t0 32 t1) rfl (pu_9_32 hq2 t1) dX9_diagnostic_32 (fun H locs hG => ?_)
    obtain ⟨S3, eS_S3⟩ : ∃ z : GS, z = sX S t0 32 t1 := ⟨_, rfl⟩
    have h := h S3 eS_S3
    rw [← eS_S3] at hG
    have hs_S3 : gSh S3 S := by rw [eS_S3]; exact gSh.x _ _ _ _
    have hsh := hs_S3.tr hsh
    have hk4 := hs_S3.lt hk1
    have hq5 := hs_S3.kd hq2
    refine lv_aload_n hx hb dX9_diagnostic_35 rfl (lv_at hl 0 rfl) ?_
    obtain ⟨hk6, hq7, h⟩ := h
    refine g_get (ci := 9) (C := RX9) (T := TX9) (N := 36) hx hb hts hin9 hown hK hG hk6 (cell_9 hq7) rfl 32 (by decide) lk_84 (fun _ h9 => h9) (v := .int (gX S3 k0 32)) rfl dX9_diagnostic_36 ?_
    refine lv_if_eq (tgt := 44) hx hb dX9_diagnostic_39 (by decide) (fun c_39 => ?_) (fun c_39 => ?_)
    · have h := h.1 c_39
      refine lv_aload_n hx hb dX9_diagnostic_44 rfl (lv_at hl 0 rfl) ?_
      refine g_get (ci := 9) (C := RX9) (T := TX9) (N := 36) hx hb hts hin9 hown hK hG hk6 (cell_9 hq7) rfl 29 (by decide) lk_208 (fun _ h9 => h9) (v := .int (gX S3 k0 29)) rfl dX9_diagnostic_45 ?_
      refine lv_iconst (v := 1) hx hb dX9_diagnostic_48 (by decide) ?_
      refine lv_isub hx hb dX9_diagnostic_49 ?_
      refine lv_iload_n hx hb dX9_diagnostic_50 rfl (lv_at hl 1 rfl) ?_
      refine lv_isub hx hb dX9_diagnostic_51 ?_
      refine lv_istore_n (lv' := [(3, .int (((gX S3 k0 29) - 1) - x1)), (0, .ref (ad k0)), (1, .int x1), (2, .int x2)]) hx hb dX9_diagnostic_52 rfl hl (by decide) rfl (fun ls hl => ?_)
      refine lv_iload_n hx hb dX9_diagnostic_53 rfl (lv_at hl 3 rfl) ?_
      refine lv_if_ne (tgt := 66) hx hb dX9_diagnostic_54 (by decide) (fun c_54 => ?_) (fun c_54 => ?_)
      · have h := h.1 c_54
        refine lv_iload_n hx hb dX9_diagnostic_66 rfl (lv_at hl 3 rfl) ?_
        refine lv_iconst (v := 1) hx hb dX9_diagnostic_67 (by decide) ?_
        refine lv_icmp_ne (tgt := 82) hx hb dX9_diagnostic_68 (by decide) (fun c_68 => ?_) (fun c_68 => ?_)
        · have h := h.1 c_68
          refine lv_aload_n hx hb dX9_diagnostic_82 rfl (lv_at hl 1 rfl) ?_
          refine g_get (ci := 9) (C := RX9) (T := TX9) (N := 36) hx hb hts hin9 hown hK hG hk6 (cell_9 hq7) rfl 28 (by decide) lk_74 (fun _ h9 => h9) (v := rv ad (gR S3 k0 28)) rfl dX9_diagnostic_83 ?_
          refine lv_iload_n hx hb dX9_diagnostic_86 rfl (lv_at hl 0 rfl) ?_
          obtain ⟨q8, e9, h⟩ := h
          refine W.eq (g2 := F0 m 87 ls [.int (((gX S3 k0 29) - 1) - x1), .ref (ad q8)]) (by rw [e9]; rfl) ?_
          obtain ⟨hk10, hq11, h⟩ := h
          obtain ⟨hi12, h⟩ := h
          refine r_iald hx hb hK hG hk10 hq11 hi12 dX9_diagnostic_87 ?_
          exact b_88 (gX S3 q8 (Int32.toNatClampNeg (((gX S3 k0 29) - 1) - x1))) S3 H locs ls h hsh hG (lv_sub hl [] rfl)
        · have h := h.2 c_68
          refine lv_aload_n hx hb dX9_diagnostic_71 rfl (lv_at hl 1 rfl) ?_
          refine g_get (ci := 9) (C := RX9) (T := TX9) (N := 36) hx hb hts hin9 hown hK hG hk6 (cell_9 hq7) rfl 27 (by decide) lk_71 (fun _ h9 => h9) (v := rv ad (gR S3 k0 27)) rfl dX9_diagnostic_72 ?_
          refine lv_iload_n hx hb dX9_diagnostic_75 rfl (lv_at hl 0 rfl) ?_
          obtain ⟨q13, e14, h⟩ := h
          refine W.eq (g2 := F0 m 76 ls [.int (((gX S3 k0 29) - 1) - x1), .ref (ad q13)]) (by rw [e14]; rfl) ?_
          obtain ⟨hk15, hq16, h⟩ := h
          obtain ⟨hi17, h⟩ := h
          refine r_iald hx hb hK hG hk15 hq16 hi17 dX9_diagnostic_76 ?_
          refine lv_iconst (v := 1) hx hb dX9_diagnostic_77 (by decide) ?_
          refine lv_iadd hx hb dX9_diagnostic_78 ?_
          refine lv_goto (tgt := 88) hx hb dX9_diagnostic_79 (by decide) ?_
          exact b_88 ((gX S3 q13 (Int32.toNatClampNeg (((gX S3 k0 29) - 1) - x1))) + 1) S3 H locs ls h hsh hG (lv_sub hl [] rfl)
      · have h := h.2 c_54
        refine lv_aload_n hx hb dX9_diagnostic_57 rfl (lv_at hl 1 rfl) ?_
        refine g_get (ci := 9) (C := RX9) (T := TX9) (N := 36) hx hb hts hin9 hown hK hG hk6 (cell_9 hq7) rfl 26 (by decide) lk_68 (fun _ h9 => h9) (v := rv ad (gR S3 k0 26)) rfl dX9_diagnostic_58 ?_
        refine lv_iload_n hx hb dX9_diagnostic_61 rfl (lv_at hl 0 rfl) ?_
        obtain ⟨q18, e19, h⟩ := h
        refine W.eq (g2 := F0 m 62 ls [.int (((gX S3 k0 29) - 1) - x1), .ref (ad q18)]) (by rw [e19]; rfl) ?_
        obtain ⟨hk20, hq21, h⟩ := h
        obtain ⟨hi22, h⟩ := h
        refine r_iald hx hb hK hG hk20 hq21 hi22 dX9_diagnostic_62 ?_
        refine lv_goto (tgt := 88) hx hb dX9_diagnostic_63 (by decide) ?_
        exact b_88 (gX S3 q18 (Int32.toNatClampNeg (((gX S3 k0 29) - 1) - x1))) S3 H locs ls h hsh hG (lv_sub hl [] rfl)
    · have h := h.2 c_39
      refine lv_iconst (v := 0) hx hb dX9_diagnostic_42 (by decide) ?_
      exact W.iret (v := 0) hx hb hr (fun t ht hW => r_end (r := some (vI 0)) hAe hG hsh ⟨_, rfl, h⟩ rfl ht) hG.2.2.2.2 dX9_diagnostic_43
  have b_31 : ∀  (x1 : Int32) (x2 : Int32) (t0 : Nat) (S : GS) (H : Heap) (locs : List Loc) (ls : Array Slot), wX9_diagnostic_31 Q k0 x1 x2 t0 S → gSh S S0 → gS D Y ad A s.heap S H locs → lv_has ls 4 [(0, .ref (ad k0)), (1, .int x1), (2, .int x2)] → W p l e (rmD 1) s m args below meth c H locs 0 0 (MQ below (gE D Y za ad S0 s.heap.size (fun r S9 => ∃ x, r = some (vI x) ∧ Q x S9)) args s 0 0 A) (F0 m 31 ls [.ref (ad t0)]) := by
    intro  x1 x2 t0 S H locs ls h hsh hG hl
    unfold wX9_diagnostic_31 at h
    refine lv_iconst (v := 1) hx hb dX9_diagnostic_31 (by decide) ?_
    exact b_32 x1 x2 t0 1 S H locs ls h hsh hG (lv_sub hl [0, 1, 2] rfl)
  have hl : lv_has ls 4 [(0, .ref (ad k0)), (1, .int x1), (2, .int x2)] := hl
  have hsh : gSh S S0 := by rw [hS0]; exact gSh.rf S
  obtain ⟨H, eH⟩ : ∃ z : Heap, z = s.heap := ⟨_, rfl⟩
  obtain ⟨locs, eL⟩ : ∃ z : List Loc, z = [] := ⟨_, rfl⟩
  have hG : gS D Y ad A s.heap S H locs := by rw [eH, eL]; exact hG
  suffices hgoal : W p l e (rmD 1) s m args below meth c H locs 0 0 (MQ below (gE D Y za ad S0 s.heap.size (fun r S9 => ∃ x, r = some (vI x) ∧ Q x S9)) args s 0 0 A) (F0 m 0 ls []) by rw [eH, eL] at hgoal; exact hgoal
  unfold wX9_diagnostic at h
  refine lv_aload_n hx hb dX9_diagnostic_0 rfl (lv_at hl 0 rfl) ?_
  refine lv_iload_n hx hb dX9_diagnostic_1 rfl (lv_at hl 1 rfl) ?_
  refine lv_if_lt (tgt := 31) hx hb dX9_diagnostic_2 (by decide) (fun c_2 => ?_) (fun c_2 => ?_)
  · have h := h.1 c_2
    exact b_31 x1 x2 k0 S H locs ls h hsh hG (lv_sub hl [0, 1, 2] rfl)
  · have h := h.2 c_2
    refine lv_iload_n hx hb dX9_diagnostic_5 rfl (lv_at hl 1 rfl) ?_
    refine lv_bipush (v := 12) hx hb dX9_diagnostic_6 (by decide) ?_
    refine lv_icmp_ge (tgt := 31) hx hb dX9_diagnostic_8 (by decide) (fun c_8 => ?_) (fun c_8 => ?_)
    · have h := h.1 c_8
      exact b_31 x1 x2 k0 S H locs ls h hsh hG (lv_sub hl [0, 1, 2] rfl)
    · have h := h.2 c_8
      refine lv_iload_n hx hb dX9_diagnostic_11 rfl (lv_at hl 1 rfl) ?_
      refine lv_aload_n hx hb dX9_diagnostic_12 rfl (lv_at hl 0 rfl) ?_
      obtain ⟨hk23, hq24, h⟩ := h
      refine g_get (ci := 9) (C := RX9) (T := TX9) (N := 36) hx hb hts hin9 hown hK hG hk23 (cell_9 hq24) rfl 29 (by decide) lk_208 (fun _ h9 => h9) (v := .int (gX S k0 29)) rfl dX9_diagnostic_13 ?_
      refine lv_icmp_ge (tgt := 31) hx hb dX9_diagnostic_16 (by decide) (fun c_16 => ?_) (fun c_16 => ?_)
      · have h := h.1 c_16
        exact b_31 x1 x2 k0 S H locs ls h hsh hG (lv_sub hl [0, 1, 2] rfl)
      · have h := h.2 c_16
        refine lv_iload_n hx hb dX9_diagnostic_19 rfl (lv_at hl 2 rfl) ?_
        refine lv_iconst (v := 2) hx hb dX9_diagnostic_20 (by decide) ?_
        refine r_callS (za := za) (As := [vI x2, vI 2]) (rest := [.ref (ad k0)]) (tX9_tells l S x2 2 _ h) ⟨hx, hb, hml, hown, hts⟩ (cwS 2 hts gX9_diagnostic_X9_tells rfl rfl rfl (by decide +kernel) ⟨by decide, by decide⟩) hK hG hA rfl hl.1 rfl (Nat.le_of_ble_eq_true rfl) ⟨Nat.le_refl _, Nat.le_refl _⟩ dX9_diagnostic_21 (fun r_9 S25 H locs hp hs_S25 hG => ?_)
        obtain ⟨u26, rfl, h⟩ := hp
        have h := h hs_S25
        refine W.eq (g2 := F0 m 24 ls [.int u26, .ref (ad k0)]) rfl ?_
        have hsh := hs_S25.tr hsh
        have hk27 := hs_S25.lt hk23
        have hq28 := hs_S25.kd hq24
        refine lv_if_eq (tgt := 31) hx hb dX9_diagnostic_24 (by decide) (fun c_24 => ?_) (fun c_24 => ?_)
        · have h := h.1 c_24
          exact b_31 x1 x2 k0 S25 H locs ls h hsh hG (lv_sub hl [0, 1, 2] rfl)
        · have h := h.2 c_24
          refine lv_iconst (v := 0) hx hb dX9_diagnostic_27 (by decide) ?_
          refine lv_goto (tgt := 32) hx hb dX9_diagnostic_28 (by decide) ?_
          exact b_32 x1 x2 k0 0 S25 H locs ls h hsh hG (lv_sub hl [0, 1, 2] rfl)
