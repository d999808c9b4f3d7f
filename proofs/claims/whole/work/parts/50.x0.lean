def wX0_has_23 (Q : Int32 → GS → Prop) (k0 : Nat) (t0 : Int32) (S : GS) : Prop :=
  (t0 = 0 ∨ t0 = 1) ∧ Q t0 S
def wX0_has_22 (Q : Int32 → GS → Prop) (k0 : Nat)  (S : GS) : Prop :=
  wX0_has_23 Q k0 0 S
def wX0_has (S : GS) (k0 : Nat) (x1 : Int32) (Q : Int32 → GS → Prop) : Prop :=
  (x1 < 0 → wX0_has_22 Q k0  S) ∧ (¬ x1 < 0 → k0 < gN S ∧ gK S k0 = 0 ∧ ((gX S k0 3) ≤ x1 → wX0_has_22 Q k0  S) ∧ (¬ (gX S k0 3) ≤ x1 → ((12 : Int32) ≤ x1 → wX0_has_22 Q k0  S) ∧ (¬ (12 : Int32) ≤ x1 → wX0_has_23 Q k0 1 S)))
set_option maxHeartbeats 4000000 in
set_option maxRecDepth 100000 in
theorem tX0_has (l : Launch) (S : GS) (k0 : Nat) (x1 : Int32) (Q : Int32 → GS → Prop) (h : wX0_has S k0 x1 Q) : CS l yX0_has wsX0_has 0 S [vR (some k0), vI x1] (fun r S9 => ∃ x, r = some (vI x) ∧ Q x S9) := by
  refine CS.ofW (cc := cX0_has) (maxL := 2) (ret := (some .boolean)) RX0 (by decide) rfl rfl (fun _ _ => Nat.le_of_ble_eq_true rfl) ?_
  intro p e s m args below meth c D Y za ad A ls hAe hx hb hr hml hts hown hlocks hK hA hG hl
  obtain ⟨S0, hS0⟩ : ∃ z : GS, z = S := ⟨_, rfl⟩
  rw [← hS0] at hAe
  rw [← hS0]
  have hin0 : ∀ w ∈ wsX00, w ∈ wsX0_has := by decide +kernel
  have lk_21 := hts (.fieldLink RX0 21 "PauseLog$Diagnostics" "made" "I") (by decide +kernel)
  have b_23 : ∀  (t0 : Int32) (S : GS) (H : Heap) (locs : List Loc) (ls : Array Slot), wX0_has_23 Q k0 t0 S → gSh S S0 → gS D Y ad A s.heap S H locs → lv_has ls 2 [] → W p l e (rmD 0) s m args below meth c H locs 0 0 (MQ below (gE D Y za ad S0 s.heap.size (fun r S9 => ∃ x, r = some (vI x) ∧ Q x S9)) args s 0 0 A) (F0 m 23 ls [.int t0]) := by
    intro  t0 S H locs ls h hsh hG hl
    unfold wX0_has_23 at h
    obtain ⟨hz1, h⟩ := h
    exact W.zret (v := t0) hx hb hr (nar01 hz1) (fun t ht hW => r_end (r := some (vI t0)) hAe hG hsh ⟨_, rfl, h⟩ rfl ht) hG.2.2.2.2 dX0_has_23
  have b_22 : ∀   (S : GS) (H : Heap) (locs : List Loc) (ls : Array Slot), wX0_has_22 Q k0  S → gSh S S0 → gS D Y ad A s.heap S H locs → lv_has ls 2 [] → W p l e (rmD 0) s m args below meth c H locs 0 0 (MQ below (gE D Y za ad S0 s.heap.size (fun r S9 => ∃ x, r = some (vI x) ∧ Q x S9)) args s 0 0 A) (F0 m 22 ls []) := by
    intro   S H locs ls h hsh hG hl
    unfold wX0_has_22 at h
    refine lv_iconst (v := 0) hx hb dX0_has_22 (by decide) ?_
    exact b_23 0 S H locs ls h hsh hG (lv_sub hl [] rfl)
  have hl : lv_has ls 2 [(0, .ref (ad k0)), (1, .int x1)] := hl
  have hsh : gSh S S0 := by rw [hS0]; exact gSh.rf S
  obtain ⟨H, eH⟩ : ∃ z : Heap, z = s.heap := ⟨_, rfl⟩
  obtain ⟨locs, eL⟩ : ∃ z : List Loc, z = [] := ⟨_, rfl⟩
  have hG : gS D Y ad A s.heap S H locs := by rw [eH, eL]; exact hG
  suffices hgoal : W p l e (rmD 0) s m args below meth c H locs 0 0 (MQ below (gE D Y za ad S0 s.heap.size (fun r S9 => ∃ x, r = some (vI x) ∧ Q x S9)) args s 0 0 A) (F0 m 0 ls []) by rw [eH, eL] at hgoal; exact hgoal
  unfold wX0_has at h
  refine lv_iload_n hx hb dX0_has_0 rfl (lv_at hl 1 rfl) ?_
  refine lv_if_lt (tgt := 22) hx hb dX0_has_1 (by decide) (fun c_1 => ?_) (fun c_1 => ?_)
  · have h := h.1 c_1
    exact b_22  S H locs ls h hsh hG (lv_sub hl [] rfl)
  · have h := h.2 c_1
    refine lv_iload_n hx hb dX0_has_4 rfl (lv_at hl 1 rfl) ?_
    refine lv_aload_n hx hb dX0_has_5 rfl (lv_at hl 0 rfl) ?_
    obtain ⟨hk2, hq3, h⟩ := h
    refine g_get (ci := 0) (C := RX0) (T := TX0) (N := 5) hx hb hts hin0 hown hK hG hk2 (cell_0 hq3) rfl 3 (by decide) lk_21 (fun _ h9 => h9) (v := .int (gX S k0 3)) rfl dX0_has_6 ?_
    refine lv_icmp_ge (tgt := 22) hx hb dX0_has_9 (by decide) (fun c_9 => ?_) (fun c_9 => ?_)
    · have h := h.1 c_9
      exact b_22  S H locs ls h hsh hG (lv_sub hl [] rfl)
    · have h := h.2 c_9
      refine lv_iload_n hx hb dX0_has_12 rfl (lv_at hl 1 rfl) ?_
      refine lv_bipush (v := 12) hx hb dX0_has_13 (by decide) ?_
      refine lv_icmp_ge (tgt := 22) hx hb dX0_has_15 (by decide) (fun c_15 => ?_) (fun c_15 => ?_)
      · have h := h.1 c_15
        exact b_22  S H locs ls h hsh hG (lv_sub hl [] rfl)
      · have h := h.2 c_15
        refine lv_iconst (v := 1) hx hb dX0_has_18 (by decide) ?_
        refine lv_goto (tgt := 23) hx hb dX0_has_19 (by decide) ?_
        exact b_23 1 S H locs ls h hsh hG (lv_sub hl [] rfl)
def wX0_fact_43 (Q : Int32 → GS → Prop) (k0 : Nat) (t0 : Int32) (S : GS) : Prop :=
  Q t0 S
def wX0_fact (S : GS) (k0 : Nat) (x1 : Int32) (x2 : Int32) (Q : Int32 → GS → Prop) : Prop :=
  k0 < gN S ∧ gK S k0 = 0 ∧ wX0_has S k0 x1 (fun u4 S3 => gSh S3 S → (¬ u4 = 0 → (¬ x2 = 0 → (¬ x2 = 1 → ∃ q7 : Nat, gR S3 k0 2 = some q7 ∧ q7 < gN S3 ∧ gK S3 q7 = 11 ∧ vp_in x1 (gL S3 q7) ∧ wX0_fact_43 Q k0 (gX S3 q7 (Int32.toNatClampNeg x1)) S3) ∧ (x2 = 1 → ∃ q12 : Nat, gR S3 k0 1 = some q12 ∧ q12 < gN S3 ∧ gK S3 q12 = 11 ∧ vp_in x1 (gL S3 q12) ∧ wX0_fact_43 Q k0 (gX S3 q12 (Int32.toNatClampNeg x1)) S3)) ∧ (x2 = 0 → ∃ q17 : Nat, gR S3 k0 0 = some q17 ∧ q17 < gN S3 ∧ gK S3 q17 = 11 ∧ vp_in x1 (gL S3 q17) ∧ wX0_fact_43 Q k0 (gX S3 q17 (Int32.toNatClampNeg x1)) S3)) ∧ (u4 = 0 → Q (-1) S3))
set_option maxHeartbeats 4000000 in
set_option maxRecDepth 100000 in
theorem tX0_fact (l : Launch) (S : GS) (k0 : Nat) (x1 : Int32) (x2 : Int32) (Q : Int32 → GS → Prop) (h : wX0_fact S k0 x1 x2 Q) : CS l yX0_fact wsX0_fact 1 S [vR (some k0), vI x1, vI x2] (fun r S9 => ∃ x, r = some (vI x) ∧ Q x S9) := by
  refine CS.ofW (cc := cX0_fact) (maxL := 3) (ret := (some .int)) RX0 (by decide) rfl rfl (fun _ _ => Nat.le_of_ble_eq_true rfl) ?_
  intro p e s m args below meth c D Y za ad A ls hAe hx hb hr hml hts hown hlocks hK hA hG hl
  obtain ⟨S0, hS0⟩ : ∃ z : GS, z = S := ⟨_, rfl⟩
  rw [← hS0] at hAe
  rw [← hS0]
  have hin0 : ∀ w ∈ wsX00, w ∈ wsX0_fact := by decide +kernel
  have lk_9 := hts (.fieldLink RX0 9 "PauseLog$Diagnostics" "numbers" "[I") (by decide +kernel)
  have lk_15 := hts (.fieldLink RX0 15 "PauseLog$Diagnostics" "lineNumbers" "[I") (by decide +kernel)
  have lk_18 := hts (.fieldLink RX0 18 "PauseLog$Diagnostics" "faults" "[I") (by decide +kernel)
  have b_43 : ∀  (t0 : Int32) (S : GS) (H : Heap) (locs : List Loc) (ls : Array Slot), wX0_fact_43 Q k0 t0 S → gSh S S0 → gS D Y ad A s.heap S H locs → lv_has ls 3 [] → W p l e (rmD 1) s m args below meth c H locs 0 0 (MQ below (gE D Y za ad S0 s.heap.size (fun r S9 => ∃ x, r = some (vI x) ∧ Q x S9)) args s 0 0 A) (F0 m 43 ls [.int t0]) := by
    intro  t0 S H locs ls h hsh hG hl
    unfold wX0_fact_43 at h
    exact W.iret (v := t0) hx hb hr (fun t ht hW => r_end (r := some (vI t0)) hAe hG hsh ⟨_, rfl, h⟩ rfl ht) hG.2.2.2.2 dX0_fact_43
  have hl : lv_has ls 3 [(0, .ref (ad k0)), (1, .int x1), (2, .int x2)] := hl
  have hsh : gSh S S0 := by rw [hS0]; exact gSh.rf S
  obtain ⟨H, eH⟩ : ∃ z : Heap, z = s.heap := ⟨_, rfl⟩
  obtain ⟨locs, eL⟩ : ∃ z : List Loc, z = [] := ⟨_, rfl⟩
  have hG : gS D Y ad A s.heap S H locs := by rw [eH, eL]; exact hG
  suffices hgoal : W p l e (rmD 1) s m args below meth c H locs 0 0 (MQ below (gE D Y za ad S0 s.heap.size (fun r S9 => ∃ x, r = some (vI x) ∧ Q x S9)) args s 0 0 A) (F0 m 0 ls []) by rw [eH, eL] at hgoal; exact hgoal
  unfold wX0_fact at h
  refine lv_aload_n hx hb dX0_fact_0 rfl (lv_at hl 0 rfl) ?_
  refine lv_iload_n hx hb dX0_fact_1 rfl (lv_at hl 1 rfl) ?_
  obtain ⟨hk1, hq2, h⟩ := h
  refine r_callV (za := za) (k := k0) (ci := 0) (C := RX0) (T := TX0) (N := 5) (As := [vI x1]) (rest := []) (tX0_has l S k0 x1 _ h) ⟨hx, hb, hml, hown, hts⟩ (cwV 1 hts gX0_fact_X0_has rfl rfl rfl (by decide +kernel) ⟨by decide, by decide⟩) hK hG hA hk1 (cell_0 hq2) rfl rfl hl.1 rfl (Nat.le_of_ble_eq_true rfl) ⟨Nat.zero_le _, Nat.zero_le _⟩ dX0_fact_2 (fun r_9 S3 H locs hp hs_S3 hG => ?_)
  obtain ⟨u4, rfl, h⟩ := hp
  have h := h hs_S3
  refine W.eq (g2 := F0 m 5 ls [.int u4]) rfl ?_
  have hsh := hs_S3.tr hsh
  have hk5 := hs_S3.lt hk1
  have hq6 := hs_S3.kd hq2
  refine lv_if_ne (tgt := 10) hx hb dX0_fact_5 (by decide) (fun c_5 => ?_) (fun c_5 => ?_)
  · have h := h.1 c_5
    refine lv_iload_n hx hb dX0_fact_10 rfl (lv_at hl 2 rfl) ?_
    refine lv_if_ne (tgt := 23) hx hb dX0_fact_11 (by decide) (fun c_11 => ?_) (fun c_11 => ?_)
    · have h := h.1 c_11
      refine lv_iload_n hx hb dX0_fact_23 rfl (lv_at hl 2 rfl) ?_
      refine lv_iconst (v := 1) hx hb dX0_fact_24 (by decide) ?_
      refine lv_icmp_ne (tgt := 37) hx hb dX0_fact_25 (by decide) (fun c_25 => ?_) (fun c_25 => ?_)
      · have h := h.1 c_25
        refine lv_aload_n hx hb dX0_fact_37 rfl (lv_at hl 0 rfl) ?_
        refine g_get (ci := 0) (C := RX0) (T := TX0) (N := 5) hx hb hts hin0 hown hK hG hk5 (cell_0 hq6) rfl 2 (by decide) lk_18 (fun _ h9 => h9) (v := rv ad (gR S3 k0 2)) rfl dX0_fact_38 ?_
        refine lv_iload_n hx hb dX0_fact_41 rfl (lv_at hl 1 rfl) ?_
        obtain ⟨q7, e8, h⟩ := h
        refine W.eq (g2 := F0 m 42 ls [.int x1, .ref (ad q7)]) (by rw [e8]; rfl) ?_
        obtain ⟨hk9, hq10, h⟩ := h
        obtain ⟨hi11, h⟩ := h
        refine r_iald hx hb hK hG hk9 hq10 hi11 dX0_fact_42 ?_
        exact b_43 (gX S3 q7 (Int32.toNatClampNeg x1)) S3 H locs ls h hsh hG (lv_sub hl [] rfl)
      · have h := h.2 c_25
        refine lv_aload_n hx hb dX0_fact_28 rfl (lv_at hl 0 rfl) ?_
        refine g_get (ci := 0) (C := RX0) (T := TX0) (N := 5) hx hb hts hin0 hown hK hG hk5 (cell_0 hq6) rfl 1 (by decide) lk_15 (fun _ h9 => h9) (v := rv ad (gR S3 k0 1)) rfl dX0_fact_29 ?_
        refine lv_iload_n hx hb dX0_fact_32 rfl (lv_at hl 1 rfl) ?_
        obtain ⟨q12, e13, h⟩ := h
        refine W.eq (g2 := F0 m 33 ls [.int x1, .ref (ad q12)]) (by rw [e13]; rfl) ?_
        obtain ⟨hk14, hq15, h⟩ := h
        obtain ⟨hi16, h⟩ := h
        refine r_iald hx hb hK hG hk14 hq15 hi16 dX0_fact_33 ?_
        refine lv_goto (tgt := 43) hx hb dX0_fact_34 (by decide) ?_
        exact b_43 (gX S3 q12 (Int32.toNatClampNeg x1)) S3 H locs ls h hsh hG (lv_sub hl [] rfl)
    · have h := h.2 c_11
      refine lv_aload_n hx hb dX0_fact_14 rfl (lv_at hl 0 rfl) ?_
      refine g_get (ci := 0) (C := RX0) (T := TX0) (N := 5) hx hb hts hin0 hown hK hG hk5 (cell_0 hq6) rfl 0 (by decide) lk_9 (fun _ h9 => h9) (v := rv ad (gR S3 k0 0)) rfl dX0_fact_15 ?_
      refine lv_iload_n hx hb dX0_fact_18 rfl (lv_at hl 1 rfl) ?_
      obtain ⟨q17, e18, h⟩ := h
      refine W.eq (g2 := F0 m 19 ls [.int x1, .ref (ad q17)]) (by rw [e18]; rfl) ?_
      obtain ⟨hk19, hq20, h⟩ := h
      obtain ⟨hi21, h⟩ := h
      refine r_iald hx hb hK hG hk19 hq20 hi21 dX0_fact_19 ?_
      refine lv_goto (tgt := 43) hx hb dX0_fact_20 (by decide) ?_
      exact b_43 (gX S3 q17 (Int32.toNatClampNeg x1)) S3 H locs ls h hsh hG (lv_sub hl [] rfl)
  · have h := h.2 c_5
    refine lv_iconst (v := (-1)) hx hb dX0_fact_8 (by decide) ?_
    exact W.iret (v := (-1)) hx hb hr (fun t ht hW => r_end (r := some (vI (-1))) hAe hG hsh ⟨_, rfl, h⟩ rfl ht) hG.2.2.2.2 dX0_fact_9
def wX0_add_4 (Q : GS → Prop) (k0 : Nat) : Nat → Int32 → Int32 → Int32 → Int32 → Int32 → GS → Prop
  | 0, _, _, _, _, _, _ => False
  | f9 + 1, x1, x2, x3, x4, x5, S =>
  (x5 ≤ 0 → k0 < gN S ∧ gK S k0 = 0 ∧ ∃ q3 : Nat, gR S k0 0 = some q3 ∧ q3 < gN S ∧ gK S q3 = 11 ∧ vp_in 0 (gL S q3) ∧ ∀ S8 : GS, S8 = sX S q3 (Int32.toNatClampNeg 0) x1 → ∃ q13 : Nat, gR S8 k0 1 = some q13 ∧ q13 < gN S8 ∧ gK S8 q13 = 11 ∧ vp_in 0 (gL S8 q13) ∧ ∀ S18 : GS, S18 = sX S8 q13 (Int32.toNatClampNeg 0) x2 → ∃ q25 : Nat, gR S18 k0 2 = some q25 ∧ q25 < gN S18 ∧ gK S18 q25 = 11 ∧ vp_in 0 (gL S18 q25) ∧ ∀ S30 : GS, S30 = sX S18 q25 (Int32.toNatClampNeg 0) x3 → ∀ S39 : GS, S39 = sX S30 k0 3 ((gX S30 k0 3) + 1) → ∀ S48 : GS, S48 = sX S39 k0 4 ((gX S39 k0 4) + x4) → Q S48) ∧ (¬ x5 ≤ 0 → k0 < gN S ∧ gK S k0 = 0 ∧ ∃ q59 : Nat, gR S k0 0 = some q59 ∧ q59 < gN S ∧ gK S q59 = 11 ∧ vp_in (x5 - 1) (gL S q59) ∧ vp_in x5 (gL S q59) ∧ ∀ S65 : GS, S65 = sX S q59 (Int32.toNatClampNeg x5) (gX S q59 (Int32.toNatClampNeg (x5 - 1))) → ∃ q70 : Nat, gR S65 k0 1 = some q70 ∧ q70 < gN S65 ∧ gK S65 q70 = 11 ∧ vp_in (x5 - 1) (gL S65 q70) ∧ vp_in x5 (gL S65 q70) ∧ ∀ S76 : GS, S76 = sX S65 q70 (Int32.toNatClampNeg x5) (gX S65 q70 (Int32.toNatClampNeg (x5 - 1))) → ∃ q83 : Nat, gR S76 k0 2 = some q83 ∧ q83 < gN S76 ∧ gK S76 q83 = 11 ∧ vp_in (x5 - 1) (gL S76 q83) ∧ vp_in x5 (gL S76 q83) ∧ ∀ S89 : GS, S89 = sX S76 q83 (Int32.toNatClampNeg x5) (gX S76 q83 (Int32.toNatClampNeg (x5 - 1))) → (wX0_add_4 Q k0 f9) x1 x2 x3 x4 (x5 + (-1)) S89)
def wX0_add (S : GS) (k0 : Nat) (x1 : Int32) (x2 : Int32) (x3 : Int32) (x4 : Int32) (Q : GS → Prop) : Prop :=
  ∃ f98 : Nat, wX0_add_4 Q k0 f98 x1 x2 x3 x4 11 S
set_option maxHeartbeats 4000000 in
set_option maxRecDepth 100000 in
theorem tX0_add (l : Launch) (S : GS) (k0 : Nat) (x1 : Int32) (x2 : Int32) (x3 : Int32) (x4 : Int32) (Q : GS → Prop) (h : wX0_add S k0 x1 x2 x3 x4 Q) : CS l yX0_add wsX0_add 0 S [vR (some k0), vI x1, vI x2, vI x3, vI x4] (fun r S9 => r = none ∧ Q S9) := by
  refine CS.ofW (cc := cX0_add) (maxL := 6) (ret := none) RX0 (by decide) rfl rfl (fun _ _ => Nat.le_of_ble_eq_true rfl) ?_
  intro p e s m args below meth c D Y za ad A ls hAe hx hb hr hml hts hown hlocks hK hA hG hl
  obtain ⟨S0, hS0⟩ : ∃ z : GS, z = S := ⟨_, rfl⟩
  rw [← hS0] at hAe
  rw [← hS0]
  have hin0 : ∀ w ∈ wsX00, w ∈ wsX0_add := by decide +kernel
  have lk_9 := hts (.fieldLink RX0 9 "PauseLog$Diagnostics" "numbers" "[I") (by decide +kernel)
  have lk_15 := hts (.fieldLink RX0 15 "PauseLog$Diagnostics" "lineNumbers" "[I") (by decide +kernel)
  have lk_18 := hts (.fieldLink RX0 18 "PauseLog$Diagnostics" "faults" "[I") (by decide +kernel)
  have lk_21 := hts (.fieldLink RX0 21 "PauseLog$Diagnostics" "made" "I") (by decide +kernel)
  have lk_25 := hts (.fieldLink RX0 25 "PauseLog$Diagnostics" "lines" "I") (by decide +kernel)
  have b_4 : ∀  (f9 : Nat) (x1 : Int32) (x2 : Int32) (x3 : Int32) (x4 : Int32) (x5 : Int32) (S : GS) (H : Heap) (locs : List Loc) (ls : Array Slot), wX0_add_4 Q k0 f9 x1 x2 x3 x4 x5 S → gSh S S0 → gS D Y ad A s.heap S H locs → lv_has ls 6 [(0, .ref (ad k0)), (1, .int x1), (2, .int x2), (3, .int x3), (4, .int x4), (5, .int x5)] → W p l e (rmD 0) s m args below meth c H locs 0 0 (MQ below (gE D Y za ad S0 s.heap.size (fun r S9 => r = none ∧ Q S9)) args s 0 0 A) (F0 m 4 ls []) := by
    intro  f9
    induction f9 with
    | zero =>
      intro x1 x2 x3 x4 x5 S H locs ls h
      exact False.elim (by unfold wX0_add_4 at h; exact h)
    | succ f9 hL_4 =>
      intro x1 x2 x3 x4 x5 S H locs ls h hsh hG hl
      unfold wX0_add_4 at h
      refine lv_iload hx hb dX0_add_4 (lv_at hl 5 rfl) ?_
      refine lv_if_le (tgt := 63) hx hb dX0_add_6 (by decide) (fun c_6 => ?_) (fun c_6 => ?_)
      · have h := h.1 c_6
        refine lv_aload_n hx hb dX0_add_63 rfl (lv_at hl 0 rfl) ?_
        obtain ⟨hk1, hq2, h⟩ := h
        refine g_get (ci := 0) (C := RX0) (T := TX0) (N := 5) hx hb hts hin0 hown hK hG hk1 (cell_0 hq2) rfl 0 (by decide) lk_9 (fun _ h9 => h9) (v := rv ad (gR S k0 0)) rfl dX0_add_64 ?_
        refine lv_iconst (v := 0) hx hb dX0_add_67 (by decide) ?_
        refine lv_iload_n hx hb dX0_add_68 rfl (lv_at hl 1 rfl) ?_
        obtain ⟨q3, e4, h⟩ := h
        refine W.eq (g2 := F0 m 69 ls [.int x1, .int 0, .ref (ad q3)]) (by rw [e4]; rfl) ?_
        obtain ⟨hk5, hq6, h⟩ := h
        obtain ⟨hi7, h⟩ := h
        refine r_iast hx hb hK hG hk5 hq6 hi7 dX0_add_69 (fun H locs hG => ?_)
        obtain ⟨S8, eS_S8⟩ : ∃ z : GS, z = sX S q3 (Int32.toNatClampNeg 0) x1 := ⟨_, rfl⟩
        have h := h S8 eS_S8
        rw [← eS_S8] at hG
        have hs_S8 : gSh S8 S := by rw [eS_S8]; exact gSh.x _ _ _ _
        have hsh := hs_S8.tr hsh
        have hk9 := hs_S8.lt hk1
        have hq10 := hs_S8.kd hq2
        have hk11 := hs_S8.lt hk5
        have hq12 := hs_S8.kd hq6
        refine lv_aload_n hx hb dX0_add_70 rfl (lv_at hl 0 rfl) ?_
        refine g_get (ci := 0) (C := RX0) (T := TX0) (N := 5) hx hb hts hin0 hown hK hG hk9 (cell_0 hq10) rfl 1 (by decide) lk_15 (fun _ h9 => h9) (v := rv ad (gR S8 k0 1)) rfl dX0_add_71 ?_
        refine lv_iconst (v := 0) hx hb dX0_add_74 (by decide) ?_
        refine lv_iload_n hx hb dX0_add_75 rfl (lv_at hl 2 rfl) ?_
        obtain ⟨q13, e14, h⟩ := h
        refine W.eq (g2 := F0 m 76 ls [.int x2, .int 0, .ref (ad q13)]) (by rw [e14]; rfl) ?_
        obtain ⟨hk15, hq16, h⟩ := h
        obtain ⟨hi17, h⟩ := h
        refine r_iast hx hb hK hG hk15 hq16 hi17 dX0_add_76 (fun H locs hG => ?_)
        obtain ⟨S18, eS_S18⟩ : ∃ z : GS, z = sX S8 q13 (Int32.toNatClampNeg 0) x2 := ⟨_, rfl⟩
        have h := h S18 eS_S18
        rw [← eS_S18] at hG
        have hs_S18 : gSh S18 S8 := by rw [eS_S18]; exact gSh.x _ _ _ _
        have hsh := hs_S18.tr hsh
        have hk19 := hs_S18.lt hk9
        have hq20 := hs_S18.kd hq10
        have hk21 := hs_S18.lt hk11
        have hq22 := hs_S18.kd hq12
        have hk23 := hs_S18.lt hk15
        have hq24 := hs_S18.kd hq16
        refine lv_aload_n hx hb dX0_add_77 rfl (lv_at hl 0 rfl) ?_
        refine g_get (ci := 0) (C := RX0) (T := TX0) (N := 5) hx hb hts hin0 hown hK hG hk19 (cell_0 hq20) rfl 2 (by decide) lk_18 (fun _ h9 => h9) (v := rv ad (gR S18 k0 2)) rfl dX0_add_78 ?_
        refine lv_iconst (v := 0) hx hb dX0_add_81 (by decide) ?_
        refine lv_iload_n hx hb dX0_add_82 rfl (lv_at hl 3 rfl) ?_
        obtain ⟨q25, e26, h⟩ := h
        refine W.eq (g2 := F0 m 83 ls [.int x3, .int 0, .ref (ad q25)]) (by rw [e26]; rfl) ?_
        obtain ⟨hk27, hq28, h⟩ := h
        obtain ⟨hi29, h⟩ := h
        refine r_iast hx hb hK hG hk27 hq28 hi29 dX0_add_83 (fun H locs hG => ?_)
        obtain ⟨S30, eS_S30⟩ : ∃ z : GS, z = sX S18 q25 (Int32.toNatClampNeg 0) x3 := ⟨_, rfl⟩
        have h := h S30 eS_S30
        rw [← eS_S30] at hG
        have hs_S30 : gSh S30 S18 := by rw [eS_S30]; exact gSh.x _ _ _ _
        have hsh := hs_S30.tr hsh
        have hk31 := hs_S30.lt hk19
        have hq32 := hs_S30.kd hq20
        have hk33 := hs_S30.lt hk21
        have hq34 := hs_S30.kd hq22
        have hk35 := hs_S30.lt hk23
        have hq36 := hs_S30.kd hq24
        have hk37 := hs_S30.lt hk27
        have hq38 := hs_S30.kd hq28
        refine lv_aload_n hx hb dX0_add_84 rfl (lv_at hl 0 rfl) ?_
        refine lv_dup hx hb dX0_add_85 rfl ?_
        refine g_get (ci := 0) (C := RX0) (T := TX0) (N := 5) hx hb hts hin0 hown hK hG hk31 (cell_0 hq32) rfl 3 (by decide) lk_21 (fun _ h9 => h9) (v := .int (gX S30 k0 3)) rfl dX0_add_86 ?_
        refine lv_iconst (v := 1) hx hb dX0_add_89 (by decide) ?_
        refine lv_iadd hx hb dX0_add_90 ?_
        refine r_put (ci := 0) (C := RX0) (T := TX0) (N := 5) hx hb hts hin0 tyX0 tyX0_ok nmX0 hown hK hG hk31 (cell_0 hq32) rfl 3 (by decide) lk_21 (fun _ h9 => h9) rfl rfl rfl (Nat.le_of_ble_eq_true rfl) (S' := sX S30 k0 3 ((gX S30 k0 3) + 1)) rfl (pu_0_3 hq32 ((gX S30 k0 3) + 1)) dX0_add_91 (fun H locs hG => ?_)
        obtain ⟨S39, eS_S39⟩ : ∃ z : GS, z = sX S30 k0 3 ((gX S30 k0 3) + 1) := ⟨_, rfl⟩
        have h := h S39 eS_S39
        rw [← eS_S39] at hG
        have hs_S39 : gSh S39 S30 := by rw [eS_S39]; exact gSh.x _ _ _ _
        have hsh := hs_S39.tr hsh
        have hk40 := hs_S39.lt hk31
        have hq41 := hs_S39.kd hq32
        have hk42 := hs_S39.lt hk33
        have hq43 := hs_S39.kd hq34
        have hk44 := hs_S39.lt hk35
        have hq45 := hs_S39.kd hq36
        have hk46 := hs_S39.lt hk37
        have hq47 := hs_S39.kd hq38
        refine lv_aload_n hx hb dX0_add_94 rfl (lv_at hl 0 rfl) ?_
        refine lv_dup hx hb dX0_add_95 rfl ?_
        refine g_get (ci := 0) (C := RX0) (T := TX0) (N := 5) hx hb hts hin0 hown hK hG hk40 (cell_0 hq41) rfl 4 (by decide) lk_25 (fun _ h9 => h9) (v := .int (gX S39 k0 4)) rfl dX0_add_96 ?_
        refine lv_iload hx hb dX0_add_99 (lv_at hl 4 rfl) ?_
        refine lv_iadd hx hb dX0_add_101 ?_
        refine r_put (ci := 0) (C := RX0) (T := TX0) (N := 5) hx hb hts hin0 tyX0 tyX0_ok nmX0 hown hK hG hk40 (cell_0 hq41) rfl 4 (by decide) lk_25 (fun _ h9 => h9) rfl rfl rfl (Nat.le_of_ble_eq_true rfl) (S' := sX S39 k0 4 ((gX S39 k0 4) + x4)) rfl (pu_0_4 hq41 ((gX S39 k0 4) + x4)) dX0_add_102 (fun H locs hG => ?_)
        obtain ⟨S48, eS_S48⟩ : ∃ z : GS, z = sX S39 k0 4 ((gX S39 k0 4) + x4) := ⟨_, rfl⟩
        have h := h S48 eS_S48
        rw [← eS_S48] at hG
        have hs_S48 : gSh S48 S39 := by rw [eS_S48]; exact gSh.x _ _ _ _
        have hsh := hs_S48.tr hsh
        have hk49 := hs_S48.lt hk40
        have hq50 := hs_S48.kd hq41
        have hk51 := hs_S48.lt hk42
        have hq52 := hs_S48.kd hq43
        have hk53 := hs_S48.lt hk44
        have hq54 := hs_S48.kd hq45
        have hk55 := hs_S48.lt hk46
        have hq56 := hs_S48.kd hq47
        exact W.vret hx hb hr (fun t ht hW => r_end (r := none) hAe hG hsh ⟨rfl, h⟩ rfl ht) hG.2.2.2.2 dX0_add_105
      · have h := h.2 c_6
        refine lv_aload_n hx hb dX0_add_9 rfl (lv_at hl 0 rfl) ?_
        obtain ⟨hk57, hq58, h⟩ := h
        refine g_get (ci := 0) (C := RX0) (T := TX0) (N := 5) hx hb hts hin0 hown hK hG hk57 (cell_0 hq58) rfl 0 (by decide) lk_9 (fun _ h9 => h9) (v := rv ad (gR S k0 0)) rfl dX0_add_10 ?_
        refine lv_iload hx hb dX0_add_13 (lv_at hl 5 rfl) ?_
        refine lv_aload_n hx hb dX0_add_15 rfl (lv_at hl 0 rfl) ?_
        refine g_get (ci := 0) (C := RX0) (T := TX0) (N := 5) hx hb hts hin0 hown hK hG hk57 (cell_0 hq58) rfl 0 (by decide) lk_9 (fun _ h9 => h9) (v := rv ad (gR S k0 0)) rfl dX0_add_16 ?_
        refine lv_iload hx hb dX0_add_19 (lv_at hl 5 rfl) ?_
        refine lv_iconst (v := 1) hx hb dX0_add_21 (by decide) ?_
        refine lv_isub hx hb dX0_add_22 ?_
        obtain ⟨q59, e60, h⟩ := h
        refine W.eq (g2 := F0 m 23 ls [.int (x5 - 1), .ref (ad q59), .int x5, rv ad (gR S k0 0)]) (by rw [e60]; rfl) ?_
        obtain ⟨hk61, hq62, h⟩ := h
        obtain ⟨hi63, h⟩ := h
        refine r_iald hx hb hK hG hk61 hq62 hi63 dX0_add_23 ?_
        refine W.eq (g2 := F0 m 24 ls [.int (gX S q59 (Int32.toNatClampNeg (x5 - 1))), .int x5, .ref (ad q59)]) (by rw [e60]; rfl) ?_
        obtain ⟨hi64, h⟩ := h
        refine r_iast hx hb hK hG hk61 hq62 hi64 dX0_add_24 (fun H locs hG => ?_)
        obtain ⟨S65, eS_S65⟩ : ∃ z : GS, z = sX S q59 (Int32.toNatClampNeg x5) (gX S q59 (Int32.toNatClampNeg (x5 - 1))) := ⟨_, rfl⟩
        have h := h S65 eS_S65
        rw [← eS_S65] at hG
        have hs_S65 : gSh S65 S := by rw [eS_S65]; exact gSh.x _ _ _ _
        have hsh := hs_S65.tr hsh
        have hk66 := hs_S65.lt hk57
        have hq67 := hs_S65.kd hq58
        have hk68 := hs_S65.lt hk61
        have hq69 := hs_S65.kd hq62
        refine lv_aload_n hx hb dX0_add_25 rfl (lv_at hl 0 rfl) ?_
        refine g_get (ci := 0) (C := RX0) (T := TX0) (N := 5) hx hb hts hin0 hown hK hG hk66 (cell_0 hq67) rfl 1 (by decide) lk_15 (fun _ h9 => h9) (v := rv ad (gR S65 k0 1)) rfl dX0_add_26 ?_
        refine lv_iload hx hb dX0_add_29 (lv_at hl 5 rfl) ?_
        refine lv_aload_n hx hb dX0_add_31 rfl (lv_at hl 0 rfl) ?_
        refine g_get (ci := 0) (C := RX0) (T := TX0) (N := 5) hx hb hts hin0 hown hK hG hk66 (cell_0 hq67) rfl 1 (by decide) lk_15 (fun _ h9 => h9) (v := rv ad (gR S65 k0 1)) rfl dX0_add_32 ?_
        refine lv_iload hx hb dX0_add_35 (lv_at hl 5 rfl) ?_
        refine lv_iconst (v := 1) hx hb dX0_add_37 (by decide) ?_
        refine lv_isub hx hb dX0_add_38 ?_
        obtain ⟨q70, e71, h⟩ := h
        refine W.eq (g2 := F0 m 39 ls [.int (x5 - 1), .ref (ad q70), .int x5, rv ad (gR S65 k0 1)]) (by rw [e71]; rfl) ?_
        obtain ⟨hk72, hq73, h⟩ := h
        obtain ⟨hi74, h⟩ := h
        refine r_iald hx hb hK hG hk72 hq73 hi74 dX0_add_39 ?_
        refine W.eq (g2 := F0 m 40 ls [.int (gX S65 q70 (Int32.toNatClampNeg (x5 - 1))), .int x5, .ref (ad q70)]) (by rw [e71]; rfl) ?_
        obtain ⟨hi75, h⟩ := h
        refine r_iast hx hb hK hG hk72 hq73 hi75 dX0_add_40 (fun H locs hG => ?_)
        obtain ⟨S76, eS_S76⟩ : ∃ z : GS, z = sX S65 q70 (Int32.toNatClampNeg x5) (gX S65 q70 (Int32.toNatClampNeg (x5 - 1))) := ⟨_, rfl⟩
        have h := h S76 eS_S76
        rw [← eS_S76] at hG
        have hs_S76 : gSh S76 S65 := by rw [eS_S76]; exact gSh.x _ _ _ _
        have hsh := hs_S76.tr hsh
        have hk77 := hs_S76.lt hk66
        have hq78 := hs_S76.kd hq67
        have hk79 := hs_S76.lt hk68
        have hq80 := hs_S76.kd hq69
        have hk81 := hs_S76.lt hk72
        have hq82 := hs_S76.kd hq73
        refine lv_aload_n hx hb dX0_add_41 rfl (lv_at hl 0 rfl) ?_
        refine g_get (ci := 0) (C := RX0) (T := TX0) (N := 5) hx hb hts hin0 hown hK hG hk77 (cell_0 hq78) rfl 2 (by decide) lk_18 (fun _ h9 => h9) (v := rv ad (gR S76 k0 2)) rfl dX0_add_42 ?_
        refine lv_iload hx hb dX0_add_45 (lv_at hl 5 rfl) ?_
        refine lv_aload_n hx hb dX0_add_47 rfl (lv_at hl 0 rfl) ?_
        refine g_get (ci := 0) (C := RX0) (T := TX0) (N := 5) hx hb hts hin0 hown hK hG hk77 (cell_0 hq78) rfl 2 (by decide) lk_18 (fun _ h9 => h9) (v := rv ad (gR S76 k0 2)) rfl dX0_add_48 ?_
        refine lv_iload hx hb dX0_add_51 (lv_at hl 5 rfl) ?_
        refine lv_iconst (v := 1) hx hb dX0_add_53 (by decide) ?_
        refine lv_isub hx hb dX0_add_54 ?_
        obtain ⟨q83, e84, h⟩ := h
        refine W.eq (g2 := F0 m 55 ls [.int (x5 - 1), .ref (ad q83), .int x5, rv ad (gR S76 k0 2)]) (by rw [e84]; rfl) ?_
        obtain ⟨hk85, hq86, h⟩ := h
        obtain ⟨hi87, h⟩ := h
        refine r_iald hx hb hK hG hk85 hq86 hi87 dX0_add_55 ?_
        refine W.eq (g2 := F0 m 56 ls [.int (gX S76 q83 (Int32.toNatClampNeg (x5 - 1))), .int x5, .ref (ad q83)]) (by rw [e84]; rfl) ?_
        obtain ⟨hi88, h⟩ := h
        refine r_iast hx hb hK hG hk85 hq86 hi88 dX0_add_56 (fun H locs hG => ?_)
        obtain ⟨S89, eS_S89⟩ : ∃ z : GS, z = sX S76 q83 (Int32.toNatClampNeg x5) (gX S76 q83 (Int32.toNatClampNeg (x5 - 1))) := ⟨_, rfl⟩
        have h := h S89 eS_S89
        rw [← eS_S89] at hG
        have hs_S89 : gSh S89 S76 := by rw [eS_S89]; exact gSh.x _ _ _ _
        have hsh := hs_S89.tr hsh
        have hk90 := hs_S89.lt hk77
        have hq91 := hs_S89.kd hq78
        have hk92 := hs_S89.lt hk79
        have hq93 := hs_S89.kd hq80
        have hk94 := hs_S89.lt hk81
        have hq95 := hs_S89.kd hq82
        have hk96 := hs_S89.lt hk85
        have hq97 := hs_S89.kd hq86
        refine lv_iinc (v := x5 + (-1)) (lv' := [(5, .int (x5 + (-1))), (0, .ref (ad k0)), (1, .int x1), (2, .int x2), (3, .int x3), (4, .int x4)]) hx hb dX0_add_57 hl (k := 5) rfl rfl (by decide) rfl (fun ls hl => ?_)
        refine lv_goto (tgt := 4) hx hb dX0_add_60 (by decide) ?_
        exact hL_4 x1 x2 x3 x4 (x5 + (-1)) S89 H locs ls h hsh hG (lv_sub hl [1, 2, 3, 4, 5, 0] rfl)
  have hl : lv_has ls 6 [(0, .ref (ad k0)), (1, .int x1), (2, .int x2), (3, .int x3), (4, .int x4)] := hl
  have hsh : gSh S S0 := by rw [hS0]; exact gSh.rf S
  obtain ⟨H, eH⟩ : ∃ z : Heap, z = s.heap := ⟨_, rfl⟩
  obtain ⟨locs, eL⟩ : ∃ z : List Loc, z = [] := ⟨_, rfl⟩
  have hG : gS D Y ad A s.heap S H locs := by rw [eH, eL]; exact hG
  suffices hgoal : W p l e (rmD 0) s m args below meth c H locs 0 0 (MQ below (gE D Y za ad S0 s.heap.size (fun r S9 => r = none ∧ Q S9)) args s 0 0 A) (F0 m 0 ls []) by rw [eH, eL] at hgoal; exact hgoal
  unfold wX0_add at h
  refine lv_bipush (v := 11) hx hb dX0_add_0 (by decide) ?_
  refine lv_istore (lv' := [(5, .int 11), (0, .ref (ad k0)), (1, .int x1), (2, .int x2), (3, .int x3), (4, .int x4)]) hx hb dX0_add_2 hl (by decide) rfl (fun ls hl => ?_)
  obtain ⟨f98, h⟩ := h
  exact b_4 f98 x1 x2 x3 x4 11 S H locs ls h hsh hG (lv_sub hl [1, 2, 3, 4, 5, 0] rfl)
