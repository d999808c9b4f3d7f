def wX1_isSize_35 (Q : Int32 → GS → Prop) (t0 : Int32) (S : GS) : Prop :=
  (t0 = 0 ∨ t0 = 1) ∧ Q t0 S
def wX1_isSize_30 (Q : Int32 → GS → Prop)  (S : GS) : Prop :=
  wX1_isSize_35 Q  1 S
def wX1_isSize_34 (Q : Int32 → GS → Prop)  (S : GS) : Prop :=
  wX1_isSize_35 Q  0 S
def wX1_isSize (S : GS) (x0 : Int32) (Q : Int32 → GS → Prop) : Prop :=
  (x0 < 0 → wX1_isSize_34 Q   S) ∧ (¬ x0 < 0 → (x0 ≤ 9999 → wX1_isSize_30 Q   S) ∧ (¬ x0 ≤ 9999 → (¬ (x0 - x0 / 1024 * 1024) = 0 → wX1_isSize_34 Q   S) ∧ ((x0 - x0 / 1024 * 1024) = 0 → ((9999 : Int32) < (x0 / 1024) → wX1_isSize_34 Q   S) ∧ (¬ (9999 : Int32) < (x0 / 1024) → wX1_isSize_30 Q   S))))
set_option maxHeartbeats 4000000 in
set_option maxRecDepth 100000 in
theorem tX1_isSize (l : Launch) (S : GS) (x0 : Int32) (Q : Int32 → GS → Prop) (h : wX1_isSize S x0 Q) : CS l yX1_isSize wsX1_isSize 0 S [vI x0] (fun r S9 => ∃ x, r = some (vI x) ∧ Q x S9) := by
  refine CS.ofW (cc := cX1_isSize) (maxL := 1) (ret := (some .boolean)) RX1 (by decide) rfl rfl (fun _ _ => Nat.le_of_ble_eq_true rfl) ?_
  intro p e s m args below meth c D Y za ad A ls hAe hx hb hr hml hts hown hlocks hK hA hG hl
  obtain ⟨S0, hS0⟩ : ∃ z : GS, z = S := ⟨_, rfl⟩
  rw [← hS0] at hAe
  rw [← hS0]
  have b_35 : ∀  (t0 : Int32) (S : GS) (H : Heap) (locs : List Loc) (ls : Array Slot), wX1_isSize_35 Q  t0 S → gSh S S0 → gS D Y ad A s.heap S H locs → lv_has ls 1 [] → W p l e (rmD 0) s m args below meth c H locs 0 0 (MQ below (gE D Y za ad S0 s.heap.size (fun r S9 => ∃ x, r = some (vI x) ∧ Q x S9)) args s 0 0 A) (F0 m 35 ls [.int t0]) := by
    intro  t0 S H locs ls h hsh hG hl
    unfold wX1_isSize_35 at h
    obtain ⟨hz1, h⟩ := h
    exact W.zret (v := t0) hx hb hr (nar01 hz1) (fun t ht hW => r_end (r := some (vI t0)) hAe hG hsh ⟨_, rfl, h⟩ rfl ht) hG.2.2.2.2 dX1_isSize_35
  have b_30 : ∀   (S : GS) (H : Heap) (locs : List Loc) (ls : Array Slot), wX1_isSize_30 Q   S → gSh S S0 → gS D Y ad A s.heap S H locs → lv_has ls 1 [] → W p l e (rmD 0) s m args below meth c H locs 0 0 (MQ below (gE D Y za ad S0 s.heap.size (fun r S9 => ∃ x, r = some (vI x) ∧ Q x S9)) args s 0 0 A) (F0 m 30 ls []) := by
    intro   S H locs ls h hsh hG hl
    unfold wX1_isSize_30 at h
    refine lv_iconst (v := 1) hx hb dX1_isSize_30 (by decide) ?_
    refine lv_goto (tgt := 35) hx hb dX1_isSize_31 (by decide) ?_
    exact b_35 1 S H locs ls h hsh hG (lv_sub hl [] rfl)
  have b_34 : ∀   (S : GS) (H : Heap) (locs : List Loc) (ls : Array Slot), wX1_isSize_34 Q   S → gSh S S0 → gS D Y ad A s.heap S H locs → lv_has ls 1 [] → W p l e (rmD 0) s m args below meth c H locs 0 0 (MQ below (gE D Y za ad S0 s.heap.size (fun r S9 => ∃ x, r = some (vI x) ∧ Q x S9)) args s 0 0 A) (F0 m 34 ls []) := by
    intro   S H locs ls h hsh hG hl
    unfold wX1_isSize_34 at h
    refine lv_iconst (v := 0) hx hb dX1_isSize_34 (by decide) ?_
    exact b_35 0 S H locs ls h hsh hG (lv_sub hl [] rfl)
  have hl : lv_has ls 1 [(0, .int x0)] := hl
  have hsh : gSh S S0 := by rw [hS0]; exact gSh.rf S
  obtain ⟨H, eH⟩ : ∃ z : Heap, z = s.heap := ⟨_, rfl⟩
  obtain ⟨locs, eL⟩ : ∃ z : List Loc, z = [] := ⟨_, rfl⟩
  have hG : gS D Y ad A s.heap S H locs := by rw [eH, eL]; exact hG
  suffices hgoal : W p l e (rmD 0) s m args below meth c H locs 0 0 (MQ below (gE D Y za ad S0 s.heap.size (fun r S9 => ∃ x, r = some (vI x) ∧ Q x S9)) args s 0 0 A) (F0 m 0 ls []) by rw [eH, eL] at hgoal; exact hgoal
  unfold wX1_isSize at h
  refine lv_iload_n hx hb dX1_isSize_0 rfl (lv_at hl 0 rfl) ?_
  refine lv_if_lt (tgt := 34) hx hb dX1_isSize_1 (by decide) (fun c_1 => ?_) (fun c_1 => ?_)
  · have h := h.1 c_1
    exact b_34  S H locs ls h hsh hG (lv_sub hl [] rfl)
  · have h := h.2 c_1
    refine lv_iload_n hx hb dX1_isSize_4 rfl (lv_at hl 0 rfl) ?_
    refine lv_sipush (v := 9999) hx hb dX1_isSize_5 (by decide) ?_
    refine lv_icmp_le (tgt := 30) hx hb dX1_isSize_8 (by decide) (fun c_8 => ?_) (fun c_8 => ?_)
    · have h := h.1 c_8
      exact b_30  S H locs ls h hsh hG (lv_sub hl [] rfl)
    · have h := h.2 c_8
      refine lv_iload_n hx hb dX1_isSize_11 rfl (lv_at hl 0 rfl) ?_
      refine lv_sipush (v := 1024) hx hb dX1_isSize_12 (by decide) ?_
      refine lv_irem hx hb dX1_isSize_15 (by decide) ?_
      refine lv_if_ne (tgt := 34) hx hb dX1_isSize_16 (by decide) (fun c_16 => ?_) (fun c_16 => ?_)
      · have h := h.1 c_16
        exact b_34  S H locs ls h hsh hG (lv_sub hl [] rfl)
      · have h := h.2 c_16
        refine lv_iload_n hx hb dX1_isSize_19 rfl (lv_at hl 0 rfl) ?_
        refine lv_sipush (v := 1024) hx hb dX1_isSize_20 (by decide) ?_
        refine lv_idiv hx hb dX1_isSize_23 (by decide) ?_
        refine lv_sipush (v := 9999) hx hb dX1_isSize_24 (by decide) ?_
        refine lv_icmp_gt (tgt := 34) hx hb dX1_isSize_27 (by decide) (fun c_27 => ?_) (fun c_27 => ?_)
        · have h := h.1 c_27
          exact b_34  S H locs ls h hsh hG (lv_sub hl [] rfl)
        · have h := h.2 c_27
          exact b_30  S H locs ls h hsh hG (lv_sub hl [] rfl)
def wX1_setShape_69 (Q : Int32 → GS → Prop) (k0 : Nat) (t0 : Int32) (S : GS) : Prop :=
  (t0 = 0 ∨ t0 = 1) ∧ Q t0 S
def wX1_setShape_68 (Q : Int32 → GS → Prop) (k0 : Nat)  (S : GS) : Prop :=
  wX1_setShape_69 Q k0 0 S
def wX1_setShape_48 (Q : Int32 → GS → Prop) (k0 : Nat)  (S : GS) : Prop :=
  k0 < gN S ∧ gK S k0 = 1 ∧ ((2 : Int32) < (gX S k0 1) → wX1_setShape_68 Q k0  S) ∧ (¬ (2 : Int32) < (gX S k0 1) → ((2 : Int32) < (gX S k0 2) → wX1_setShape_68 Q k0  S) ∧ (¬ (2 : Int32) < (gX S k0 2) → wX1_setShape_69 Q k0 1 S))
def wX1_setShape_81 (Q : Int32 → GS → Prop) (k0 : Nat) (t0 : Int32) (S : GS) : Prop :=
  (t0 = 0 ∨ t0 = 1) ∧ Q t0 S
def wX1_setShape (S : GS) (k0 : Nat) (x1 : Int32) (Q : Int32 → GS → Prop) : Prop :=
  ((0 : Int32) ≤ x1 → k0 < gN S ∧ gK S k0 = 1 ∧ ∀ S7 : GS, S7 = sX S k0 0 (x1 - x1 / 10 * 10) → ∀ S10 : GS, S10 = sX S7 k0 1 ((x1 / 10) - (x1 / 10) / 10 * 10) → ∀ S13 : GS, S13 = sX S10 k0 2 (x1 / 100) → ((gX S13 k0 0) = 0 → wX1_setShape_48 Q k0  S13) ∧ (¬ (gX S13 k0 0) = 0 → (¬ (gX S13 k0 0) = 1 → ((6 : Int32) < x1 → wX1_setShape_81 Q k0 0 S13) ∧ (¬ (6 : Int32) < x1 → wX1_setShape_81 Q k0 1 S13)) ∧ ((gX S13 k0 0) = 1 → wX1_setShape_48 Q k0  S13))) ∧ (¬ (0 : Int32) ≤ x1 → Q 0 S)
set_option maxHeartbeats 4000000 in
set_option maxRecDepth 100000 in
theorem tX1_setShape (l : Launch) (S : GS) (k0 : Nat) (x1 : Int32) (Q : Int32 → GS → Prop) (h : wX1_setShape S k0 x1 Q) : CS l yX1_setShape wsX1_setShape 0 S [vR (some k0), vI x1] (fun r S9 => ∃ x, r = some (vI x) ∧ Q x S9) := by
  refine CS.ofW (cc := cX1_setShape) (maxL := 2) (ret := (some .boolean)) RX1 (by decide) rfl rfl (fun _ _ => Nat.le_of_ble_eq_true rfl) ?_
  intro p e s m args below meth c D Y za ad A ls hAe hx hb hr hml hts hown hlocks hK hA hG hl
  obtain ⟨S0, hS0⟩ : ∃ z : GS, z = S := ⟨_, rfl⟩
  rw [← hS0] at hAe
  rw [← hS0]
  have hin1 : ∀ w ∈ wsX10, w ∈ wsX1_setShape := by decide +kernel
  have lk_9 := hts (.fieldLink RX1 9 "PauseLog$Entry" "shape" "I") (by decide +kernel)
  have lk_15 := hts (.fieldLink RX1 15 "PauseLog$Entry" "kind" "I") (by decide +kernel)
  have lk_18 := hts (.fieldLink RX1 18 "PauseLog$Entry" "cause" "I") (by decide +kernel)
  have b_69 : ∀  (t0 : Int32) (S : GS) (H : Heap) (locs : List Loc) (ls : Array Slot), wX1_setShape_69 Q k0 t0 S → gSh S S0 → gS D Y ad A s.heap S H locs → lv_has ls 2 [] → W p l e (rmD 0) s m args below meth c H locs 0 0 (MQ below (gE D Y za ad S0 s.heap.size (fun r S9 => ∃ x, r = some (vI x) ∧ Q x S9)) args s 0 0 A) (F0 m 69 ls [.int t0]) := by
    intro  t0 S H locs ls h hsh hG hl
    unfold wX1_setShape_69 at h
    obtain ⟨hz1, h⟩ := h
    exact W.zret (v := t0) hx hb hr (nar01 hz1) (fun t ht hW => r_end (r := some (vI t0)) hAe hG hsh ⟨_, rfl, h⟩ rfl ht) hG.2.2.2.2 dX1_setShape_69
  have b_68 : ∀   (S : GS) (H : Heap) (locs : List Loc) (ls : Array Slot), wX1_setShape_68 Q k0  S → gSh S S0 → gS D Y ad A s.heap S H locs → lv_has ls 2 [] → W p l e (rmD 0) s m args below meth c H locs 0 0 (MQ below (gE D Y za ad S0 s.heap.size (fun r S9 => ∃ x, r = some (vI x) ∧ Q x S9)) args s 0 0 A) (F0 m 68 ls []) := by
    intro   S H locs ls h hsh hG hl
    unfold wX1_setShape_68 at h
    refine lv_iconst (v := 0) hx hb dX1_setShape_68 (by decide) ?_
    exact b_69 0 S H locs ls h hsh hG (lv_sub hl [] rfl)
  have b_48 : ∀   (S : GS) (H : Heap) (locs : List Loc) (ls : Array Slot), wX1_setShape_48 Q k0  S → gSh S S0 → gS D Y ad A s.heap S H locs → lv_has ls 2 [(0, .ref (ad k0))] → W p l e (rmD 0) s m args below meth c H locs 0 0 (MQ below (gE D Y za ad S0 s.heap.size (fun r S9 => ∃ x, r = some (vI x) ∧ Q x S9)) args s 0 0 A) (F0 m 48 ls []) := by
    intro   S H locs ls h hsh hG hl
    unfold wX1_setShape_48 at h
    refine lv_aload_n hx hb dX1_setShape_48 rfl (lv_at hl 0 rfl) ?_
    obtain ⟨hk2, hq3, h⟩ := h
    refine g_get (ci := 1) (C := RX1) (T := TX1) (N := 9) hx hb hts hin1 hown hK hG hk2 (cell_1 hq3) rfl 1 (by decide) lk_15 (fun _ h9 => h9) (v := .int (gX S k0 1)) rfl dX1_setShape_49 ?_
    refine lv_iconst (v := 2) hx hb dX1_setShape_52 (by decide) ?_
    refine lv_icmp_gt (tgt := 68) hx hb dX1_setShape_53 (by decide) (fun c_53 => ?_) (fun c_53 => ?_)
    · have h := h.1 c_53
      exact b_68  S H locs ls h hsh hG (lv_sub hl [] rfl)
    · have h := h.2 c_53
      refine lv_aload_n hx hb dX1_setShape_56 rfl (lv_at hl 0 rfl) ?_
      refine g_get (ci := 1) (C := RX1) (T := TX1) (N := 9) hx hb hts hin1 hown hK hG hk2 (cell_1 hq3) rfl 2 (by decide) lk_18 (fun _ h9 => h9) (v := .int (gX S k0 2)) rfl dX1_setShape_57 ?_
      refine lv_iconst (v := 2) hx hb dX1_setShape_60 (by decide) ?_
      refine lv_icmp_gt (tgt := 68) hx hb dX1_setShape_61 (by decide) (fun c_61 => ?_) (fun c_61 => ?_)
      · have h := h.1 c_61
        exact b_68  S H locs ls h hsh hG (lv_sub hl [] rfl)
      · have h := h.2 c_61
        refine lv_iconst (v := 1) hx hb dX1_setShape_64 (by decide) ?_
        refine lv_goto (tgt := 69) hx hb dX1_setShape_65 (by decide) ?_
        exact b_69 1 S H locs ls h hsh hG (lv_sub hl [] rfl)
  have b_81 : ∀  (t0 : Int32) (S : GS) (H : Heap) (locs : List Loc) (ls : Array Slot), wX1_setShape_81 Q k0 t0 S → gSh S S0 → gS D Y ad A s.heap S H locs → lv_has ls 2 [] → W p l e (rmD 0) s m args below meth c H locs 0 0 (MQ below (gE D Y za ad S0 s.heap.size (fun r S9 => ∃ x, r = some (vI x) ∧ Q x S9)) args s 0 0 A) (F0 m 81 ls [.int t0]) := by
    intro  t0 S H locs ls h hsh hG hl
    unfold wX1_setShape_81 at h
    obtain ⟨hz4, h⟩ := h
    exact W.zret (v := t0) hx hb hr (nar01 hz4) (fun t ht hW => r_end (r := some (vI t0)) hAe hG hsh ⟨_, rfl, h⟩ rfl ht) hG.2.2.2.2 dX1_setShape_81
  have hl : lv_has ls 2 [(0, .ref (ad k0)), (1, .int x1)] := hl
  have hsh : gSh S S0 := by rw [hS0]; exact gSh.rf S
  obtain ⟨H, eH⟩ : ∃ z : Heap, z = s.heap := ⟨_, rfl⟩
  obtain ⟨locs, eL⟩ : ∃ z : List Loc, z = [] := ⟨_, rfl⟩
  have hG : gS D Y ad A s.heap S H locs := by rw [eH, eL]; exact hG
  suffices hgoal : W p l e (rmD 0) s m args below meth c H locs 0 0 (MQ below (gE D Y za ad S0 s.heap.size (fun r S9 => ∃ x, r = some (vI x) ∧ Q x S9)) args s 0 0 A) (F0 m 0 ls []) by rw [eH, eL] at hgoal; exact hgoal
  unfold wX1_setShape at h
  refine lv_iload_n hx hb dX1_setShape_0 rfl (lv_at hl 1 rfl) ?_
  refine lv_if_ge (tgt := 6) hx hb dX1_setShape_1 (by decide) (fun c_1 => ?_) (fun c_1 => ?_)
  · have h := h.1 c_1
    refine lv_aload_n hx hb dX1_setShape_6 rfl (lv_at hl 0 rfl) ?_
    refine lv_iload_n hx hb dX1_setShape_7 rfl (lv_at hl 1 rfl) ?_
    refine lv_bipush (v := 10) hx hb dX1_setShape_8 (by decide) ?_
    refine lv_irem hx hb dX1_setShape_10 (by decide) ?_
    obtain ⟨hk5, hq6, h⟩ := h
    refine r_put (ci := 1) (C := RX1) (T := TX1) (N := 9) hx hb hts hin1 tyX1 tyX1_ok nmX1 hown hK hG hk5 (cell_1 hq6) rfl 0 (by decide) lk_9 (fun _ h9 => h9) rfl rfl rfl (Nat.le_of_ble_eq_true rfl) (S' := sX S k0 0 (x1 - x1 / 10 * 10)) rfl (pu_1_0 hq6 (x1 - x1 / 10 * 10)) dX1_setShape_11 (fun H locs hG => ?_)
    obtain ⟨S7, eS_S7⟩ : ∃ z : GS, z = sX S k0 0 (x1 - x1 / 10 * 10) := ⟨_, rfl⟩
    have h := h S7 eS_S7
    rw [← eS_S7] at hG
    have hs_S7 : gSh S7 S := by rw [eS_S7]; exact gSh.x _ _ _ _
    have hsh := hs_S7.tr hsh
    have hk8 := hs_S7.lt hk5
    have hq9 := hs_S7.kd hq6
    refine lv_aload_n hx hb dX1_setShape_14 rfl (lv_at hl 0 rfl) ?_
    refine lv_iload_n hx hb dX1_setShape_15 rfl (lv_at hl 1 rfl) ?_
    refine lv_bipush (v := 10) hx hb dX1_setShape_16 (by decide) ?_
    refine lv_idiv hx hb dX1_setShape_18 (by decide) ?_
    refine lv_bipush (v := 10) hx hb dX1_setShape_19 (by decide) ?_
    refine lv_irem hx hb dX1_setShape_21 (by decide) ?_
    refine r_put (ci := 1) (C := RX1) (T := TX1) (N := 9) hx hb hts hin1 tyX1 tyX1_ok nmX1 hown hK hG hk8 (cell_1 hq9) rfl 1 (by decide) lk_15 (fun _ h9 => h9) rfl rfl rfl (Nat.le_of_ble_eq_true rfl) (S' := sX S7 k0 1 ((x1 / 10) - (x1 / 10) / 10 * 10)) rfl (pu_1_1 hq9 ((x1 / 10) - (x1 / 10) / 10 * 10)) dX1_setShape_22 (fun H locs hG => ?_)
    obtain ⟨S10, eS_S10⟩ : ∃ z : GS, z = sX S7 k0 1 ((x1 / 10) - (x1 / 10) / 10 * 10) := ⟨_, rfl⟩
    have h := h S10 eS_S10
    rw [← eS_S10] at hG
    have hs_S10 : gSh S10 S7 := by rw [eS_S10]; exact gSh.x _ _ _ _
    have hsh := hs_S10.tr hsh
    have hk11 := hs_S10.lt hk8
    have hq12 := hs_S10.kd hq9
    refine lv_aload_n hx hb dX1_setShape_25 rfl (lv_at hl 0 rfl) ?_
    refine lv_iload_n hx hb dX1_setShape_26 rfl (lv_at hl 1 rfl) ?_
    refine lv_bipush (v := 100) hx hb dX1_setShape_27 (by decide) ?_
    refine lv_idiv hx hb dX1_setShape_29 (by decide) ?_
    refine r_put (ci := 1) (C := RX1) (T := TX1) (N := 9) hx hb hts hin1 tyX1 tyX1_ok nmX1 hown hK hG hk11 (cell_1 hq12) rfl 2 (by decide) lk_18 (fun _ h9 => h9) rfl rfl rfl (Nat.le_of_ble_eq_true rfl) (S' := sX S10 k0 2 (x1 / 100)) rfl (pu_1_2 hq12 (x1 / 100)) dX1_setShape_30 (fun H locs hG => ?_)
    obtain ⟨S13, eS_S13⟩ : ∃ z : GS, z = sX S10 k0 2 (x1 / 100) := ⟨_, rfl⟩
    have h := h S13 eS_S13
    rw [← eS_S13] at hG
    have hs_S13 : gSh S13 S10 := by rw [eS_S13]; exact gSh.x _ _ _ _
    have hsh := hs_S13.tr hsh
    have hk14 := hs_S13.lt hk11
    have hq15 := hs_S13.kd hq12
    refine lv_aload_n hx hb dX1_setShape_33 rfl (lv_at hl 0 rfl) ?_
    refine g_get (ci := 1) (C := RX1) (T := TX1) (N := 9) hx hb hts hin1 hown hK hG hk14 (cell_1 hq15) rfl 0 (by decide) lk_9 (fun _ h9 => h9) (v := .int (gX S13 k0 0)) rfl dX1_setShape_34 ?_
    refine lv_if_eq (tgt := 48) hx hb dX1_setShape_37 (by decide) (fun c_37 => ?_) (fun c_37 => ?_)
    · have h := h.1 c_37
      exact b_48  S13 H locs ls h hsh hG (lv_sub hl [0] rfl)
    · have h := h.2 c_37
      refine lv_aload_n hx hb dX1_setShape_40 rfl (lv_at hl 0 rfl) ?_
      refine g_get (ci := 1) (C := RX1) (T := TX1) (N := 9) hx hb hts hin1 hown hK hG hk14 (cell_1 hq15) rfl 0 (by decide) lk_9 (fun _ h9 => h9) (v := .int (gX S13 k0 0)) rfl dX1_setShape_41 ?_
      refine lv_iconst (v := 1) hx hb dX1_setShape_44 (by decide) ?_
      refine lv_icmp_ne (tgt := 70) hx hb dX1_setShape_45 (by decide) (fun c_45 => ?_) (fun c_45 => ?_)
      · have h := h.1 c_45
        refine lv_iload_n hx hb dX1_setShape_70 rfl (lv_at hl 1 rfl) ?_
        refine lv_bipush (v := 6) hx hb dX1_setShape_71 (by decide) ?_
        refine lv_icmp_gt (tgt := 80) hx hb dX1_setShape_73 (by decide) (fun c_73 => ?_) (fun c_73 => ?_)
        · have h := h.1 c_73
          refine lv_iconst (v := 0) hx hb dX1_setShape_80 (by decide) ?_
          exact b_81 0 S13 H locs ls h hsh hG (lv_sub hl [] rfl)
        · have h := h.2 c_73
          refine lv_iconst (v := 1) hx hb dX1_setShape_76 (by decide) ?_
          refine lv_goto (tgt := 81) hx hb dX1_setShape_77 (by decide) ?_
          exact b_81 1 S13 H locs ls h hsh hG (lv_sub hl [] rfl)
      · have h := h.2 c_45
        exact b_48  S13 H locs ls h hsh hG (lv_sub hl [0] rfl)
  · have h := h.2 c_1
    refine lv_iconst (v := 0) hx hb dX1_setShape_4 (by decide) ?_
    exact W.zret (v := 0) hx hb hr rfl (fun t ht hW => r_end (r := some (vI 0)) hAe hG hsh ⟨_, rfl, h⟩ rfl ht) hG.2.2.2.2 dX1_setShape_5
def wX1_hasText_152 (Q : Int32 → GS → Prop) (k0 : Nat) (t0 : Int32) (S : GS) : Prop :=
  (t0 = 0 ∨ t0 = 1) ∧ Q t0 S
def wX1_hasText_147 (Q : Int32 → GS → Prop) (k0 : Nat)  (S : GS) : Prop :=
  wX1_hasText_152 Q k0 1 S
def wX1_hasText_151 (Q : Int32 → GS → Prop) (k0 : Nat)  (S : GS) : Prop :=
  wX1_hasText_152 Q k0 0 S
def wX1_hasText_127 (Q : Int32 → GS → Prop) (k0 : Nat) (x2 : Int32) (S : GS) : Prop :=
  (x2 = 0 → wX1_hasText_147 Q k0  S) ∧ (¬ x2 = 0 → k0 < gN S ∧ gK S k0 = 1 ∧ ((gX S k0 8) < 0 → wX1_hasText_151 Q k0  S) ∧ (¬ (gX S k0 8) < 0 → ((9999999 : Int32) < (gX S k0 8) → wX1_hasText_151 Q k0  S) ∧ (¬ (9999999 : Int32) < (gX S k0 8) → wX1_hasText_147 Q k0  S)))
def wX1_hasText_109 (Q : Int32 → GS → Prop) (k0 : Nat) (x2 : Int32) (S : GS) : Prop :=
  k0 < gN S ∧ gK S k0 = 1 ∧ (¬ (gX S k0 0) = 1 → wX1_hasText_127 Q k0 x2 S) ∧ ((gX S k0 0) = 1 → wX1_isSize S (gX S k0 7) (fun u7 S6 => gSh S6 S → (u7 = 0 → wX1_hasText_151 Q k0  S6) ∧ (¬ u7 = 0 → wX1_hasText_127 Q k0 x2 S6)))
def wX1_hasText_51 (Q : Int32 → GS → Prop) (k0 : Nat) (x1 : Int32) (t0 : Int32) (S : GS) : Prop :=
  k0 < gN S ∧ gK S k0 = 1 ∧ ((gX S k0 3) < 0 → wX1_hasText_151 Q k0  S) ∧ (¬ (gX S k0 3) < 0 → ((999 : Int32) < (gX S k0 3) → wX1_hasText_151 Q k0  S) ∧ (¬ (999 : Int32) < (gX S k0 3) → ((gX S k0 4) < 0 → wX1_hasText_151 Q k0  S) ∧ (¬ (gX S k0 4) < 0 → ((99999999 : Int32) < (gX S k0 4) → wX1_hasText_151 Q k0  S) ∧ (¬ (99999999 : Int32) < (gX S k0 4) → (x1 = 0 → wX1_hasText_109 Q k0 t0 S) ∧ (¬ x1 = 0 → wX1_isSize S (gX S k0 5) (fun u13 S12 => gSh S12 S → (u13 = 0 → wX1_hasText_151 Q k0  S12) ∧ (¬ u13 = 0 → wX1_isSize S12 (gX S12 k0 6) (fun u17 S16 => gSh S16 S12 → (u17 = 0 → wX1_hasText_151 Q k0  S16) ∧ (¬ u17 = 0 → wX1_hasText_109 Q k0 t0 S16)))))))))
def wX1_hasText_46 (Q : Int32 → GS → Prop) (k0 : Nat) (x1 : Int32) (S : GS) : Prop :=
  wX1_hasText_51 Q k0 x1 1 S
def wX1_hasText_29 (Q : Int32 → GS → Prop) (k0 : Nat) (t0 : Int32) (S : GS) : Prop :=
  k0 < gN S ∧ gK S k0 = 1 ∧ ((gX S k0 0) = 1 → wX1_hasText_46 Q k0 t0 S) ∧ (¬ (gX S k0 0) = 1 → (¬ (gX S k0 0) = 5 → wX1_hasText_51 Q k0 t0 0 S) ∧ ((gX S k0 0) = 5 → wX1_hasText_46 Q k0 t0 S))
def wX1_hasText_24 (Q : Int32 → GS → Prop) (k0 : Nat)  (S : GS) : Prop :=
  wX1_hasText_29 Q k0 1 S
def wX1_hasText (S : GS) (k0 : Nat) (Q : Int32 → GS → Prop) : Prop :=
  k0 < gN S ∧ gK S k0 = 1 ∧ ((gX S k0 0) = 1 → wX1_hasText_24 Q k0  S) ∧ (¬ (gX S k0 0) = 1 → ((gX S k0 0) = 2 → wX1_hasText_24 Q k0  S) ∧ (¬ (gX S k0 0) = 2 → (¬ (gX S k0 0) = 3 → wX1_hasText_29 Q k0 0 S) ∧ ((gX S k0 0) = 3 → wX1_hasText_24 Q k0  S)))
set_option maxHeartbeats 4000000 in
set_option maxRecDepth 100000 in
theorem tX1_hasText (l : Launch) (S : GS) (k0 : Nat) (Q : Int32 → GS → Prop) (h : wX1_hasText S k0 Q) : CS l yX1_hasText wsX1_hasText 1 S [vR (some k0)] (fun r S9 => ∃ x, r = some (vI x) ∧ Q x S9) := by
  refine CS.ofW (cc := cX1_hasText) (maxL := 3) (ret := (some .boolean)) RX1 (by decide) rfl rfl (fun _ _ => Nat.le_of_ble_eq_true rfl) ?_
  intro p e s m args below meth c D Y za ad A ls hAe hx hb hr hml hts hown hlocks hK hA hG hl
  obtain ⟨S0, hS0⟩ : ∃ z : GS, z = S := ⟨_, rfl⟩
  rw [← hS0] at hAe
  rw [← hS0]
  have hin1 : ∀ w ∈ wsX10, w ∈ wsX1_hasText := by decide +kernel
  have lk_9 := hts (.fieldLink RX1 9 "PauseLog$Entry" "shape" "I") (by decide +kernel)
  have lk_21 := hts (.fieldLink RX1 21 "PauseLog$Entry" "id" "I") (by decide +kernel)
  have lk_24 := hts (.fieldLink RX1 24 "PauseLog$Entry" "time" "I") (by decide +kernel)
  have lk_27 := hts (.constant RX1 27 (99999999)) (by decide +kernel)
  have lk_28 := hts (.fieldLink RX1 28 "PauseLog$Entry" "before" "I") (by decide +kernel)
  have lk_35 := hts (.fieldLink RX1 35 "PauseLog$Entry" "after" "I") (by decide +kernel)
  have lk_38 := hts (.fieldLink RX1 38 "PauseLog$Entry" "capacity" "I") (by decide +kernel)
  have lk_41 := hts (.fieldLink RX1 41 "PauseLog$Entry" "took" "I") (by decide +kernel)
  have lk_44 := hts (.constant RX1 44 (9999999)) (by decide +kernel)
  have b_152 : ∀  (t0 : Int32) (S : GS) (H : Heap) (locs : List Loc) (ls : Array Slot), wX1_hasText_152 Q k0 t0 S → gSh S S0 → gS D Y ad A s.heap S H locs → lv_has ls 3 [] → W p l e (rmD 1) s m args below meth c H locs 0 0 (MQ below (gE D Y za ad S0 s.heap.size (fun r S9 => ∃ x, r = some (vI x) ∧ Q x S9)) args s 0 0 A) (F0 m 152 ls [.int t0]) := by
    intro  t0 S H locs ls h hsh hG hl
    unfold wX1_hasText_152 at h
    obtain ⟨hz1, h⟩ := h
    exact W.zret (v := t0) hx hb hr (nar01 hz1) (fun t ht hW => r_end (r := some (vI t0)) hAe hG hsh ⟨_, rfl, h⟩ rfl ht) hG.2.2.2.2 dX1_hasText_152
  have b_147 : ∀   (S : GS) (H : Heap) (locs : List Loc) (ls : Array Slot), wX1_hasText_147 Q k0  S → gSh S S0 → gS D Y ad A s.heap S H locs → lv_has ls 3 [] → W p l e (rmD 1) s m args below meth c H locs 0 0 (MQ below (gE D Y za ad S0 s.heap.size (fun r S9 => ∃ x, r = some (vI x) ∧ Q x S9)) args s 0 0 A) (F0 m 147 ls []) := by
    intro   S H locs ls h hsh hG hl
    unfold wX1_hasText_147 at h
    refine lv_iconst (v := 1) hx hb dX1_hasText_147 (by decide) ?_
    refine lv_goto (tgt := 152) hx hb dX1_hasText_148 (by decide) ?_
    exact b_152 1 S H locs ls h hsh hG (lv_sub hl [] rfl)
  have b_151 : ∀   (S : GS) (H : Heap) (locs : List Loc) (ls : Array Slot), wX1_hasText_151 Q k0  S → gSh S S0 → gS D Y ad A s.heap S H locs → lv_has ls 3 [] → W p l e (rmD 1) s m args below meth c H locs 0 0 (MQ below (gE D Y za ad S0 s.heap.size (fun r S9 => ∃ x, r = some (vI x) ∧ Q x S9)) args s 0 0 A) (F0 m 151 ls []) := by
    intro   S H locs ls h hsh hG hl
    unfold wX1_hasText_151 at h
    refine lv_iconst (v := 0) hx hb dX1_hasText_151 (by decide) ?_
    exact b_152 0 S H locs ls h hsh hG (lv_sub hl [] rfl)
  have b_127 : ∀  (x2 : Int32) (S : GS) (H : Heap) (locs : List Loc) (ls : Array Slot), wX1_hasText_127 Q k0 x2 S → gSh S S0 → gS D Y ad A s.heap S H locs → lv_has ls 3 [(0, .ref (ad k0)), (2, .int x2)] → W p l e (rmD 1) s m args below meth c H locs 0 0 (MQ below (gE D Y za ad S0 s.heap.size (fun r S9 => ∃ x, r = some (vI x) ∧ Q x S9)) args s 0 0 A) (F0 m 127 ls []) := by
    intro  x2 S H locs ls h hsh hG hl
    unfold wX1_hasText_127 at h
    refine lv_iload_n hx hb dX1_hasText_127 rfl (lv_at hl 1 rfl) ?_
    refine lv_if_eq (tgt := 147) hx hb dX1_hasText_128 (by decide) (fun c_128 => ?_) (fun c_128 => ?_)
    · have h := h.1 c_128
      exact b_147  S H locs ls h hsh hG (lv_sub hl [] rfl)
    · have h := h.2 c_128
      refine lv_aload_n hx hb dX1_hasText_131 rfl (lv_at hl 0 rfl) ?_
      obtain ⟨hk2, hq3, h⟩ := h
      refine g_get (ci := 1) (C := RX1) (T := TX1) (N := 9) hx hb hts hin1 hown hK hG hk2 (cell_1 hq3) rfl 8 (by decide) lk_41 (fun _ h9 => h9) (v := .int (gX S k0 8)) rfl dX1_hasText_132 ?_
      refine lv_if_lt (tgt := 151) hx hb dX1_hasText_135 (by decide) (fun c_135 => ?_) (fun c_135 => ?_)
      · have h := h.1 c_135
        exact b_151  S H locs ls h hsh hG (lv_sub hl [] rfl)
      · have h := h.2 c_135
        refine lv_aload_n hx hb dX1_hasText_138 rfl (lv_at hl 0 rfl) ?_
        refine g_get (ci := 1) (C := RX1) (T := TX1) (N := 9) hx hb hts hin1 hown hK hG hk2 (cell_1 hq3) rfl 8 (by decide) lk_41 (fun _ h9 => h9) (v := .int (gX S k0 8)) rfl dX1_hasText_139 ?_
        refine lv_ldc hx hb hown lk_44 dX1_hasText_142 ?_
        refine lv_icmp_gt (tgt := 151) hx hb dX1_hasText_144 (by decide) (fun c_144 => ?_) (fun c_144 => ?_)
        · have h := h.1 c_144
          exact b_151  S H locs ls h hsh hG (lv_sub hl [] rfl)
        · have h := h.2 c_144
          exact b_147  S H locs ls h hsh hG (lv_sub hl [] rfl)
  have b_109 : ∀  (x2 : Int32) (S : GS) (H : Heap) (locs : List Loc) (ls : Array Slot), wX1_hasText_109 Q k0 x2 S → gSh S S0 → gS D Y ad A s.heap S H locs → lv_has ls 3 [(0, .ref (ad k0)), (2, .int x2)] → W p l e (rmD 1) s m args below meth c H locs 0 0 (MQ below (gE D Y za ad S0 s.heap.size (fun r S9 => ∃ x, r = some (vI x) ∧ Q x S9)) args s 0 0 A) (F0 m 109 ls []) := by
    intro  x2 S H locs ls h hsh hG hl
    unfold wX1_hasText_109 at h
    refine lv_aload_n hx hb dX1_hasText_109 rfl (lv_at hl 0 rfl) ?_
    obtain ⟨hk4, hq5, h⟩ := h
    refine g_get (ci := 1) (C := RX1) (T := TX1) (N := 9) hx hb hts hin1 hown hK hG hk4 (cell_1 hq5) rfl 0 (by decide) lk_9 (fun _ h9 => h9) (v := .int (gX S k0 0)) rfl dX1_hasText_110 ?_
    refine lv_iconst (v := 1) hx hb dX1_hasText_113 (by decide) ?_
    refine lv_icmp_ne (tgt := 127) hx hb dX1_hasText_114 (by decide) (fun c_114 => ?_) (fun c_114 => ?_)
    · have h := h.1 c_114
      exact b_127 x2 S H locs ls h hsh hG (lv_sub hl [0, 1] rfl)
    · have h := h.2 c_114
      refine lv_aload_n hx hb dX1_hasText_117 rfl (lv_at hl 0 rfl) ?_
      refine g_get (ci := 1) (C := RX1) (T := TX1) (N := 9) hx hb hts hin1 hown hK hG hk4 (cell_1 hq5) rfl 7 (by decide) lk_38 (fun _ h9 => h9) (v := .int (gX S k0 7)) rfl dX1_hasText_118 ?_
      refine r_callS (za := za) (As := [vI (gX S k0 7)]) (rest := []) (tX1_isSize l S (gX S k0 7) _ h) ⟨hx, hb, hml, hown, hts⟩ (cwS 1 hts gX1_hasText_X1_isSize rfl rfl rfl (by decide +kernel) ⟨by decide, by decide⟩) hK hG hA rfl hl.1 rfl (Nat.le_of_ble_eq_true rfl) ⟨Nat.zero_le _, Nat.zero_le _⟩ dX1_hasText_121 (fun r_9 S6 H locs hp hs_S6 hG => ?_)
      obtain ⟨u7, rfl, h⟩ := hp
      have h := h hs_S6
      refine W.eq (g2 := F0 m 124 ls [.int u7]) rfl ?_
      have hsh := hs_S6.tr hsh
      have hk8 := hs_S6.lt hk4
      have hq9 := hs_S6.kd hq5
      refine lv_if_eq (tgt := 151) hx hb dX1_hasText_124 (by decide) (fun c_124 => ?_) (fun c_124 => ?_)
      · have h := h.1 c_124
        exact b_151  S6 H locs ls h hsh hG (lv_sub hl [] rfl)
      · have h := h.2 c_124
        exact b_127 x2 S6 H locs ls h hsh hG (lv_sub hl [0, 1] rfl)
  have b_51 : ∀  (x1 : Int32) (t0 : Int32) (S : GS) (H : Heap) (locs : List Loc) (ls : Array Slot), wX1_hasText_51 Q k0 x1 t0 S → gSh S S0 → gS D Y ad A s.heap S H locs → lv_has ls 3 [(0, .ref (ad k0)), (1, .int x1)] → W p l e (rmD 1) s m args below meth c H locs 0 0 (MQ below (gE D Y za ad S0 s.heap.size (fun r S9 => ∃ x, r = some (vI x) ∧ Q x S9)) args s 0 0 A) (F0 m 51 ls [.int t0]) := by
    intro  x1 t0 S H locs ls h hsh hG hl
    unfold wX1_hasText_51 at h
    refine lv_istore_n (lv' := [(2, .int t0), (0, .ref (ad k0)), (1, .int x1)]) hx hb dX1_hasText_51 rfl hl (by decide) rfl (fun ls hl => ?_)
    refine lv_aload_n hx hb dX1_hasText_52 rfl (lv_at hl 1 rfl) ?_
    obtain ⟨hk10, hq11, h⟩ := h
    refine g_get (ci := 1) (C := RX1) (T := TX1) (N := 9) hx hb hts hin1 hown hK hG hk10 (cell_1 hq11) rfl 3 (by decide) lk_21 (fun _ h9 => h9) (v := .int (gX S k0 3)) rfl dX1_hasText_53 ?_
    refine lv_if_lt (tgt := 151) hx hb dX1_hasText_56 (by decide) (fun c_56 => ?_) (fun c_56 => ?_)
    · have h := h.1 c_56
      exact b_151  S H locs ls h hsh hG (lv_sub hl [] rfl)
    · have h := h.2 c_56
      refine lv_aload_n hx hb dX1_hasText_59 rfl (lv_at hl 1 rfl) ?_
      refine g_get (ci := 1) (C := RX1) (T := TX1) (N := 9) hx hb hts hin1 hown hK hG hk10 (cell_1 hq11) rfl 3 (by decide) lk_21 (fun _ h9 => h9) (v := .int (gX S k0 3)) rfl dX1_hasText_60 ?_
      refine lv_sipush (v := 999) hx hb dX1_hasText_63 (by decide) ?_
      refine lv_icmp_gt (tgt := 151) hx hb dX1_hasText_66 (by decide) (fun c_66 => ?_) (fun c_66 => ?_)
      · have h := h.1 c_66
        exact b_151  S H locs ls h hsh hG (lv_sub hl [] rfl)
      · have h := h.2 c_66
        refine lv_aload_n hx hb dX1_hasText_69 rfl (lv_at hl 1 rfl) ?_
        refine g_get (ci := 1) (C := RX1) (T := TX1) (N := 9) hx hb hts hin1 hown hK hG hk10 (cell_1 hq11) rfl 4 (by decide) lk_24 (fun _ h9 => h9) (v := .int (gX S k0 4)) rfl dX1_hasText_70 ?_
        refine lv_if_lt (tgt := 151) hx hb dX1_hasText_73 (by decide) (fun c_73 => ?_) (fun c_73 => ?_)
        · have h := h.1 c_73
          exact b_151  S H locs ls h hsh hG (lv_sub hl [] rfl)
        · have h := h.2 c_73
          refine lv_aload_n hx hb dX1_hasText_76 rfl (lv_at hl 1 rfl) ?_
          refine g_get (ci := 1) (C := RX1) (T := TX1) (N := 9) hx hb hts hin1 hown hK hG hk10 (cell_1 hq11) rfl 4 (by decide) lk_24 (fun _ h9 => h9) (v := .int (gX S k0 4)) rfl dX1_hasText_77 ?_
          refine lv_ldc hx hb hown lk_27 dX1_hasText_80 ?_
          refine lv_icmp_gt (tgt := 151) hx hb dX1_hasText_82 (by decide) (fun c_82 => ?_) (fun c_82 => ?_)
          · have h := h.1 c_82
            exact b_151  S H locs ls h hsh hG (lv_sub hl [] rfl)
          · have h := h.2 c_82
            refine lv_iload_n hx hb dX1_hasText_85 rfl (lv_at hl 2 rfl) ?_
            refine lv_if_eq (tgt := 109) hx hb dX1_hasText_86 (by decide) (fun c_86 => ?_) (fun c_86 => ?_)
            · have h := h.1 c_86
              exact b_109 t0 S H locs ls h hsh hG (lv_sub hl [1, 0] rfl)
            · have h := h.2 c_86
              refine lv_aload_n hx hb dX1_hasText_89 rfl (lv_at hl 1 rfl) ?_
              refine g_get (ci := 1) (C := RX1) (T := TX1) (N := 9) hx hb hts hin1 hown hK hG hk10 (cell_1 hq11) rfl 5 (by decide) lk_28 (fun _ h9 => h9) (v := .int (gX S k0 5)) rfl dX1_hasText_90 ?_
              refine r_callS (za := za) (As := [vI (gX S k0 5)]) (rest := []) (tX1_isSize l S (gX S k0 5) _ h) ⟨hx, hb, hml, hown, hts⟩ (cwS 1 hts gX1_hasText_X1_isSize rfl rfl rfl (by decide +kernel) ⟨by decide, by decide⟩) hK hG hA rfl hl.1 rfl (Nat.le_of_ble_eq_true rfl) ⟨Nat.zero_le _, Nat.zero_le _⟩ dX1_hasText_93 (fun r_9 S12 H locs hp hs_S12 hG => ?_)
              obtain ⟨u13, rfl, h⟩ := hp
              have h := h hs_S12
              refine W.eq (g2 := F0 m 96 ls [.int u13]) rfl ?_
              have hsh := hs_S12.tr hsh
              have hk14 := hs_S12.lt hk10
              have hq15 := hs_S12.kd hq11
              refine lv_if_eq (tgt := 151) hx hb dX1_hasText_96 (by decide) (fun c_96 => ?_) (fun c_96 => ?_)
              · have h := h.1 c_96
                exact b_151  S12 H locs ls h hsh hG (lv_sub hl [] rfl)
              · have h := h.2 c_96
                refine lv_aload_n hx hb dX1_hasText_99 rfl (lv_at hl 1 rfl) ?_
                refine g_get (ci := 1) (C := RX1) (T := TX1) (N := 9) hx hb hts hin1 hown hK hG hk14 (cell_1 hq15) rfl 6 (by decide) lk_35 (fun _ h9 => h9) (v := .int (gX S12 k0 6)) rfl dX1_hasText_100 ?_
                refine r_callS (za := za) (As := [vI (gX S12 k0 6)]) (rest := []) (tX1_isSize l S12 (gX S12 k0 6) _ h) ⟨hx, hb, hml, hown, hts⟩ (cwS 1 hts gX1_hasText_X1_isSize rfl rfl rfl (by decide +kernel) ⟨by decide, by decide⟩) hK hG hA rfl hl.1 rfl (Nat.le_of_ble_eq_true rfl) ⟨Nat.zero_le _, Nat.zero_le _⟩ dX1_hasText_103 (fun r_9 S16 H locs hp hs_S16 hG => ?_)
                obtain ⟨u17, rfl, h⟩ := hp
                have h := h hs_S16
                refine W.eq (g2 := F0 m 106 ls [.int u17]) rfl ?_
                have hsh := hs_S16.tr hsh
                have hk18 := hs_S16.lt hk14
                have hq19 := hs_S16.kd hq15
                refine lv_if_eq (tgt := 151) hx hb dX1_hasText_106 (by decide) (fun c_106 => ?_) (fun c_106 => ?_)
                · have h := h.1 c_106
                  exact b_151  S16 H locs ls h hsh hG (lv_sub hl [] rfl)
                · have h := h.2 c_106
                  exact b_109 t0 S16 H locs ls h hsh hG (lv_sub hl [1, 0] rfl)
  have b_46 : ∀  (x1 : Int32) (S : GS) (H : Heap) (locs : List Loc) (ls : Array Slot), wX1_hasText_46 Q k0 x1 S → gSh S S0 → gS D Y ad A s.heap S H locs → lv_has ls 3 [(0, .ref (ad k0)), (1, .int x1)] → W p l e (rmD 1) s m args below meth c H locs 0 0 (MQ below (gE D Y za ad S0 s.heap.size (fun r S9 => ∃ x, r = some (vI x) ∧ Q x S9)) args s 0 0 A) (F0 m 46 ls []) := by
    intro  x1 S H locs ls h hsh hG hl
    unfold wX1_hasText_46 at h
    refine lv_iconst (v := 1) hx hb dX1_hasText_46 (by decide) ?_
    refine lv_goto (tgt := 51) hx hb dX1_hasText_47 (by decide) ?_
    exact b_51 x1 1 S H locs ls h hsh hG (lv_sub hl [0, 1] rfl)
  have b_29 : ∀  (t0 : Int32) (S : GS) (H : Heap) (locs : List Loc) (ls : Array Slot), wX1_hasText_29 Q k0 t0 S → gSh S S0 → gS D Y ad A s.heap S H locs → lv_has ls 3 [(0, .ref (ad k0))] → W p l e (rmD 1) s m args below meth c H locs 0 0 (MQ below (gE D Y za ad S0 s.heap.size (fun r S9 => ∃ x, r = some (vI x) ∧ Q x S9)) args s 0 0 A) (F0 m 29 ls [.int t0]) := by
    intro  t0 S H locs ls h hsh hG hl
    unfold wX1_hasText_29 at h
    refine lv_istore_n (lv' := [(1, .int t0), (0, .ref (ad k0))]) hx hb dX1_hasText_29 rfl hl (by decide) rfl (fun ls hl => ?_)
    refine lv_aload_n hx hb dX1_hasText_30 rfl (lv_at hl 1 rfl) ?_
    obtain ⟨hk20, hq21, h⟩ := h
    refine g_get (ci := 1) (C := RX1) (T := TX1) (N := 9) hx hb hts hin1 hown hK hG hk20 (cell_1 hq21) rfl 0 (by decide) lk_9 (fun _ h9 => h9) (v := .int (gX S k0 0)) rfl dX1_hasText_31 ?_
    refine lv_iconst (v := 1) hx hb dX1_hasText_34 (by decide) ?_
    refine lv_icmp_eq (tgt := 46) hx hb dX1_hasText_35 (by decide) (fun c_35 => ?_) (fun c_35 => ?_)
    · have h := h.1 c_35
      exact b_46 t0 S H locs ls h hsh hG (lv_sub hl [1, 0] rfl)
    · have h := h.2 c_35
      refine lv_aload_n hx hb dX1_hasText_38 rfl (lv_at hl 1 rfl) ?_
      refine g_get (ci := 1) (C := RX1) (T := TX1) (N := 9) hx hb hts hin1 hown hK hG hk20 (cell_1 hq21) rfl 0 (by decide) lk_9 (fun _ h9 => h9) (v := .int (gX S k0 0)) rfl dX1_hasText_39 ?_
      refine lv_iconst (v := 5) hx hb dX1_hasText_42 (by decide) ?_
      refine lv_icmp_ne (tgt := 50) hx hb dX1_hasText_43 (by decide) (fun c_43 => ?_) (fun c_43 => ?_)
      · have h := h.1 c_43
        refine lv_iconst (v := 0) hx hb dX1_hasText_50 (by decide) ?_
        exact b_51 t0 0 S H locs ls h hsh hG (lv_sub hl [1, 0] rfl)
      · have h := h.2 c_43
        exact b_46 t0 S H locs ls h hsh hG (lv_sub hl [1, 0] rfl)
  have b_24 : ∀   (S : GS) (H : Heap) (locs : List Loc) (ls : Array Slot), wX1_hasText_24 Q k0  S → gSh S S0 → gS D Y ad A s.heap S H locs → lv_has ls 3 [(0, .ref (ad k0))] → W p l e (rmD 1) s m args below meth c H locs 0 0 (MQ below (gE D Y za ad S0 s.heap.size (fun r S9 => ∃ x, r = some (vI x) ∧ Q x S9)) args s 0 0 A) (F0 m 24 ls []) := by
    intro   S H locs ls h hsh hG hl
    unfold wX1_hasText_24 at h
    refine lv_iconst (v := 1) hx hb dX1_hasText_24 (by decide) ?_
    refine lv_goto (tgt := 29) hx hb dX1_hasText_25 (by decide) ?_
    exact b_29 1 S H locs ls h hsh hG (lv_sub hl [0] rfl)
  have hl : lv_has ls 3 [(0, .ref (ad k0))] := hl
  have hsh : gSh S S0 := by rw [hS0]; exact gSh.rf S
  obtain ⟨H, eH⟩ : ∃ z : Heap, z = s.heap := ⟨_, rfl⟩
  obtain ⟨locs, eL⟩ : ∃ z : List Loc, z = [] := ⟨_, rfl⟩
  have hG : gS D Y ad A s.heap S H locs := by rw [eH, eL]; exact hG
  suffices hgoal : W p l e (rmD 1) s m args below meth c H locs 0 0 (MQ below (gE D Y za ad S0 s.heap.size (fun r S9 => ∃ x, r = some (vI x) ∧ Q x S9)) args s 0 0 A) (F0 m 0 ls []) by rw [eH, eL] at hgoal; exact hgoal
  unfold wX1_hasText at h
  refine lv_aload_n hx hb dX1_hasText_0 rfl (lv_at hl 0 rfl) ?_
  obtain ⟨hk22, hq23, h⟩ := h
  refine g_get (ci := 1) (C := RX1) (T := TX1) (N := 9) hx hb hts hin1 hown hK hG hk22 (cell_1 hq23) rfl 0 (by decide) lk_9 (fun _ h9 => h9) (v := .int (gX S k0 0)) rfl dX1_hasText_1 ?_
  refine lv_iconst (v := 1) hx hb dX1_hasText_4 (by decide) ?_
  refine lv_icmp_eq (tgt := 24) hx hb dX1_hasText_5 (by decide) (fun c_5 => ?_) (fun c_5 => ?_)
  · have h := h.1 c_5
    exact b_24  S H locs ls h hsh hG (lv_sub hl [0] rfl)
  · have h := h.2 c_5
    refine lv_aload_n hx hb dX1_hasText_8 rfl (lv_at hl 0 rfl) ?_
    refine g_get (ci := 1) (C := RX1) (T := TX1) (N := 9) hx hb hts hin1 hown hK hG hk22 (cell_1 hq23) rfl 0 (by decide) lk_9 (fun _ h9 => h9) (v := .int (gX S k0 0)) rfl dX1_hasText_9 ?_
    refine lv_iconst (v := 2) hx hb dX1_hasText_12 (by decide) ?_
    refine lv_icmp_eq (tgt := 24) hx hb dX1_hasText_13 (by decide) (fun c_13 => ?_) (fun c_13 => ?_)
    · have h := h.1 c_13
      exact b_24  S H locs ls h hsh hG (lv_sub hl [0] rfl)
    · have h := h.2 c_13
      refine lv_aload_n hx hb dX1_hasText_16 rfl (lv_at hl 0 rfl) ?_
      refine g_get (ci := 1) (C := RX1) (T := TX1) (N := 9) hx hb hts hin1 hown hK hG hk22 (cell_1 hq23) rfl 0 (by decide) lk_9 (fun _ h9 => h9) (v := .int (gX S k0 0)) rfl dX1_hasText_17 ?_
      refine lv_iconst (v := 3) hx hb dX1_hasText_20 (by decide) ?_
      refine lv_icmp_ne (tgt := 28) hx hb dX1_hasText_21 (by decide) (fun c_21 => ?_) (fun c_21 => ?_)
      · have h := h.1 c_21
        refine lv_iconst (v := 0) hx hb dX1_hasText_28 (by decide) ?_
        exact b_29 0 S H locs ls h hsh hG (lv_sub hl [0] rfl)
      · have h := h.2 c_21
        exact b_24  S H locs ls h hsh hG (lv_sub hl [0] rfl)
