def wX3_isFull_17 (Q : Int32 → GS → Prop) (k0 : Nat) (t0 : Int32) (S : GS) : Prop :=
  (t0 = 0 ∨ t0 = 1) ∧ Q t0 S
def wX3_isFull (S : GS) (k0 : Nat) (Q : Int32 → GS → Prop) : Prop :=
  k0 < gN S ∧ gK S k0 = 3 ∧ ∃ q4 : Nat, gR S k0 0 = some q4 ∧ q4 < gN S ∧ gK S q4 = 13 ∧ ((gX S k0 1) < (nI (gL S q4)) → wX3_isFull_17 Q k0 0 S) ∧ (¬ (gX S k0 1) < (nI (gL S q4)) → wX3_isFull_17 Q k0 1 S)
set_option maxHeartbeats 4000000 in
set_option maxRecDepth 100000 in
theorem tX3_isFull (l : Launch) (S : GS) (k0 : Nat) (Q : Int32 → GS → Prop) (h : wX3_isFull S k0 Q) : CS l yX3_isFull wsX3_isFull 0 S [vR (some k0)] (fun r S9 => ∃ x, r = some (vI x) ∧ Q x S9) := by
  refine CS.ofW (cc := cX3_isFull) (maxL := 1) (ret := (some .boolean)) RX3 (by decide) rfl rfl (fun _ _ => Nat.le_of_ble_eq_true rfl) ?_
  intro p e s m args below meth c D Y za ad A ls hAe hx hb hr hml hts hown hlocks hK hA hG hl
  obtain ⟨S0, hS0⟩ : ∃ z : GS, z = S := ⟨_, rfl⟩
  rw [← hS0] at hAe
  rw [← hS0]
  have hin3 : ∀ w ∈ wsX30, w ∈ wsX3_isFull := by decide +kernel
  have lk_17 := hts (.fieldLink RX3 17 "PauseLog$Events" "size" "I") (by decide +kernel)
  have lk_11 := hts (.fieldLink RX3 11 "PauseLog$Events" "row" "[LPauseLog$Event;") (by decide +kernel)
  have b_17 : ∀  (t0 : Int32) (S : GS) (H : Heap) (locs : List Loc) (ls : Array Slot), wX3_isFull_17 Q k0 t0 S → gSh S S0 → gS D Y ad A s.heap S H locs → lv_has ls 1 [] → W p l e (rmD 0) s m args below meth c H locs 0 0 (MQ below (gE D Y za ad S0 s.heap.size (fun r S9 => ∃ x, r = some (vI x) ∧ Q x S9)) args s 0 0 A) (F0 m 17 ls [.int t0]) := by
    intro  t0 S H locs ls h hsh hG hl
    unfold wX3_isFull_17 at h
    obtain ⟨hz1, h⟩ := h
    exact W.zret (v := t0) hx hb hr (nar01 hz1) (fun t ht hW => r_end (r := some (vI t0)) hAe hG hsh ⟨_, rfl, h⟩ rfl ht) hG.2.2.2.2 dX3_isFull_17
  have hl : lv_has ls 1 [(0, .ref (ad k0))] := hl
  have hsh : gSh S S0 := by rw [hS0]; exact gSh.rf S
  obtain ⟨H, eH⟩ : ∃ z : Heap, z = s.heap := ⟨_, rfl⟩
  obtain ⟨locs, eL⟩ : ∃ z : List Loc, z = [] := ⟨_, rfl⟩
  have hG : gS D Y ad A s.heap S H locs := by rw [eH, eL]; exact hG
  suffices hgoal : W p l e (rmD 0) s m args below meth c H locs 0 0 (MQ below (gE D Y za ad S0 s.heap.size (fun r S9 => ∃ x, r = some (vI x) ∧ Q x S9)) args s 0 0 A) (F0 m 0 ls []) by rw [eH, eL] at hgoal; exact hgoal
  unfold wX3_isFull at h
  refine lv_aload_n hx hb dX3_isFull_0 rfl (lv_at hl 0 rfl) ?_
  obtain ⟨hk2, hq3, h⟩ := h
  refine g_get (ci := 3) (C := RX3) (T := TX3) (N := 2) hx hb hts hin3 hown hK hG hk2 (cell_3 hq3) rfl 1 (by decide) lk_17 (fun _ h9 => h9) (v := .int (gX S k0 1)) rfl dX3_isFull_1 ?_
  refine lv_aload_n hx hb dX3_isFull_4 rfl (lv_at hl 0 rfl) ?_
  refine g_get (ci := 3) (C := RX3) (T := TX3) (N := 2) hx hb hts hin3 hown hK hG hk2 (cell_3 hq3) rfl 0 (by decide) lk_11 (fun _ h9 => h9) (v := rv ad (gR S k0 0)) rfl dX3_isFull_5 ?_
  obtain ⟨q4, e5, h⟩ := h
  refine W.eq (g2 := F0 m 8 ls [.ref (ad q4), .int (gX S k0 1)]) (by rw [e5]; rfl) ?_
  obtain ⟨hk6, hq7, h⟩ := h
  refine r_alen hx hb hK hG hk6 (by first | exact Or.inl hq7 | exact Or.inr (Or.inl hq7) | exact Or.inr (Or.inr hq7)) dX3_isFull_8 ?_
  refine lv_icmp_lt (tgt := 16) hx hb dX3_isFull_9 (by decide) (fun c_9 => ?_) (fun c_9 => ?_)
  · have h := h.1 c_9
    refine lv_iconst (v := 0) hx hb dX3_isFull_16 (by decide) ?_
    exact b_17 0 S H locs ls h hsh hG (lv_sub hl [] rfl)
  · have h := h.2 c_9
    refine lv_iconst (v := 1) hx hb dX3_isFull_12 (by decide) ?_
    refine lv_goto (tgt := 17) hx hb dX3_isFull_13 (by decide) ?_
    exact b_17 1 S H locs ls h hsh hG (lv_sub hl [] rfl)
def wX3_add_39 (Q : GS → Prop) (k0 : Nat)  (S : GS) : Prop :=
  Q S
def wX3_add (S : GS) (k0 : Nat) (x1 : Nat) (Q : GS → Prop) : Prop :=
  k0 < gN S ∧ gK S k0 = 3 ∧ ((gX S k0 1) < 0 → wX3_add_39 Q k0  S) ∧ (¬ (gX S k0 1) < 0 → ∃ q3 : Nat, gR S k0 0 = some q3 ∧ q3 < gN S ∧ gK S q3 = 13 ∧ ((nI (gL S q3)) ≤ (gX S k0 1) → wX3_add_39 Q k0  S) ∧ (¬ (nI (gL S q3)) ≤ (gX S k0 1) → vp_in (gX S k0 1) (gL S q3) ∧ x1 < gN S ∧ gK S x1 = 2 ∧ ∀ S10 : GS, S10 = sR S q3 (Int32.toNatClampNeg (gX S k0 1)) (some x1) → ∀ S17 : GS, S17 = sX S10 k0 1 ((gX S10 k0 1) + 1) → wX3_add_39 Q k0  S17))
set_option maxHeartbeats 4000000 in
set_option maxRecDepth 100000 in
theorem tX3_add (l : Launch) (S : GS) (k0 : Nat) (x1 : Nat) (Q : GS → Prop) (h : wX3_add S k0 x1 Q) : CS l yX3_add wsX3_add 0 S [vR (some k0), vR (some x1)] (fun r S9 => r = none ∧ Q S9) := by
  refine CS.ofW (cc := cX3_add) (maxL := 2) (ret := none) RX3 (by decide) rfl rfl (fun _ _ => Nat.le_of_ble_eq_true rfl) ?_
  intro p e s m args below meth c D Y za ad A ls hAe hx hb hr hml hts hown hlocks hK hA hG hl
  obtain ⟨S0, hS0⟩ : ∃ z : GS, z = S := ⟨_, rfl⟩
  rw [← hS0] at hAe
  rw [← hS0]
  have hin3 : ∀ w ∈ wsX30, w ∈ wsX3_add := by decide +kernel
  have lk_17 := hts (.fieldLink RX3 17 "PauseLog$Events" "size" "I") (by decide +kernel)
  have lk_11 := hts (.fieldLink RX3 11 "PauseLog$Events" "row" "[LPauseLog$Event;") (by decide +kernel)
  have b_39 : ∀   (S : GS) (H : Heap) (locs : List Loc) (ls : Array Slot), wX3_add_39 Q k0  S → gSh S S0 → gS D Y ad A s.heap S H locs → lv_has ls 2 [] → W p l e (rmD 0) s m args below meth c H locs 0 0 (MQ below (gE D Y za ad S0 s.heap.size (fun r S9 => r = none ∧ Q S9)) args s 0 0 A) (F0 m 39 ls []) := by
    intro   S H locs ls h hsh hG hl
    unfold wX3_add_39 at h
    exact W.vret hx hb hr (fun t ht hW => r_end (r := none) hAe hG hsh ⟨rfl, h⟩ rfl ht) hG.2.2.2.2 dX3_add_39
  have hl : lv_has ls 2 [(0, .ref (ad k0)), (1, .ref (ad x1))] := hl
  have hsh : gSh S S0 := by rw [hS0]; exact gSh.rf S
  obtain ⟨H, eH⟩ : ∃ z : Heap, z = s.heap := ⟨_, rfl⟩
  obtain ⟨locs, eL⟩ : ∃ z : List Loc, z = [] := ⟨_, rfl⟩
  have hG : gS D Y ad A s.heap S H locs := by rw [eH, eL]; exact hG
  suffices hgoal : W p l e (rmD 0) s m args below meth c H locs 0 0 (MQ below (gE D Y za ad S0 s.heap.size (fun r S9 => r = none ∧ Q S9)) args s 0 0 A) (F0 m 0 ls []) by rw [eH, eL] at hgoal; exact hgoal
  unfold wX3_add at h
  refine lv_aload_n hx hb dX3_add_0 rfl (lv_at hl 0 rfl) ?_
  obtain ⟨hk1, hq2, h⟩ := h
  refine g_get (ci := 3) (C := RX3) (T := TX3) (N := 2) hx hb hts hin3 hown hK hG hk1 (cell_3 hq2) rfl 1 (by decide) lk_17 (fun _ h9 => h9) (v := .int (gX S k0 1)) rfl dX3_add_1 ?_
  refine lv_if_lt (tgt := 39) hx hb dX3_add_4 (by decide) (fun c_4 => ?_) (fun c_4 => ?_)
  · have h := h.1 c_4
    exact b_39  S H locs ls h hsh hG (lv_sub hl [] rfl)
  · have h := h.2 c_4
    refine lv_aload_n hx hb dX3_add_7 rfl (lv_at hl 0 rfl) ?_
    refine g_get (ci := 3) (C := RX3) (T := TX3) (N := 2) hx hb hts hin3 hown hK hG hk1 (cell_3 hq2) rfl 1 (by decide) lk_17 (fun _ h9 => h9) (v := .int (gX S k0 1)) rfl dX3_add_8 ?_
    refine lv_aload_n hx hb dX3_add_11 rfl (lv_at hl 0 rfl) ?_
    refine g_get (ci := 3) (C := RX3) (T := TX3) (N := 2) hx hb hts hin3 hown hK hG hk1 (cell_3 hq2) rfl 0 (by decide) lk_11 (fun _ h9 => h9) (v := rv ad (gR S k0 0)) rfl dX3_add_12 ?_
    obtain ⟨q3, e4, h⟩ := h
    refine W.eq (g2 := F0 m 15 ls [.ref (ad q3), .int (gX S k0 1)]) (by rw [e4]; rfl) ?_
    obtain ⟨hk5, hq6, h⟩ := h
    refine r_alen hx hb hK hG hk5 (by first | exact Or.inl hq6 | exact Or.inr (Or.inl hq6) | exact Or.inr (Or.inr hq6)) dX3_add_15 ?_
    refine lv_icmp_ge (tgt := 39) hx hb dX3_add_16 (by decide) (fun c_16 => ?_) (fun c_16 => ?_)
    · have h := h.1 c_16
      exact b_39  S H locs ls h hsh hG (lv_sub hl [] rfl)
    · have h := h.2 c_16
      refine lv_aload_n hx hb dX3_add_19 rfl (lv_at hl 0 rfl) ?_
      refine g_get (ci := 3) (C := RX3) (T := TX3) (N := 2) hx hb hts hin3 hown hK hG hk1 (cell_3 hq2) rfl 0 (by decide) lk_11 (fun _ h9 => h9) (v := rv ad (gR S k0 0)) rfl dX3_add_20 ?_
      refine lv_aload_n hx hb dX3_add_23 rfl (lv_at hl 0 rfl) ?_
      refine g_get (ci := 3) (C := RX3) (T := TX3) (N := 2) hx hb hts hin3 hown hK hG hk1 (cell_3 hq2) rfl 1 (by decide) lk_17 (fun _ h9 => h9) (v := .int (gX S k0 1)) rfl dX3_add_24 ?_
      refine lv_aload_n hx hb dX3_add_27 rfl (lv_at hl 1 rfl) ?_
      refine W.eq (g2 := F0 m 28 ls [.ref (ad x1), .int (gX S k0 1), .ref (ad q3)]) (by rw [e4]; rfl) ?_
      obtain ⟨hi7, h⟩ := h
      obtain ⟨hk8, hq9, h⟩ := h
      refine r_aast hx hb hK hG hk5 hq6 hk8 hq9 hi7 dX3_add_28 (fun H locs hG => ?_)
      obtain ⟨S10, eS_S10⟩ : ∃ z : GS, z = sR S q3 (Int32.toNatClampNeg (gX S k0 1)) (some x1) := ⟨_, rfl⟩
      have h := h S10 eS_S10
      rw [← eS_S10] at hG
      have hs_S10 : gSh S10 S := by rw [eS_S10]; exact gSh.r _ _ _ _
      have hsh := hs_S10.tr hsh
      have hk11 := hs_S10.lt hk1
      have hq12 := hs_S10.kd hq2
      have hk13 := hs_S10.lt hk5
      have hq14 := hs_S10.kd hq6
      have hk15 := hs_S10.lt hk8
      have hq16 := hs_S10.kd hq9
      refine lv_aload_n hx hb dX3_add_29 rfl (lv_at hl 0 rfl) ?_
      refine lv_dup hx hb dX3_add_30 rfl ?_
      refine g_get (ci := 3) (C := RX3) (T := TX3) (N := 2) hx hb hts hin3 hown hK hG hk11 (cell_3 hq12) rfl 1 (by decide) lk_17 (fun _ h9 => h9) (v := .int (gX S10 k0 1)) rfl dX3_add_31 ?_
      refine lv_iconst (v := 1) hx hb dX3_add_34 (by decide) ?_
      refine lv_iadd hx hb dX3_add_35 ?_
      refine r_put (ci := 3) (C := RX3) (T := TX3) (N := 2) hx hb hts hin3 tyX3 tyX3_ok nmX3 hown hK hG hk11 (cell_3 hq12) rfl 1 (by decide) lk_17 (fun _ h9 => h9) rfl rfl rfl (Nat.le_of_ble_eq_true rfl) (S' := sX S10 k0 1 ((gX S10 k0 1) + 1)) rfl (pu_3_1 hq12 ((gX S10 k0 1) + 1)) dX3_add_36 (fun H locs hG => ?_)
      obtain ⟨S17, eS_S17⟩ : ∃ z : GS, z = sX S10 k0 1 ((gX S10 k0 1) + 1) := ⟨_, rfl⟩
      have h := h S17 eS_S17
      rw [← eS_S17] at hG
      have hs_S17 : gSh S17 S10 := by rw [eS_S17]; exact gSh.x _ _ _ _
      have hsh := hs_S17.tr hsh
      have hk18 := hs_S17.lt hk11
      have hq19 := hs_S17.kd hq12
      have hk20 := hs_S17.lt hk13
      have hq21 := hs_S17.kd hq14
      have hk22 := hs_S17.lt hk15
      have hq23 := hs_S17.kd hq16
      exact b_39  S17 H locs ls h hsh hG (lv_sub hl [] rfl)
def wX3_get_31 (Q : Option Nat → GS → Prop) (k0 : Nat) (t0 : Option Nat) (S : GS) : Prop :=
  Q t0 S
def wX3_get_30 (Q : Option Nat → GS → Prop) (k0 : Nat)  (S : GS) : Prop :=
  wX3_get_31 Q k0 none S
def wX3_get (S : GS) (k0 : Nat) (x1 : Int32) (Q : Option Nat → GS → Prop) : Prop :=
  (x1 < 0 → wX3_get_30 Q k0  S) ∧ (¬ x1 < 0 → k0 < gN S ∧ gK S k0 = 3 ∧ ((gX S k0 1) ≤ x1 → wX3_get_30 Q k0  S) ∧ (¬ (gX S k0 1) ≤ x1 → ∃ q3 : Nat, gR S k0 0 = some q3 ∧ q3 < gN S ∧ gK S q3 = 13 ∧ ((nI (gL S q3)) ≤ x1 → wX3_get_30 Q k0  S) ∧ (¬ (nI (gL S q3)) ≤ x1 → vp_in x1 (gL S q3) ∧ wX3_get_31 Q k0 (gR S q3 (Int32.toNatClampNeg x1)) S)))
set_option maxHeartbeats 4000000 in
set_option maxRecDepth 100000 in
theorem tX3_get (l : Launch) (S : GS) (k0 : Nat) (x1 : Int32) (Q : Option Nat → GS → Prop) (h : wX3_get S k0 x1 Q) : CS l yX3_get wsX3_get 0 S [vR (some k0), vI x1] (fun r S9 => ∃ x, r = some (vR x) ∧ Q x S9) := by
  refine CS.ofW (cc := cX3_get) (maxL := 2) (ret := (some (.object "PauseLog$Event"))) RX3 (by decide) rfl rfl (fun _ _ => Nat.le_of_ble_eq_true rfl) ?_
  intro p e s m args below meth c D Y za ad A ls hAe hx hb hr hml hts hown hlocks hK hA hG hl
  obtain ⟨S0, hS0⟩ : ∃ z : GS, z = S := ⟨_, rfl⟩
  rw [← hS0] at hAe
  rw [← hS0]
  have hin3 : ∀ w ∈ wsX30, w ∈ wsX3_get := by decide +kernel
  have lk_17 := hts (.fieldLink RX3 17 "PauseLog$Events" "size" "I") (by decide +kernel)
  have lk_11 := hts (.fieldLink RX3 11 "PauseLog$Events" "row" "[LPauseLog$Event;") (by decide +kernel)
  have b_31 : ∀  (t0 : Option Nat) (S : GS) (H : Heap) (locs : List Loc) (ls : Array Slot), wX3_get_31 Q k0 t0 S → gSh S S0 → gS D Y ad A s.heap S H locs → lv_has ls 2 [] → W p l e (rmD 0) s m args below meth c H locs 0 0 (MQ below (gE D Y za ad S0 s.heap.size (fun r S9 => ∃ x, r = some (vR x) ∧ Q x S9)) args s 0 0 A) (F0 m 31 ls [rv ad t0]) := by
    intro  t0 S H locs ls h hsh hG hl
    unfold wX3_get_31 at h
    exact W.aret (v := rv ad t0) hx hb hr (Or.inl ⟨_, rfl⟩) (rv_or _ _) (fun t ht hW => r_end (r := some (vR t0)) hAe hG hsh ⟨_, rfl, h⟩ rfl ht) hG.2.2.2.2 dX3_get_31
  have b_30 : ∀   (S : GS) (H : Heap) (locs : List Loc) (ls : Array Slot), wX3_get_30 Q k0  S → gSh S S0 → gS D Y ad A s.heap S H locs → lv_has ls 2 [] → W p l e (rmD 0) s m args below meth c H locs 0 0 (MQ below (gE D Y za ad S0 s.heap.size (fun r S9 => ∃ x, r = some (vR x) ∧ Q x S9)) args s 0 0 A) (F0 m 30 ls []) := by
    intro   S H locs ls h hsh hG hl
    unfold wX3_get_30 at h
    refine lv_null hx hb dX3_get_30 ?_
    exact b_31 none S H locs ls h hsh hG (lv_sub hl [] rfl)
  have hl : lv_has ls 2 [(0, .ref (ad k0)), (1, .int x1)] := hl
  have hsh : gSh S S0 := by rw [hS0]; exact gSh.rf S
  obtain ⟨H, eH⟩ : ∃ z : Heap, z = s.heap := ⟨_, rfl⟩
  obtain ⟨locs, eL⟩ : ∃ z : List Loc, z = [] := ⟨_, rfl⟩
  have hG : gS D Y ad A s.heap S H locs := by rw [eH, eL]; exact hG
  suffices hgoal : W p l e (rmD 0) s m args below meth c H locs 0 0 (MQ below (gE D Y za ad S0 s.heap.size (fun r S9 => ∃ x, r = some (vR x) ∧ Q x S9)) args s 0 0 A) (F0 m 0 ls []) by rw [eH, eL] at hgoal; exact hgoal
  unfold wX3_get at h
  refine lv_iload_n hx hb dX3_get_0 rfl (lv_at hl 1 rfl) ?_
  refine lv_if_lt (tgt := 30) hx hb dX3_get_1 (by decide) (fun c_1 => ?_) (fun c_1 => ?_)
  · have h := h.1 c_1
    exact b_30  S H locs ls h hsh hG (lv_sub hl [] rfl)
  · have h := h.2 c_1
    refine lv_iload_n hx hb dX3_get_4 rfl (lv_at hl 1 rfl) ?_
    refine lv_aload_n hx hb dX3_get_5 rfl (lv_at hl 0 rfl) ?_
    obtain ⟨hk1, hq2, h⟩ := h
    refine g_get (ci := 3) (C := RX3) (T := TX3) (N := 2) hx hb hts hin3 hown hK hG hk1 (cell_3 hq2) rfl 1 (by decide) lk_17 (fun _ h9 => h9) (v := .int (gX S k0 1)) rfl dX3_get_6 ?_
    refine lv_icmp_ge (tgt := 30) hx hb dX3_get_9 (by decide) (fun c_9 => ?_) (fun c_9 => ?_)
    · have h := h.1 c_9
      exact b_30  S H locs ls h hsh hG (lv_sub hl [] rfl)
    · have h := h.2 c_9
      refine lv_iload_n hx hb dX3_get_12 rfl (lv_at hl 1 rfl) ?_
      refine lv_aload_n hx hb dX3_get_13 rfl (lv_at hl 0 rfl) ?_
      refine g_get (ci := 3) (C := RX3) (T := TX3) (N := 2) hx hb hts hin3 hown hK hG hk1 (cell_3 hq2) rfl 0 (by decide) lk_11 (fun _ h9 => h9) (v := rv ad (gR S k0 0)) rfl dX3_get_14 ?_
      obtain ⟨q3, e4, h⟩ := h
      refine W.eq (g2 := F0 m 17 ls [.ref (ad q3), .int x1]) (by rw [e4]; rfl) ?_
      obtain ⟨hk5, hq6, h⟩ := h
      refine r_alen hx hb hK hG hk5 (by first | exact Or.inl hq6 | exact Or.inr (Or.inl hq6) | exact Or.inr (Or.inr hq6)) dX3_get_17 ?_
      refine lv_icmp_ge (tgt := 30) hx hb dX3_get_18 (by decide) (fun c_18 => ?_) (fun c_18 => ?_)
      · have h := h.1 c_18
        exact b_30  S H locs ls h hsh hG (lv_sub hl [] rfl)
      · have h := h.2 c_18
        refine lv_aload_n hx hb dX3_get_21 rfl (lv_at hl 0 rfl) ?_
        refine g_get (ci := 3) (C := RX3) (T := TX3) (N := 2) hx hb hts hin3 hown hK hG hk1 (cell_3 hq2) rfl 0 (by decide) lk_11 (fun _ h9 => h9) (v := rv ad (gR S k0 0)) rfl dX3_get_22 ?_
        refine lv_iload_n hx hb dX3_get_25 rfl (lv_at hl 1 rfl) ?_
        refine W.eq (g2 := F0 m 26 ls [.int x1, .ref (ad q3)]) (by rw [e4]; rfl) ?_
        obtain ⟨hi7, h⟩ := h
        refine r_aald hx hb hK hG hk5 hq6 hi7 dX3_get_26 ?_
        refine lv_goto (tgt := 31) hx hb dX3_get_27 (by decide) ?_
        exact b_31 (gR S q3 (Int32.toNatClampNeg x1)) S H locs ls h hsh hG (lv_sub hl [] rfl)
def wX3_pausesThatTook_56 (Q : Int32 → GS → Prop) (L_5 : Int32 → Int32 → Int32 → Int32 → GS → Prop) (k0 : Nat) (x1 : Int32) (x2 : Int32) (x3 : Int32) (x4 : Int32) (S : GS) : Prop :=
  L_5 x1 x2 x3 (x4 + 1) S
def wX3_pausesThatTook_5 (Q : Int32 → GS → Prop) (k0 : Nat) : Nat → Int32 → Int32 → Int32 → Int32 → GS → Prop
  | 0, _, _, _, _, _ => False
  | f9 + 1, x1, x2, x3, x4, S =>
  k0 < gN S ∧ gK S k0 = 3 ∧ ((gX S k0 1) ≤ x4 → Q x3 S) ∧ (¬ (gX S k0 1) ≤ x4 → wX3_get S k0 x4 (fun u4 S3 => gSh S3 S → (u4 = none → wX3_pausesThatTook_56 Q (wX3_pausesThatTook_5 Q k0 f9) k0 x1 x2 x3 x4 S3) ∧ (∀ q7 : Nat, u4 = some q7 → q7 < gN S3 ∧ gK S3 q7 = 2 ∧ wX2_isPause S3 q7  (fun u12 S11 => gSh S11 S3 → (u12 = 0 → wX3_pausesThatTook_56 Q (wX3_pausesThatTook_5 Q k0 f9) k0 x1 x2 x3 x4 S11) ∧ (¬ u12 = 0 → ∃ q17 : Nat, u4 = some q17 ∧ q17 < gN S11 ∧ gK S11 q17 = 2 ∧ ((gX S11 q17 9) < x1 → wX3_pausesThatTook_56 Q (wX3_pausesThatTook_5 Q k0 f9) k0 x1 x2 x3 x4 S11) ∧ (¬ (gX S11 q17 9) < x1 → (x2 < (gX S11 q17 9) → wX3_pausesThatTook_56 Q (wX3_pausesThatTook_5 Q k0 f9) k0 x1 x2 x3 x4 S11) ∧ (¬ x2 < (gX S11 q17 9) → wX3_pausesThatTook_56 Q (wX3_pausesThatTook_5 Q k0 f9) k0 x1 x2 (x3 + 1) x4 S11)))))))
def wX3_pausesThatTook (S : GS) (k0 : Nat) (x1 : Int32) (x2 : Int32) (Q : Int32 → GS → Prop) : Prop :=
  ∃ f21 : Nat, wX3_pausesThatTook_5 Q k0 f21 x1 x2 0 0 S
set_option maxHeartbeats 4000000 in
set_option maxRecDepth 100000 in
theorem tX3_pausesThatTook (l : Launch) (S : GS) (k0 : Nat) (x1 : Int32) (x2 : Int32) (Q : Int32 → GS → Prop) (h : wX3_pausesThatTook S k0 x1 x2 Q) : CS l yX3_pausesThatTook wsX3_pausesThatTook 1 S [vR (some k0), vI x1, vI x2] (fun r S9 => ∃ x, r = some (vI x) ∧ Q x S9) := by
  refine CS.ofW (cc := cX3_pausesThatTook) (maxL := 6) (ret := (some .int)) RX3 (by decide) rfl rfl (fun _ _ => Nat.le_of_ble_eq_true rfl) ?_
  intro p e s m args below meth c D Y za ad A ls hAe hx hb hr hml hts hown hlocks hK hA hG hl
  obtain ⟨S0, hS0⟩ : ∃ z : GS, z = S := ⟨_, rfl⟩
  rw [← hS0] at hAe
  rw [← hS0]
  have hin2 : ∀ w ∈ wsX20, w ∈ wsX3_pausesThatTook := by decide +kernel
  have hin3 : ∀ w ∈ wsX30, w ∈ wsX3_pausesThatTook := by decide +kernel
  have lk_17 := hts (.fieldLink RX3 17 "PauseLog$Events" "size" "I") (by decide +kernel)
  have lk_29 := hts (.fieldLink RX3 29 "PauseLog$Event" "took" "I") (by decide +kernel)
  have b_56 : ∀ (L_5 : Int32 → Int32 → Int32 → Int32 → GS → Prop) (hL_5 : ∀ (x1 : Int32) (x2 : Int32) (x3 : Int32) (x4 : Int32) (S : GS) (H : Heap) (locs : List Loc) (ls : Array Slot), L_5 x1 x2 x3 x4 S → gSh S S0 → gS D Y ad A s.heap S H locs → lv_has ls 6 [(0, .ref (ad k0)), (1, .int x1), (2, .int x2), (3, .int x3), (4, .int x4)] → W p l e (rmD 1) s m args below meth c H locs 0 0 (MQ below (gE D Y za ad S0 s.heap.size (fun r S9 => ∃ x, r = some (vI x) ∧ Q x S9)) args s 0 0 A) (F0 m 5 ls [])) (x1 : Int32) (x2 : Int32) (x3 : Int32) (x4 : Int32) (S : GS) (H : Heap) (locs : List Loc) (ls : Array Slot), wX3_pausesThatTook_56 Q L_5 k0 x1 x2 x3 x4 S → gSh S S0 → gS D Y ad A s.heap S H locs → lv_has ls 6 [(0, .ref (ad k0)), (1, .int x1), (2, .int x2), (3, .int x3), (4, .int x4)] → W p l e (rmD 1) s m args below meth c H locs 0 0 (MQ below (gE D Y za ad S0 s.heap.size (fun r S9 => ∃ x, r = some (vI x) ∧ Q x S9)) args s 0 0 A) (F0 m 56 ls []) := by
    intro L_5 hL_5 x1 x2 x3 x4 S H locs ls h hsh hG hl
    unfold wX3_pausesThatTook_56 at h
    refine lv_iinc (v := x4 + 1) (lv' := [(4, .int (x4 + 1)), (0, .ref (ad k0)), (1, .int x1), (2, .int x2), (3, .int x3)]) hx hb dX3_pausesThatTook_56 hl (k := 4) rfl rfl (by decide) rfl (fun ls hl => ?_)
    refine lv_goto (tgt := 5) hx hb dX3_pausesThatTook_59 (by decide) ?_
    exact hL_5 x1 x2 x3 (x4 + 1) S H locs ls h hsh hG (lv_sub hl [1, 2, 3, 4, 0] rfl)
  have b_5 : ∀  (f9 : Nat) (x1 : Int32) (x2 : Int32) (x3 : Int32) (x4 : Int32) (S : GS) (H : Heap) (locs : List Loc) (ls : Array Slot), wX3_pausesThatTook_5 Q k0 f9 x1 x2 x3 x4 S → gSh S S0 → gS D Y ad A s.heap S H locs → lv_has ls 6 [(0, .ref (ad k0)), (1, .int x1), (2, .int x2), (3, .int x3), (4, .int x4)] → W p l e (rmD 1) s m args below meth c H locs 0 0 (MQ below (gE D Y za ad S0 s.heap.size (fun r S9 => ∃ x, r = some (vI x) ∧ Q x S9)) args s 0 0 A) (F0 m 5 ls []) := by
    intro  f9
    induction f9 with
    | zero =>
      intro x1 x2 x3 x4 S H locs ls h
      exact False.elim (by unfold wX3_pausesThatTook_5 at h; exact h)
    | succ f9 hL_5 =>
      intro x1 x2 x3 x4 S H locs ls h hsh hG hl
      unfold wX3_pausesThatTook_5 at h
      refine lv_iload hx hb dX3_pausesThatTook_5 (lv_at hl 4 rfl) ?_
      refine lv_aload_n hx hb dX3_pausesThatTook_7 rfl (lv_at hl 0 rfl) ?_
      obtain ⟨hk1, hq2, h⟩ := h
      refine g_get (ci := 3) (C := RX3) (T := TX3) (N := 2) hx hb hts hin3 hown hK hG hk1 (cell_3 hq2) rfl 1 (by decide) lk_17 (fun _ h9 => h9) (v := .int (gX S k0 1)) rfl dX3_pausesThatTook_8 ?_
      refine lv_icmp_ge (tgt := 62) hx hb dX3_pausesThatTook_11 (by decide) (fun c_11 => ?_) (fun c_11 => ?_)
      · have h := h.1 c_11
        refine lv_iload_n hx hb dX3_pausesThatTook_62 rfl (lv_at hl 3 rfl) ?_
        exact W.iret (v := x3) hx hb hr (fun t ht hW => r_end (r := some (vI x3)) hAe hG hsh ⟨_, rfl, h⟩ rfl ht) hG.2.2.2.2 dX3_pausesThatTook_63
      · have h := h.2 c_11
        refine lv_aload_n hx hb dX3_pausesThatTook_14 rfl (lv_at hl 0 rfl) ?_
        refine lv_iload hx hb dX3_pausesThatTook_15 (lv_at hl 4 rfl) ?_
        refine r_callV (za := za) (k := k0) (ci := 3) (C := RX3) (T := TX3) (N := 2) (As := [vI x4]) (rest := []) (tX3_get l S k0 x4 _ h) ⟨hx, hb, hml, hown, hts⟩ (cwV 1 hts gX3_pausesThatTook_X3_get rfl rfl rfl (by decide +kernel) ⟨by decide, by decide⟩) hK hG hA hk1 (cell_3 hq2) rfl rfl hl.1 rfl (Nat.le_of_ble_eq_true rfl) ⟨Nat.zero_le _, Nat.zero_le _⟩ dX3_pausesThatTook_17 (fun r_9 S3 H locs hp hs_S3 hG => ?_)
        obtain ⟨u4, rfl, h⟩ := hp
        have h := h hs_S3
        refine W.eq (g2 := F0 m 20 ls [rv ad u4]) rfl ?_
        have hsh := hs_S3.tr hsh
        have hk5 := hs_S3.lt hk1
        have hq6 := hs_S3.kd hq2
        refine r_astore (lv' := [(5, rv ad u4), (0, .ref (ad k0)), (1, .int x1), (2, .int x2), (3, .int x3), (4, .int x4)]) hx hb dX3_pausesThatTook_20 hl (by decide) rfl (fun ls hl => ?_)
        refine r_aload hx hb dX3_pausesThatTook_22 (lv_at hl 0 rfl) ?_
        cases e8 : u4 with
        | none =>
          have h := h.1 e8
          refine W.eq (g2 := F0 m 24 ls [.null]) (by first | rfl | rw [e8]; rfl) ?_
          refine lv_ifnullN (tgt := 56) hx hb dX3_pausesThatTook_24 (by decide) ?_
          exact b_56 (wX3_pausesThatTook_5 Q k0 f9) hL_5 x1 x2 x3 x4 S3 H locs ls h hsh hG (lv_sub hl [1, 2, 3, 4, 5] rfl)
        | some q7 =>
          have h := h.2 q7 e8
          refine W.eq (g2 := F0 m 24 ls [.ref (ad q7)]) (by first | rfl | rw [e8]; rfl) ?_
          refine lv_ifnull hx hb dX3_pausesThatTook_24 ?_
          refine r_aload hx hb dX3_pausesThatTook_27 (lv_at hl 0 rfl) ?_
          refine W.eq (g2 := F0 m 29 ls [.ref (ad q7)]) (by rw [e8]; rfl) ?_
          obtain ⟨hk9, hq10, h⟩ := h
          refine r_callV (za := za) (k := q7) (ci := 2) (C := RX2) (T := TX2) (N := 15) (As := []) (rest := []) (tX2_isPause l S3 q7  _ h) ⟨hx, hb, hml, hown, hts⟩ (cwV 0 hts gX3_pausesThatTook_X2_isPause rfl rfl rfl (by decide +kernel) ⟨by decide, by decide⟩) hK hG hA hk9 (cell_2 hq10) rfl rfl hl.1 rfl (Nat.le_of_ble_eq_true rfl) ⟨Nat.zero_le _, Nat.zero_le _⟩ dX3_pausesThatTook_29 (fun r_9 S11 H locs hp hs_S11 hG => ?_)
          obtain ⟨u12, rfl, h⟩ := hp
          have h := h hs_S11
          refine W.eq (g2 := F0 m 32 ls [.int u12]) rfl ?_
          have hsh := hs_S11.tr hsh
          have hk13 := hs_S11.lt hk5
          have hq14 := hs_S11.kd hq6
          have hk15 := hs_S11.lt hk9
          have hq16 := hs_S11.kd hq10
          refine lv_if_eq (tgt := 56) hx hb dX3_pausesThatTook_32 (by decide) (fun c_32 => ?_) (fun c_32 => ?_)
          · have h := h.1 c_32
            exact b_56 (wX3_pausesThatTook_5 Q k0 f9) hL_5 x1 x2 x3 x4 S11 H locs ls h hsh hG (lv_sub hl [1, 2, 3, 4, 5] rfl)
          · have h := h.2 c_32
            refine r_aload hx hb dX3_pausesThatTook_35 (lv_at hl 0 rfl) ?_
            obtain ⟨q17, e18, h⟩ := h
            refine W.eq (g2 := F0 m 37 ls [.ref (ad q17)]) (by rw [e18]; rfl) ?_
            obtain ⟨hk19, hq20, h⟩ := h
            refine g_get (ci := 2) (C := RX2) (T := TX2) (N := 15) hx hb hts hin2 hown hK hG hk19 (cell_2 hq20) rfl 9 (by decide) lk_29 (fun _ h9 => h9) (v := .int (gX S11 q17 9)) rfl dX3_pausesThatTook_37 ?_
            refine lv_iload_n hx hb dX3_pausesThatTook_40 rfl (lv_at hl 2 rfl) ?_
            refine lv_icmp_lt (tgt := 56) hx hb dX3_pausesThatTook_41 (by decide) (fun c_41 => ?_) (fun c_41 => ?_)
            · have h := h.1 c_41
              exact b_56 (wX3_pausesThatTook_5 Q k0 f9) hL_5 x1 x2 x3 x4 S11 H locs ls h hsh hG (lv_sub hl [1, 2, 3, 4, 5] rfl)
            · have h := h.2 c_41
              refine r_aload hx hb dX3_pausesThatTook_44 (lv_at hl 0 rfl) ?_
              refine W.eq (g2 := F0 m 46 ls [.ref (ad q17)]) (by rw [e18]; rfl) ?_
              refine g_get (ci := 2) (C := RX2) (T := TX2) (N := 15) hx hb hts hin2 hown hK hG hk19 (cell_2 hq20) rfl 9 (by decide) lk_29 (fun _ h9 => h9) (v := .int (gX S11 q17 9)) rfl dX3_pausesThatTook_46 ?_
              refine lv_iload_n hx hb dX3_pausesThatTook_49 rfl (lv_at hl 3 rfl) ?_
              refine lv_icmp_gt (tgt := 56) hx hb dX3_pausesThatTook_50 (by decide) (fun c_50 => ?_) (fun c_50 => ?_)
              · have h := h.1 c_50
                exact b_56 (wX3_pausesThatTook_5 Q k0 f9) hL_5 x1 x2 x3 x4 S11 H locs ls h hsh hG (lv_sub hl [1, 2, 3, 4, 5] rfl)
              · have h := h.2 c_50
                refine lv_iinc (v := x3 + 1) (lv' := [(3, .int (x3 + 1)), (5, rv ad u4), (0, .ref (ad k0)), (1, .int x1), (2, .int x2), (4, .int x4)]) hx hb dX3_pausesThatTook_53 hl (k := 4) rfl rfl (by decide) rfl (fun ls hl => ?_)
                exact b_56 (wX3_pausesThatTook_5 Q k0 f9) hL_5 x1 x2 (x3 + 1) x4 S11 H locs ls h hsh hG (lv_sub hl [2, 3, 4, 0, 5] rfl)
  have hl : lv_has ls 6 [(0, .ref (ad k0)), (1, .int x1), (2, .int x2)] := hl
  have hsh : gSh S S0 := by rw [hS0]; exact gSh.rf S
  obtain ⟨H, eH⟩ : ∃ z : Heap, z = s.heap := ⟨_, rfl⟩
  obtain ⟨locs, eL⟩ : ∃ z : List Loc, z = [] := ⟨_, rfl⟩
  have hG : gS D Y ad A s.heap S H locs := by rw [eH, eL]; exact hG
  suffices hgoal : W p l e (rmD 1) s m args below meth c H locs 0 0 (MQ below (gE D Y za ad S0 s.heap.size (fun r S9 => ∃ x, r = some (vI x) ∧ Q x S9)) args s 0 0 A) (F0 m 0 ls []) by rw [eH, eL] at hgoal; exact hgoal
  unfold wX3_pausesThatTook at h
  refine lv_iconst (v := 0) hx hb dX3_pausesThatTook_0 (by decide) ?_
  refine lv_istore_n (lv' := [(3, .int 0), (0, .ref (ad k0)), (1, .int x1), (2, .int x2)]) hx hb dX3_pausesThatTook_1 rfl hl (by decide) rfl (fun ls hl => ?_)
  refine lv_iconst (v := 0) hx hb dX3_pausesThatTook_2 (by decide) ?_
  refine lv_istore (lv' := [(4, .int 0), (3, .int 0), (0, .ref (ad k0)), (1, .int x1), (2, .int x2)]) hx hb dX3_pausesThatTook_3 hl (by decide) rfl (fun ls hl => ?_)
  obtain ⟨f21, h⟩ := h
  exact b_5 f21 x1 x2 0 0 S H locs ls h hsh hG (lv_sub hl [2, 3, 4, 1, 0] rfl)
