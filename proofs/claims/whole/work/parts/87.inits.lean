def wX1_init (S : GS) (k0 : Nat) (Q : GS → Prop) : Prop :=
  Q S
set_option maxHeartbeats 4000000 in
set_option maxRecDepth 100000 in
theorem tX1_init (l : Launch) (S : GS) (k0 : Nat) (Q : GS → Prop) (h : wX1_init S k0 Q) : CS l yX1_init wsX1_init 1 S [vR (some k0)] (fun r S9 => r = none ∧ Q S9) := by
  refine CS.ofWI (cc := cX1_init) (maxL := 1) (ret := none) RX1 (by decide) rfl rfl (fun _ _ => Nat.le_of_ble_eq_true rfl) ?_
  intro p e s m args below meth c D Y za ad A ls hAe hmn hx hb hr hml hts hown hlocks hK hA hG hl
  obtain ⟨S0, hS0⟩ : ∃ z : GS, z = S := ⟨_, rfl⟩
  rw [← hS0] at hAe
  rw [← hS0]
  have hl : lv_has ls 1 [(0, .ref (ad k0))] := hl
  have hsh : gSh S S0 := by rw [hS0]; exact gSh.rf S
  obtain ⟨H, eH⟩ : ∃ z : Heap, z = s.heap := ⟨_, rfl⟩
  obtain ⟨locs, eL⟩ : ∃ z : List Loc, z = [] := ⟨_, rfl⟩
  have hG : gS D Y ad A s.heap S H locs := by rw [eH, eL]; exact hG
  suffices hgoal : W p l e (rmD 1) s m args below meth c H locs 0 0 (MQ below (gE D Y za ad S0 s.heap.size (fun r S9 => r = none ∧ Q S9)) args s 0 0 A) (F0 m 0 ls []) by rw [eH, eL] at hgoal; exact hgoal
  unfold wX1_init at h
  refine lv_aload_n hx hb dX1_init_0 rfl (lv_at hl 0 rfl) ?_
  refine W.objInit hx hb hown (hts (.methodLink RX1 3 objectInit) (by decide +kernel)) (hts (.instanceMethod objectInit) (by decide +kernel)) (hts (.code objectInit ⟨#[0xb1]⟩ 1 none) (by decide +kernel)) rfl (by rw [hml]; exact hl.1) rfl dX1_init_1 (Nat.le_of_ble_eq_true rfl) (Nat.le_of_ble_eq_true rfl) ?_
  refine W.eq (g2 := F0 m 4 ls []) rfl ?_
  exact W.vret hx hb hr (fun t ht hW => r_end (r := none) hAe hG hsh ⟨rfl, h⟩ rfl ht) hG.2.2.2.2 dX1_init_4
def wX5_init (S : GS) (k0 : Nat) (Q : GS → Prop) : Prop :=
  Q S
set_option maxHeartbeats 4000000 in
set_option maxRecDepth 100000 in
theorem tX5_init (l : Launch) (S : GS) (k0 : Nat) (Q : GS → Prop) (h : wX5_init S k0 Q) : CS l yX5_init wsX5_init 1 S [vR (some k0)] (fun r S9 => r = none ∧ Q S9) := by
  refine CS.ofWI (cc := cX5_init) (maxL := 1) (ret := none) RX5 (by decide) rfl rfl (fun _ _ => Nat.le_of_ble_eq_true rfl) ?_
  intro p e s m args below meth c D Y za ad A ls hAe hmn hx hb hr hml hts hown hlocks hK hA hG hl
  obtain ⟨S0, hS0⟩ : ∃ z : GS, z = S := ⟨_, rfl⟩
  rw [← hS0] at hAe
  rw [← hS0]
  have hl : lv_has ls 1 [(0, .ref (ad k0))] := hl
  have hsh : gSh S S0 := by rw [hS0]; exact gSh.rf S
  obtain ⟨H, eH⟩ : ∃ z : Heap, z = s.heap := ⟨_, rfl⟩
  obtain ⟨locs, eL⟩ : ∃ z : List Loc, z = [] := ⟨_, rfl⟩
  have hG : gS D Y ad A s.heap S H locs := by rw [eH, eL]; exact hG
  suffices hgoal : W p l e (rmD 1) s m args below meth c H locs 0 0 (MQ below (gE D Y za ad S0 s.heap.size (fun r S9 => r = none ∧ Q S9)) args s 0 0 A) (F0 m 0 ls []) by rw [eH, eL] at hgoal; exact hgoal
  unfold wX5_init at h
  refine lv_aload_n hx hb dX5_init_0 rfl (lv_at hl 0 rfl) ?_
  refine W.objInit hx hb hown (hts (.methodLink RX5 3 objectInit) (by decide +kernel)) (hts (.instanceMethod objectInit) (by decide +kernel)) (hts (.code objectInit ⟨#[0xb1]⟩ 1 none) (by decide +kernel)) rfl (by rw [hml]; exact hl.1) rfl dX5_init_1 (Nat.le_of_ble_eq_true rfl) (Nat.le_of_ble_eq_true rfl) ?_
  refine W.eq (g2 := F0 m 4 ls []) rfl ?_
  exact W.vret hx hb hr (fun t ht hW => r_end (r := none) hAe hG hsh ⟨rfl, h⟩ rfl ht) hG.2.2.2.2 dX5_init_4
def wX7_init (S : GS) (k0 : Nat) (Q : GS → Prop) : Prop :=
  k0 < gN S ∧ gK S k0 = 7 ∧ ∀ S3 : GS, S3 = sX S k0 1 (-1) → ∀ S6 : GS, S6 = sX S3 k0 2 (-1) → Q S6
set_option maxHeartbeats 4000000 in
set_option maxRecDepth 100000 in
theorem tX7_init (l : Launch) (S : GS) (k0 : Nat) (Q : GS → Prop) (h : wX7_init S k0 Q) : CS l yX7_init wsX7_init 1 S [vR (some k0)] (fun r S9 => r = none ∧ Q S9) := by
  refine CS.ofWI (cc := cX7_init) (maxL := 1) (ret := none) RX7 (by decide) rfl rfl (fun _ _ => Nat.le_of_ble_eq_true rfl) ?_
  intro p e s m args below meth c D Y za ad A ls hAe hmn hx hb hr hml hts hown hlocks hK hA hG hl
  obtain ⟨S0, hS0⟩ : ∃ z : GS, z = S := ⟨_, rfl⟩
  rw [← hS0] at hAe
  rw [← hS0]
  have hin7 : ∀ w ∈ wsX70, w ∈ wsX7_init := by decide +kernel
  have lk_9 := hts (.fieldLink RX7 9 "PauseLog$Times" "first" "I") (by decide +kernel)
  have lk_15 := hts (.fieldLink RX7 15 "PauseLog$Times" "latest" "I") (by decide +kernel)
  have hl : lv_has ls 1 [(0, .ref (ad k0))] := hl
  have hsh : gSh S S0 := by rw [hS0]; exact gSh.rf S
  obtain ⟨H, eH⟩ : ∃ z : Heap, z = s.heap := ⟨_, rfl⟩
  obtain ⟨locs, eL⟩ : ∃ z : List Loc, z = [] := ⟨_, rfl⟩
  have hG : gS D Y ad A s.heap S H locs := by rw [eH, eL]; exact hG
  suffices hgoal : W p l e (rmD 1) s m args below meth c H locs 0 0 (MQ below (gE D Y za ad S0 s.heap.size (fun r S9 => r = none ∧ Q S9)) args s 0 0 A) (F0 m 0 ls []) by rw [eH, eL] at hgoal; exact hgoal
  unfold wX7_init at h
  refine lv_aload_n hx hb dX7_init_0 rfl (lv_at hl 0 rfl) ?_
  refine W.objInit hx hb hown (hts (.methodLink RX7 3 objectInit) (by decide +kernel)) (hts (.instanceMethod objectInit) (by decide +kernel)) (hts (.code objectInit ⟨#[0xb1]⟩ 1 none) (by decide +kernel)) rfl (by rw [hml]; exact hl.1) rfl dX7_init_1 (Nat.le_of_ble_eq_true rfl) (Nat.le_of_ble_eq_true rfl) ?_
  refine W.eq (g2 := F0 m 4 ls []) rfl ?_
  refine lv_aload_n hx hb dX7_init_4 rfl (lv_at hl 0 rfl) ?_
  refine lv_iconst (v := (-1)) hx hb dX7_init_5 (by decide) ?_
  obtain ⟨hk1, hq2, h⟩ := h
  refine r_put (ci := 7) (C := RX7) (T := TX7) (N := 3) hx hb hts hin7 tyX7 tyX7_ok nmX7 hown hK hG hk1 (cell_7 hq2) rfl 1 (by decide) lk_9 (fun _ h9 => h9) rfl rfl rfl (Nat.le_of_ble_eq_true rfl) (S' := sX S k0 1 (-1)) rfl (pu_7_1 hq2 (-1)) dX7_init_6 (fun H locs hG => ?_)
  obtain ⟨S3, eS_S3⟩ : ∃ z : GS, z = sX S k0 1 (-1) := ⟨_, rfl⟩
  have h := h S3 eS_S3
  rw [← eS_S3] at hG
  have hs_S3 : gSh S3 S := by rw [eS_S3]; exact gSh.x _ _ _ _
  have hsh := hs_S3.tr hsh
  have hk4 := hs_S3.lt hk1
  have hq5 := hs_S3.kd hq2
  refine lv_aload_n hx hb dX7_init_9 rfl (lv_at hl 0 rfl) ?_
  refine lv_iconst (v := (-1)) hx hb dX7_init_10 (by decide) ?_
  refine r_put (ci := 7) (C := RX7) (T := TX7) (N := 3) hx hb hts hin7 tyX7 tyX7_ok nmX7 hown hK hG hk4 (cell_7 hq5) rfl 2 (by decide) lk_15 (fun _ h9 => h9) rfl rfl rfl (Nat.le_of_ble_eq_true rfl) (S' := sX S3 k0 2 (-1)) rfl (pu_7_2 hq5 (-1)) dX7_init_11 (fun H locs hG => ?_)
  obtain ⟨S6, eS_S6⟩ : ∃ z : GS, z = sX S3 k0 2 (-1) := ⟨_, rfl⟩
  have h := h S6 eS_S6
  rw [← eS_S6] at hG
  have hs_S6 : gSh S6 S3 := by rw [eS_S6]; exact gSh.x _ _ _ _
  have hsh := hs_S6.tr hsh
  have hk7 := hs_S6.lt hk4
  have hq8 := hs_S6.kd hq5
  exact W.vret hx hb hr (fun t ht hW => r_end (r := none) hAe hG hsh ⟨rfl, h⟩ rfl ht) hG.2.2.2.2 dX7_init_14
def wX4_init (S : GS) (k0 : Nat) (x1 : Nat) (Q : GS → Prop) : Prop :=
  k0 < gN S ∧ gK S k0 = 4 ∧ ∀ S3 : GS, S3 = sR S k0 0 (some x1) → Q S3
set_option maxHeartbeats 4000000 in
set_option maxRecDepth 100000 in
theorem tX4_init (l : Launch) (S : GS) (k0 : Nat) (x1 : Nat) (Q : GS → Prop) (h : wX4_init S k0 x1 Q) : CS l yX4_init wsX4_init 1 S [vR (some k0), vR (some x1)] (fun r S9 => r = none ∧ Q S9) := by
  refine CS.ofWI (cc := cX4_init) (maxL := 2) (ret := none) RX4 (by decide) rfl rfl (fun _ _ => Nat.le_of_ble_eq_true rfl) ?_
  intro p e s m args below meth c D Y za ad A ls hAe hmn hx hb hr hml hts hown hlocks hK hA hG hl
  obtain ⟨S0, hS0⟩ : ∃ z : GS, z = S := ⟨_, rfl⟩
  rw [← hS0] at hAe
  rw [← hS0]
  have hin4 : ∀ w ∈ wsX40, w ∈ wsX4_init := by decide +kernel
  have lk_9 := hts (.fieldLink RX4 9 "PauseLog$Reader" "text" "LPauseLog$Text;") (by decide +kernel)
  have hl : lv_has ls 2 [(0, .ref (ad k0)), (1, .ref (ad x1))] := hl
  have hsh : gSh S S0 := by rw [hS0]; exact gSh.rf S
  obtain ⟨H, eH⟩ : ∃ z : Heap, z = s.heap := ⟨_, rfl⟩
  obtain ⟨locs, eL⟩ : ∃ z : List Loc, z = [] := ⟨_, rfl⟩
  have hG : gS D Y ad A s.heap S H locs := by rw [eH, eL]; exact hG
  suffices hgoal : W p l e (rmD 1) s m args below meth c H locs 0 0 (MQ below (gE D Y za ad S0 s.heap.size (fun r S9 => r = none ∧ Q S9)) args s 0 0 A) (F0 m 0 ls []) by rw [eH, eL] at hgoal; exact hgoal
  unfold wX4_init at h
  refine lv_aload_n hx hb dX4_init_0 rfl (lv_at hl 0 rfl) ?_
  refine W.objInit hx hb hown (hts (.methodLink RX4 3 objectInit) (by decide +kernel)) (hts (.instanceMethod objectInit) (by decide +kernel)) (hts (.code objectInit ⟨#[0xb1]⟩ 1 none) (by decide +kernel)) rfl (by rw [hml]; exact hl.1) rfl dX4_init_1 (Nat.le_of_ble_eq_true rfl) (Nat.le_of_ble_eq_true rfl) ?_
  refine W.eq (g2 := F0 m 4 ls []) rfl ?_
  refine lv_aload_n hx hb dX4_init_4 rfl (lv_at hl 0 rfl) ?_
  refine lv_aload_n hx hb dX4_init_5 rfl (lv_at hl 1 rfl) ?_
  obtain ⟨hk1, hq2, h⟩ := h
  refine r_putF (ci := 4) (C := RX4) (T := TX4) (N := 3) hx hb hts hin4 tyX4 tyX4_ok nmX4 hown hK hG hk1 (cell_4 hq2) rfl 0 (by decide) lk_9 (fun _ h9 => h9) rfl hmn rfl rfl rfl (Nat.le_of_ble_eq_true rfl) (S' := sR S k0 0 (some x1)) rfl (pu_4_0 hq2 (some x1)) dX4_init_6 (fun H locs hG => ?_)
  obtain ⟨S3, eS_S3⟩ : ∃ z : GS, z = sR S k0 0 (some x1) := ⟨_, rfl⟩
  have h := h S3 eS_S3
  rw [← eS_S3] at hG
  have hs_S3 : gSh S3 S := by rw [eS_S3]; exact gSh.r _ _ _ _
  have hsh := hs_S3.tr hsh
  have hk4 := hs_S3.lt hk1
  have hq5 := hs_S3.kd hq2
  exact W.vret hx hb hr (fun t ht hW => r_end (r := none) hAe hG hsh ⟨rfl, h⟩ rfl ht) hG.2.2.2.2 dX4_init_9
def wX2_init_68 (Q : GS → Prop) (k0 : Nat) (t0 : Nat) (t1 : Int32) (S : GS) : Prop :=
  t0 < gN S ∧ gK S t0 = 2 ∧ ∀ S3 : GS, S3 = sX S t0 4 t1 → k0 < gN S3 ∧ gK S3 k0 = 2 ∧ ∀ S8 : GS, S8 = sX S3 k0 6 (-1) → ∀ S13 : GS, S13 = sX S8 k0 7 (-1) → ∀ S18 : GS, S18 = sX S13 k0 8 (-1) → ∀ S23 : GS, S23 = sX S18 k0 10 (-1) → ∀ S28 : GS, S28 = sX S23 k0 11 (-1) → ∀ S33 : GS, S33 = sX S28 k0 12 (-1) → ∀ S38 : GS, S38 = sX S33 k0 13 (-1) → ∀ S43 : GS, S43 = sX S38 k0 14 1 → Q S43
def wX2_init_44 (Q : GS → Prop) (k0 : Nat) (x1 : Nat) (x3 : Int32) (t0 : Nat) (t1 : Int32) (S : GS) : Prop :=
  t0 < gN S ∧ gK S t0 = 2 ∧ ∀ S50 : GS, S50 = sX S t0 2 t1 → x1 < gN S50 ∧ gK S50 x1 = 1 ∧ k0 < gN S50 ∧ gK S50 k0 = 2 ∧ ∀ S57 : GS, S57 = sX S50 k0 3 (gX S50 x1 4) → (x3 = 0 → wX2_init_68 Q k0 k0 (gX S57 x1 1) S57) ∧ (¬ x3 = 0 → wX2_init_68 Q k0 k0 3 S57)
def wX2_init_17 (Q : GS → Prop) (k0 : Nat) (x1 : Nat) (x2 : Int32) (t0 : Int32) (S : GS) : Prop :=
  k0 < gN S ∧ gK S k0 = 2 ∧ ∀ S66 : GS, S66 = sX S k0 0 x2 → x1 < gN S66 ∧ gK S66 x1 = 1 ∧ ∀ S71 : GS, S71 = sX S66 k0 1 (gX S66 x1 3) → (t0 = 0 → wX2_init_44 Q k0 x1 t0 k0 (gX S71 x1 2) S71) ∧ (¬ t0 = 0 → wX2_init_44 Q k0 x1 t0 k0 (-1) S71)
def wX2_init (S : GS) (k0 : Nat) (x1 : Nat) (x2 : Int32) (Q : GS → Prop) : Prop :=
  x1 < gN S ∧ gK S x1 = 1 ∧ (¬ (gX S x1 0) = 4 → wX2_init_17 Q k0 x1 x2 0 S) ∧ ((gX S x1 0) = 4 → wX2_init_17 Q k0 x1 x2 1 S)
set_option maxHeartbeats 4000000 in
set_option maxRecDepth 100000 in
theorem tX2_init (l : Launch) (S : GS) (k0 : Nat) (x1 : Nat) (x2 : Int32) (Q : GS → Prop) (h : wX2_init S k0 x1 x2 Q) : CS l yX2_init wsX2_init 1 S [vR (some k0), vR (some x1), vI x2] (fun r S9 => r = none ∧ Q S9) := by
  refine CS.ofWI (cc := cX2_init) (maxL := 4) (ret := none) RX2 (by decide) rfl rfl (fun _ _ => Nat.le_of_ble_eq_true rfl) ?_
  intro p e s m args below meth c D Y za ad A ls hAe hmn hx hb hr hml hts hown hlocks hK hA hG hl
  obtain ⟨S0, hS0⟩ : ∃ z : GS, z = S := ⟨_, rfl⟩
  rw [← hS0] at hAe
  rw [← hS0]
  have hin1 : ∀ w ∈ wsX10, w ∈ wsX2_init := by decide +kernel
  have hin2 : ∀ w ∈ wsX20, w ∈ wsX2_init := by decide +kernel
  have lk_9 := hts (.fieldLink RX2 9 "PauseLog$Entry" "shape" "I") (by decide +kernel)
  have lk_15 := hts (.fieldLink RX2 15 "PauseLog$Event" "firstLine" "I") (by decide +kernel)
  have lk_20 := hts (.fieldLink RX2 20 "PauseLog$Entry" "id" "I") (by decide +kernel)
  have lk_23 := hts (.fieldLink RX2 23 "PauseLog$Event" "id" "I") (by decide +kernel)
  have lk_24 := hts (.fieldLink RX2 24 "PauseLog$Entry" "cause" "I") (by decide +kernel)
  have lk_27 := hts (.fieldLink RX2 27 "PauseLog$Event" "cause" "I") (by decide +kernel)
  have lk_28 := hts (.fieldLink RX2 28 "PauseLog$Entry" "time" "I") (by decide +kernel)
  have lk_31 := hts (.fieldLink RX2 31 "PauseLog$Event" "beginTime" "I") (by decide +kernel)
  have lk_34 := hts (.fieldLink RX2 34 "PauseLog$Entry" "kind" "I") (by decide +kernel)
  have lk_37 := hts (.fieldLink RX2 37 "PauseLog$Event" "kind" "I") (by decide +kernel)
  have lk_38 := hts (.fieldLink RX2 38 "PauseLog$Event" "before" "I") (by decide +kernel)
  have lk_41 := hts (.fieldLink RX2 41 "PauseLog$Event" "after" "I") (by decide +kernel)
  have lk_44 := hts (.fieldLink RX2 44 "PauseLog$Event" "capacity" "I") (by decide +kernel)
  have lk_47 := hts (.fieldLink RX2 47 "PauseLog$Event" "edenBefore" "I") (by decide +kernel)
  have lk_50 := hts (.fieldLink RX2 50 "PauseLog$Event" "edenAfter" "I") (by decide +kernel)
  have lk_53 := hts (.fieldLink RX2 53 "PauseLog$Event" "oldBefore" "I") (by decide +kernel)
  have lk_56 := hts (.fieldLink RX2 56 "PauseLog$Event" "oldAfter" "I") (by decide +kernel)
  have lk_59 := hts (.fieldLink RX2 59 "PauseLog$Event" "lines" "I") (by decide +kernel)
  have b_68 : ∀  (t0 : Nat) (t1 : Int32) (S : GS) (H : Heap) (locs : List Loc) (ls : Array Slot), wX2_init_68 Q k0 t0 t1 S → gSh S S0 → gS D Y ad A s.heap S H locs → lv_has ls 4 [(0, .ref (ad k0))] → W p l e (rmD 1) s m args below meth c H locs 0 0 (MQ below (gE D Y za ad S0 s.heap.size (fun r S9 => r = none ∧ Q S9)) args s 0 0 A) (F0 m 68 ls [.int t1, .ref (ad t0)]) := by
    intro  t0 t1 S H locs ls h hsh hG hl
    unfold wX2_init_68 at h
    obtain ⟨hk1, hq2, h⟩ := h
    refine r_put (ci := 2) (C := RX2) (T := TX2) (N := 15) hx hb hts hin2 tyX2 tyX2_ok nmX2 hown hK hG hk1 (cell_2 hq2) rfl 4 (by decide) lk_37 (fun _ h9 => h9) rfl rfl rfl (Nat.le_of_ble_eq_true rfl) (S' := sX S t0 4 t1) rfl (pu_2_4 hq2 t1) dX2_init_68 (fun H locs hG => ?_)
    obtain ⟨S3, eS_S3⟩ : ∃ z : GS, z = sX S t0 4 t1 := ⟨_, rfl⟩
    have h := h S3 eS_S3
    rw [← eS_S3] at hG
    have hs_S3 : gSh S3 S := by rw [eS_S3]; exact gSh.x _ _ _ _
    have hsh := hs_S3.tr hsh
    have hk4 := hs_S3.lt hk1
    have hq5 := hs_S3.kd hq2
    refine lv_aload_n hx hb dX2_init_71 rfl (lv_at hl 0 rfl) ?_
    refine lv_iconst (v := (-1)) hx hb dX2_init_72 (by decide) ?_
    obtain ⟨hk6, hq7, h⟩ := h
    refine r_put (ci := 2) (C := RX2) (T := TX2) (N := 15) hx hb hts hin2 tyX2 tyX2_ok nmX2 hown hK hG hk6 (cell_2 hq7) rfl 6 (by decide) lk_38 (fun _ h9 => h9) rfl rfl rfl (Nat.le_of_ble_eq_true rfl) (S' := sX S3 k0 6 (-1)) rfl (pu_2_6 hq7 (-1)) dX2_init_73 (fun H locs hG => ?_)
    obtain ⟨S8, eS_S8⟩ : ∃ z : GS, z = sX S3 k0 6 (-1) := ⟨_, rfl⟩
    have h := h S8 eS_S8
    rw [← eS_S8] at hG
    have hs_S8 : gSh S8 S3 := by rw [eS_S8]; exact gSh.x _ _ _ _
    have hsh := hs_S8.tr hsh
    have hk9 := hs_S8.lt hk4
    have hq10 := hs_S8.kd hq5
    have hk11 := hs_S8.lt hk6
    have hq12 := hs_S8.kd hq7
    refine lv_aload_n hx hb dX2_init_76 rfl (lv_at hl 0 rfl) ?_
    refine lv_iconst (v := (-1)) hx hb dX2_init_77 (by decide) ?_
    refine r_put (ci := 2) (C := RX2) (T := TX2) (N := 15) hx hb hts hin2 tyX2 tyX2_ok nmX2 hown hK hG hk11 (cell_2 hq12) rfl 7 (by decide) lk_41 (fun _ h9 => h9) rfl rfl rfl (Nat.le_of_ble_eq_true rfl) (S' := sX S8 k0 7 (-1)) rfl (pu_2_7 hq12 (-1)) dX2_init_78 (fun H locs hG => ?_)
    obtain ⟨S13, eS_S13⟩ : ∃ z : GS, z = sX S8 k0 7 (-1) := ⟨_, rfl⟩
    have h := h S13 eS_S13
    rw [← eS_S13] at hG
    have hs_S13 : gSh S13 S8 := by rw [eS_S13]; exact gSh.x _ _ _ _
    have hsh := hs_S13.tr hsh
    have hk14 := hs_S13.lt hk9
    have hq15 := hs_S13.kd hq10
    have hk16 := hs_S13.lt hk11
    have hq17 := hs_S13.kd hq12
    refine lv_aload_n hx hb dX2_init_81 rfl (lv_at hl 0 rfl) ?_
    refine lv_iconst (v := (-1)) hx hb dX2_init_82 (by decide) ?_
    refine r_put (ci := 2) (C := RX2) (T := TX2) (N := 15) hx hb hts hin2 tyX2 tyX2_ok nmX2 hown hK hG hk16 (cell_2 hq17) rfl 8 (by decide) lk_44 (fun _ h9 => h9) rfl rfl rfl (Nat.le_of_ble_eq_true rfl) (S' := sX S13 k0 8 (-1)) rfl (pu_2_8 hq17 (-1)) dX2_init_83 (fun H locs hG => ?_)
    obtain ⟨S18, eS_S18⟩ : ∃ z : GS, z = sX S13 k0 8 (-1) := ⟨_, rfl⟩
    have h := h S18 eS_S18
    rw [← eS_S18] at hG
    have hs_S18 : gSh S18 S13 := by rw [eS_S18]; exact gSh.x _ _ _ _
    have hsh := hs_S18.tr hsh
    have hk19 := hs_S18.lt hk14
    have hq20 := hs_S18.kd hq15
    have hk21 := hs_S18.lt hk16
    have hq22 := hs_S18.kd hq17
    refine lv_aload_n hx hb dX2_init_86 rfl (lv_at hl 0 rfl) ?_
    refine lv_iconst (v := (-1)) hx hb dX2_init_87 (by decide) ?_
    refine r_put (ci := 2) (C := RX2) (T := TX2) (N := 15) hx hb hts hin2 tyX2 tyX2_ok nmX2 hown hK hG hk21 (cell_2 hq22) rfl 10 (by decide) lk_47 (fun _ h9 => h9) rfl rfl rfl (Nat.le_of_ble_eq_true rfl) (S' := sX S18 k0 10 (-1)) rfl (pu_2_10 hq22 (-1)) dX2_init_88 (fun H locs hG => ?_)
    obtain ⟨S23, eS_S23⟩ : ∃ z : GS, z = sX S18 k0 10 (-1) := ⟨_, rfl⟩
    have h := h S23 eS_S23
    rw [← eS_S23] at hG
    have hs_S23 : gSh S23 S18 := by rw [eS_S23]; exact gSh.x _ _ _ _
    have hsh := hs_S23.tr hsh
    have hk24 := hs_S23.lt hk19
    have hq25 := hs_S23.kd hq20
    have hk26 := hs_S23.lt hk21
    have hq27 := hs_S23.kd hq22
    refine lv_aload_n hx hb dX2_init_91 rfl (lv_at hl 0 rfl) ?_
    refine lv_iconst (v := (-1)) hx hb dX2_init_92 (by decide) ?_
    refine r_put (ci := 2) (C := RX2) (T := TX2) (N := 15) hx hb hts hin2 tyX2 tyX2_ok nmX2 hown hK hG hk26 (cell_2 hq27) rfl 11 (by decide) lk_50 (fun _ h9 => h9) rfl rfl rfl (Nat.le_of_ble_eq_true rfl) (S' := sX S23 k0 11 (-1)) rfl (pu_2_11 hq27 (-1)) dX2_init_93 (fun H locs hG => ?_)
    obtain ⟨S28, eS_S28⟩ : ∃ z : GS, z = sX S23 k0 11 (-1) := ⟨_, rfl⟩
    have h := h S28 eS_S28
    rw [← eS_S28] at hG
    have hs_S28 : gSh S28 S23 := by rw [eS_S28]; exact gSh.x _ _ _ _
    have hsh := hs_S28.tr hsh
    have hk29 := hs_S28.lt hk24
    have hq30 := hs_S28.kd hq25
    have hk31 := hs_S28.lt hk26
    have hq32 := hs_S28.kd hq27
    refine lv_aload_n hx hb dX2_init_96 rfl (lv_at hl 0 rfl) ?_
    refine lv_iconst (v := (-1)) hx hb dX2_init_97 (by decide) ?_
    refine r_put (ci := 2) (C := RX2) (T := TX2) (N := 15) hx hb hts hin2 tyX2 tyX2_ok nmX2 hown hK hG hk31 (cell_2 hq32) rfl 12 (by decide) lk_53 (fun _ h9 => h9) rfl rfl rfl (Nat.le_of_ble_eq_true rfl) (S' := sX S28 k0 12 (-1)) rfl (pu_2_12 hq32 (-1)) dX2_init_98 (fun H locs hG => ?_)
    obtain ⟨S33, eS_S33⟩ : ∃ z : GS, z = sX S28 k0 12 (-1) := ⟨_, rfl⟩
    have h := h S33 eS_S33
    rw [← eS_S33] at hG
    have hs_S33 : gSh S33 S28 := by rw [eS_S33]; exact gSh.x _ _ _ _
    have hsh := hs_S33.tr hsh
    have hk34 := hs_S33.lt hk29
    have hq35 := hs_S33.kd hq30
    have hk36 := hs_S33.lt hk31
    have hq37 := hs_S33.kd hq32
    refine lv_aload_n hx hb dX2_init_101 rfl (lv_at hl 0 rfl) ?_
    refine lv_iconst (v := (-1)) hx hb dX2_init_102 (by decide) ?_
    refine r_put (ci := 2) (C := RX2) (T := TX2) (N := 15) hx hb hts hin2 tyX2 tyX2_ok nmX2 hown hK hG hk36 (cell_2 hq37) rfl 13 (by decide) lk_56 (fun _ h9 => h9) rfl rfl rfl (Nat.le_of_ble_eq_true rfl) (S' := sX S33 k0 13 (-1)) rfl (pu_2_13 hq37 (-1)) dX2_init_103 (fun H locs hG => ?_)
    obtain ⟨S38, eS_S38⟩ : ∃ z : GS, z = sX S33 k0 13 (-1) := ⟨_, rfl⟩
    have h := h S38 eS_S38
    rw [← eS_S38] at hG
    have hs_S38 : gSh S38 S33 := by rw [eS_S38]; exact gSh.x _ _ _ _
    have hsh := hs_S38.tr hsh
    have hk39 := hs_S38.lt hk34
    have hq40 := hs_S38.kd hq35
    have hk41 := hs_S38.lt hk36
    have hq42 := hs_S38.kd hq37
    refine lv_aload_n hx hb dX2_init_106 rfl (lv_at hl 0 rfl) ?_
    refine lv_iconst (v := 1) hx hb dX2_init_107 (by decide) ?_
    refine r_put (ci := 2) (C := RX2) (T := TX2) (N := 15) hx hb hts hin2 tyX2 tyX2_ok nmX2 hown hK hG hk41 (cell_2 hq42) rfl 14 (by decide) lk_59 (fun _ h9 => h9) rfl rfl rfl (Nat.le_of_ble_eq_true rfl) (S' := sX S38 k0 14 1) rfl (pu_2_14 hq42 1) dX2_init_108 (fun H locs hG => ?_)
    obtain ⟨S43, eS_S43⟩ : ∃ z : GS, z = sX S38 k0 14 1 := ⟨_, rfl⟩
    have h := h S43 eS_S43
    rw [← eS_S43] at hG
    have hs_S43 : gSh S43 S38 := by rw [eS_S43]; exact gSh.x _ _ _ _
    have hsh := hs_S43.tr hsh
    have hk44 := hs_S43.lt hk39
    have hq45 := hs_S43.kd hq40
    have hk46 := hs_S43.lt hk41
    have hq47 := hs_S43.kd hq42
    exact W.vret hx hb hr (fun t ht hW => r_end (r := none) hAe hG hsh ⟨rfl, h⟩ rfl ht) hG.2.2.2.2 dX2_init_111
  have b_44 : ∀  (x1 : Nat) (x3 : Int32) (t0 : Nat) (t1 : Int32) (S : GS) (H : Heap) (locs : List Loc) (ls : Array Slot), wX2_init_44 Q k0 x1 x3 t0 t1 S → gSh S S0 → gS D Y ad A s.heap S H locs → lv_has ls 4 [(0, .ref (ad k0)), (1, .ref (ad x1)), (3, .int x3)] → W p l e (rmD 1) s m args below meth c H locs 0 0 (MQ below (gE D Y za ad S0 s.heap.size (fun r S9 => r = none ∧ Q S9)) args s 0 0 A) (F0 m 44 ls [.int t1, .ref (ad t0)]) := by
    intro  x1 x3 t0 t1 S H locs ls h hsh hG hl
    unfold wX2_init_44 at h
    obtain ⟨hk48, hq49, h⟩ := h
    refine r_putF (ci := 2) (C := RX2) (T := TX2) (N := 15) hx hb hts hin2 tyX2 tyX2_ok nmX2 hown hK hG hk48 (cell_2 hq49) rfl 2 (by decide) lk_27 (fun _ h9 => h9) rfl hmn rfl rfl rfl (Nat.le_of_ble_eq_true rfl) (S' := sX S t0 2 t1) rfl (pu_2_2 hq49 t1) dX2_init_44 (fun H locs hG => ?_)
    obtain ⟨S50, eS_S50⟩ : ∃ z : GS, z = sX S t0 2 t1 := ⟨_, rfl⟩
    have h := h S50 eS_S50
    rw [← eS_S50] at hG
    have hs_S50 : gSh S50 S := by rw [eS_S50]; exact gSh.x _ _ _ _
    have hsh := hs_S50.tr hsh
    have hk51 := hs_S50.lt hk48
    have hq52 := hs_S50.kd hq49
    refine lv_aload_n hx hb dX2_init_47 rfl (lv_at hl 0 rfl) ?_
    refine lv_aload_n hx hb dX2_init_48 rfl (lv_at hl 1 rfl) ?_
    obtain ⟨hk53, hq54, h⟩ := h
    refine g_get (ci := 1) (C := RX1) (T := TX1) (N := 9) hx hb hts hin1 hown hK hG hk53 (cell_1 hq54) rfl 4 (by decide) lk_28 (fun _ h9 => h9) (v := .int (gX S50 x1 4)) rfl dX2_init_49 ?_
    obtain ⟨hk55, hq56, h⟩ := h
    refine r_putF (ci := 2) (C := RX2) (T := TX2) (N := 15) hx hb hts hin2 tyX2 tyX2_ok nmX2 hown hK hG hk55 (cell_2 hq56) rfl 3 (by decide) lk_31 (fun _ h9 => h9) rfl hmn rfl rfl rfl (Nat.le_of_ble_eq_true rfl) (S' := sX S50 k0 3 (gX S50 x1 4)) rfl (pu_2_3 hq56 (gX S50 x1 4)) dX2_init_52 (fun H locs hG => ?_)
    obtain ⟨S57, eS_S57⟩ : ∃ z : GS, z = sX S50 k0 3 (gX S50 x1 4) := ⟨_, rfl⟩
    have h := h S57 eS_S57
    rw [← eS_S57] at hG
    have hs_S57 : gSh S57 S50 := by rw [eS_S57]; exact gSh.x _ _ _ _
    have hsh := hs_S57.tr hsh
    have hk58 := hs_S57.lt hk51
    have hq59 := hs_S57.kd hq52
    have hk60 := hs_S57.lt hk53
    have hq61 := hs_S57.kd hq54
    have hk62 := hs_S57.lt hk55
    have hq63 := hs_S57.kd hq56
    refine lv_aload_n hx hb dX2_init_55 rfl (lv_at hl 0 rfl) ?_
    refine lv_iload_n hx hb dX2_init_56 rfl (lv_at hl 2 rfl) ?_
    refine lv_if_eq (tgt := 64) hx hb dX2_init_57 (by decide) (fun c_57 => ?_) (fun c_57 => ?_)
    · have h := h.1 c_57
      refine lv_aload_n hx hb dX2_init_64 rfl (lv_at hl 1 rfl) ?_
      refine g_get (ci := 1) (C := RX1) (T := TX1) (N := 9) hx hb hts hin1 hown hK hG hk60 (cell_1 hq61) rfl 1 (by decide) lk_34 (fun _ h9 => h9) (v := .int (gX S57 x1 1)) rfl dX2_init_65 ?_
      exact b_68 k0 (gX S57 x1 1) S57 H locs ls h hsh hG (lv_sub hl [0] rfl)
    · have h := h.2 c_57
      refine lv_iconst (v := 3) hx hb dX2_init_60 (by decide) ?_
      refine lv_goto (tgt := 68) hx hb dX2_init_61 (by decide) ?_
      exact b_68 k0 3 S57 H locs ls h hsh hG (lv_sub hl [0] rfl)
  have b_17 : ∀  (x1 : Nat) (x2 : Int32) (t0 : Int32) (S : GS) (H : Heap) (locs : List Loc) (ls : Array Slot), wX2_init_17 Q k0 x1 x2 t0 S → gSh S S0 → gS D Y ad A s.heap S H locs → lv_has ls 4 [(0, .ref (ad k0)), (1, .ref (ad x1)), (2, .int x2)] → W p l e (rmD 1) s m args below meth c H locs 0 0 (MQ below (gE D Y za ad S0 s.heap.size (fun r S9 => r = none ∧ Q S9)) args s 0 0 A) (F0 m 17 ls [.int t0]) := by
    intro  x1 x2 t0 S H locs ls h hsh hG hl
    unfold wX2_init_17 at h
    refine lv_istore_n (lv' := [(3, .int t0), (0, .ref (ad k0)), (1, .ref (ad x1)), (2, .int x2)]) hx hb dX2_init_17 rfl hl (by decide) rfl (fun ls hl => ?_)
    refine lv_aload_n hx hb dX2_init_18 rfl (lv_at hl 1 rfl) ?_
    refine lv_iload_n hx hb dX2_init_19 rfl (lv_at hl 3 rfl) ?_
    obtain ⟨hk64, hq65, h⟩ := h
    refine r_putF (ci := 2) (C := RX2) (T := TX2) (N := 15) hx hb hts hin2 tyX2 tyX2_ok nmX2 hown hK hG hk64 (cell_2 hq65) rfl 0 (by decide) lk_15 (fun _ h9 => h9) rfl hmn rfl rfl rfl (Nat.le_of_ble_eq_true rfl) (S' := sX S k0 0 x2) rfl (pu_2_0 hq65 x2) dX2_init_20 (fun H locs hG => ?_)
    obtain ⟨S66, eS_S66⟩ : ∃ z : GS, z = sX S k0 0 x2 := ⟨_, rfl⟩
    have h := h S66 eS_S66
    rw [← eS_S66] at hG
    have hs_S66 : gSh S66 S := by rw [eS_S66]; exact gSh.x _ _ _ _
    have hsh := hs_S66.tr hsh
    have hk67 := hs_S66.lt hk64
    have hq68 := hs_S66.kd hq65
    refine lv_aload_n hx hb dX2_init_23 rfl (lv_at hl 1 rfl) ?_
    refine lv_aload_n hx hb dX2_init_24 rfl (lv_at hl 2 rfl) ?_
    obtain ⟨hk69, hq70, h⟩ := h
    refine g_get (ci := 1) (C := RX1) (T := TX1) (N := 9) hx hb hts hin1 hown hK hG hk69 (cell_1 hq70) rfl 3 (by decide) lk_20 (fun _ h9 => h9) (v := .int (gX S66 x1 3)) rfl dX2_init_25 ?_
    refine r_putF (ci := 2) (C := RX2) (T := TX2) (N := 15) hx hb hts hin2 tyX2 tyX2_ok nmX2 hown hK hG hk67 (cell_2 hq68) rfl 1 (by decide) lk_23 (fun _ h9 => h9) rfl hmn rfl rfl rfl (Nat.le_of_ble_eq_true rfl) (S' := sX S66 k0 1 (gX S66 x1 3)) rfl (pu_2_1 hq68 (gX S66 x1 3)) dX2_init_28 (fun H locs hG => ?_)
    obtain ⟨S71, eS_S71⟩ : ∃ z : GS, z = sX S66 k0 1 (gX S66 x1 3) := ⟨_, rfl⟩
    have h := h S71 eS_S71
    rw [← eS_S71] at hG
    have hs_S71 : gSh S71 S66 := by rw [eS_S71]; exact gSh.x _ _ _ _
    have hsh := hs_S71.tr hsh
    have hk72 := hs_S71.lt hk67
    have hq73 := hs_S71.kd hq68
    have hk74 := hs_S71.lt hk69
    have hq75 := hs_S71.kd hq70
    refine lv_aload_n hx hb dX2_init_31 rfl (lv_at hl 1 rfl) ?_
    refine lv_iload_n hx hb dX2_init_32 rfl (lv_at hl 0 rfl) ?_
    refine lv_if_eq (tgt := 40) hx hb dX2_init_33 (by decide) (fun c_33 => ?_) (fun c_33 => ?_)
    · have h := h.1 c_33
      refine lv_aload_n hx hb dX2_init_40 rfl (lv_at hl 2 rfl) ?_
      refine g_get (ci := 1) (C := RX1) (T := TX1) (N := 9) hx hb hts hin1 hown hK hG hk74 (cell_1 hq75) rfl 2 (by decide) lk_24 (fun _ h9 => h9) (v := .int (gX S71 x1 2)) rfl dX2_init_41 ?_
      exact b_44 x1 t0 k0 (gX S71 x1 2) S71 H locs ls h hsh hG (lv_sub hl [1, 2, 0] rfl)
    · have h := h.2 c_33
      refine lv_iconst (v := (-1)) hx hb dX2_init_36 (by decide) ?_
      refine lv_goto (tgt := 44) hx hb dX2_init_37 (by decide) ?_
      exact b_44 x1 t0 k0 (-1) S71 H locs ls h hsh hG (lv_sub hl [1, 2, 0] rfl)
  have hl : lv_has ls 4 [(0, .ref (ad k0)), (1, .ref (ad x1)), (2, .int x2)] := hl
  have hsh : gSh S S0 := by rw [hS0]; exact gSh.rf S
  obtain ⟨H, eH⟩ : ∃ z : Heap, z = s.heap := ⟨_, rfl⟩
  obtain ⟨locs, eL⟩ : ∃ z : List Loc, z = [] := ⟨_, rfl⟩
  have hG : gS D Y ad A s.heap S H locs := by rw [eH, eL]; exact hG
  suffices hgoal : W p l e (rmD 1) s m args below meth c H locs 0 0 (MQ below (gE D Y za ad S0 s.heap.size (fun r S9 => r = none ∧ Q S9)) args s 0 0 A) (F0 m 0 ls []) by rw [eH, eL] at hgoal; exact hgoal
  unfold wX2_init at h
  refine lv_aload_n hx hb dX2_init_0 rfl (lv_at hl 0 rfl) ?_
  refine W.objInit hx hb hown (hts (.methodLink RX2 3 objectInit) (by decide +kernel)) (hts (.instanceMethod objectInit) (by decide +kernel)) (hts (.code objectInit ⟨#[0xb1]⟩ 1 none) (by decide +kernel)) rfl (by rw [hml]; exact hl.1) rfl dX2_init_1 (Nat.le_of_ble_eq_true rfl) (Nat.le_of_ble_eq_true rfl) ?_
  refine W.eq (g2 := F0 m 4 ls []) rfl ?_
  refine lv_aload_n hx hb dX2_init_4 rfl (lv_at hl 1 rfl) ?_
  obtain ⟨hk76, hq77, h⟩ := h
  refine g_get (ci := 1) (C := RX1) (T := TX1) (N := 9) hx hb hts hin1 hown hK hG hk76 (cell_1 hq77) rfl 0 (by decide) lk_9 (fun _ h9 => h9) (v := .int (gX S x1 0)) rfl dX2_init_5 ?_
  refine lv_iconst (v := 4) hx hb dX2_init_8 (by decide) ?_
  refine lv_icmp_ne (tgt := 16) hx hb dX2_init_9 (by decide) (fun c_9 => ?_) (fun c_9 => ?_)
  · have h := h.1 c_9
    refine lv_iconst (v := 0) hx hb dX2_init_16 (by decide) ?_
    exact b_17 x1 x2 0 S H locs ls h hsh hG (lv_sub hl [0, 1, 2] rfl)
  · have h := h.2 c_9
    refine lv_iconst (v := 1) hx hb dX2_init_12 (by decide) ?_
    refine lv_goto (tgt := 17) hx hb dX2_init_13 (by decide) ?_
    exact b_17 x1 x2 1 S H locs ls h hsh hG (lv_sub hl [0, 1, 2] rfl)
