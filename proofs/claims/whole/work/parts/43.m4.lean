def wX9_give (S : GS) (k0 : Nat) (x1 : Int32) (Q : GS → Prop) : Prop :=
  k0 < gN S ∧ gK S k0 = 9 ∧ ∃ q3 : Nat, gR S k0 6 = some q3 ∧ q3 < gN S ∧ gK S q3 = 11 ∧ vp_in (gX S k0 7) (gL S q3) ∧ ∀ S8 : GS, S8 = sX S q3 (Int32.toNatClampNeg (gX S k0 7)) x1 → ∀ S13 : GS, S13 = sX S8 k0 7 ((gX S8 k0 7) + 1) → Q S13
set_option maxHeartbeats 4000000 in
set_option maxRecDepth 100000 in
theorem tX9_give (l : Launch) (S : GS) (k0 : Nat) (x1 : Int32) (Q : GS → Prop) (h : wX9_give S k0 x1 Q) : CS l yX9_give wsX9_give 0 S [vR (some k0), vI x1] (fun r S9 => r = none ∧ Q S9) := by
  refine CS.ofW (cc := cX9_give) (maxL := 2) (ret := none) RX9 (by decide) rfl rfl (fun _ _ => Nat.le_of_ble_eq_true rfl) ?_
  intro p e s m args below meth c D Y za ad A ls hAe hx hb hr hml hts hown hlocks hK hA hG hl
  obtain ⟨S0, hS0⟩ : ∃ z : GS, z = S := ⟨_, rfl⟩
  rw [← hS0] at hAe
  rw [← hS0]
  have hin9 : ∀ w ∈ wsX90, w ∈ wsX9_give := by decide +kernel
  have lk_19 := hts (.fieldLink RX9 19 "PauseLogModel" "number" "[I") (by decide +kernel)
  have lk_146 := hts (.fieldLink RX9 146 "PauseLogModel" "numbers" "I") (by decide +kernel)
  have hl : lv_has ls 2 [(0, .ref (ad k0)), (1, .int x1)] := hl
  have hsh : gSh S S0 := by rw [hS0]; exact gSh.rf S
  obtain ⟨H, eH⟩ : ∃ z : Heap, z = s.heap := ⟨_, rfl⟩
  obtain ⟨locs, eL⟩ : ∃ z : List Loc, z = [] := ⟨_, rfl⟩
  have hG : gS D Y ad A s.heap S H locs := by rw [eH, eL]; exact hG
  suffices hgoal : W p l e (rmD 0) s m args below meth c H locs 0 0 (MQ below (gE D Y za ad S0 s.heap.size (fun r S9 => r = none ∧ Q S9)) args s 0 0 A) (F0 m 0 ls []) by rw [eH, eL] at hgoal; exact hgoal
  unfold wX9_give at h
  refine lv_aload_n hx hb dX9_give_0 rfl (lv_at hl 0 rfl) ?_
  obtain ⟨hk1, hq2, h⟩ := h
  refine g_get (ci := 9) (C := RX9) (T := TX9) (N := 36) hx hb hts hin9 hown hK hG hk1 (cell_9 hq2) rfl 6 (by decide) lk_19 (fun _ h9 => h9) (v := rv ad (gR S k0 6)) rfl dX9_give_1 ?_
  refine lv_aload_n hx hb dX9_give_4 rfl (lv_at hl 0 rfl) ?_
  refine g_get (ci := 9) (C := RX9) (T := TX9) (N := 36) hx hb hts hin9 hown hK hG hk1 (cell_9 hq2) rfl 7 (by decide) lk_146 (fun _ h9 => h9) (v := .int (gX S k0 7)) rfl dX9_give_5 ?_
  refine lv_iload_n hx hb dX9_give_8 rfl (lv_at hl 1 rfl) ?_
  obtain ⟨q3, e4, h⟩ := h
  refine W.eq (g2 := F0 m 9 ls [.int x1, .int (gX S k0 7), .ref (ad q3)]) (by rw [e4]; rfl) ?_
  obtain ⟨hk5, hq6, h⟩ := h
  obtain ⟨hi7, h⟩ := h
  refine r_iast hx hb hK hG hk5 hq6 hi7 dX9_give_9 (fun H locs hG => ?_)
  obtain ⟨S8, eS_S8⟩ : ∃ z : GS, z = sX S q3 (Int32.toNatClampNeg (gX S k0 7)) x1 := ⟨_, rfl⟩
  have h := h S8 eS_S8
  rw [← eS_S8] at hG
  have hs_S8 : gSh S8 S := by rw [eS_S8]; exact gSh.x _ _ _ _
  have hsh := hs_S8.tr hsh
  have hk9 := hs_S8.lt hk1
  have hq10 := hs_S8.kd hq2
  have hk11 := hs_S8.lt hk5
  have hq12 := hs_S8.kd hq6
  refine lv_aload_n hx hb dX9_give_10 rfl (lv_at hl 0 rfl) ?_
  refine lv_dup hx hb dX9_give_11 rfl ?_
  refine g_get (ci := 9) (C := RX9) (T := TX9) (N := 36) hx hb hts hin9 hown hK hG hk9 (cell_9 hq10) rfl 7 (by decide) lk_146 (fun _ h9 => h9) (v := .int (gX S8 k0 7)) rfl dX9_give_12 ?_
  refine lv_iconst (v := 1) hx hb dX9_give_15 (by decide) ?_
  refine lv_iadd hx hb dX9_give_16 ?_
  refine r_put (ci := 9) (C := RX9) (T := TX9) (N := 36) hx hb hts hin9 tyX9 tyX9_ok nmX9 hown hK hG hk9 (cell_9 hq10) rfl 7 (by decide) lk_146 (fun _ h9 => h9) rfl rfl rfl (Nat.le_of_ble_eq_true rfl) (S' := sX S8 k0 7 ((gX S8 k0 7) + 1)) rfl (pu_9_7 hq10 ((gX S8 k0 7) + 1)) dX9_give_17 (fun H locs hG => ?_)
  obtain ⟨S13, eS_S13⟩ : ∃ z : GS, z = sX S8 k0 7 ((gX S8 k0 7) + 1) := ⟨_, rfl⟩
  have h := h S13 eS_S13
  rw [← eS_S13] at hG
  have hs_S13 : gSh S13 S8 := by rw [eS_S13]; exact gSh.x _ _ _ _
  have hsh := hs_S13.tr hsh
  have hk14 := hs_S13.lt hk9
  have hq15 := hs_S13.kd hq10
  have hk16 := hs_S13.lt hk11
  have hq17 := hs_S13.kd hq12
  exact W.vret hx hb hr (fun t ht hW => r_end (r := none) hAe hG hsh ⟨rfl, h⟩ rfl ht) hG.2.2.2.2 dX9_give_20
def wX9_giveSize_45 (Q : GS → Prop) (k0 : Nat) (t0 : Nat) (t1 : Int32) (S : GS) : Prop :=
  t0 < gN S ∧ gK S t0 = 9 ∧ wX9_give S t0 t1 (fun S3 => gSh S3 S → Q S3)
def wX9_giveSize_32 (Q : GS → Prop) (k0 : Nat) (x2 : Int32) (t0 : Nat) (t1 : Int32) (S : GS) : Prop :=
  t0 < gN S ∧ gK S t0 = 9 ∧ wX9_give S t0 t1 (fun S9 => gSh S9 S → (x2 = 0 → wX9_giveSize_45 Q k0 k0 0 S9) ∧ (¬ x2 = 0 → wX9_giveSize_45 Q k0 k0 1 S9))
def wX9_giveSize_17 (Q : GS → Prop) (k0 : Nat) (x1 : Int32) (t0 : Int32) (S : GS) : Prop :=
  (t0 = 0 → wX9_giveSize_32 Q k0 t0 k0 x1 S) ∧ (¬ t0 = 0 → wX9_giveSize_32 Q k0 t0 k0 (x1 / 1024) S)
def wX9_giveSize_16 (Q : GS → Prop) (k0 : Nat) (x1 : Int32) (S : GS) : Prop :=
  wX9_giveSize_17 Q k0 x1 0 S
def wX9_giveSize (S : GS) (k0 : Nat) (x1 : Int32) (Q : GS → Prop) : Prop :=
  (x1 = 0 → wX9_giveSize_16 Q k0 x1 S) ∧ (¬ x1 = 0 → (¬ (x1 - x1 / 1024 * 1024) = 0 → wX9_giveSize_16 Q k0 x1 S) ∧ ((x1 - x1 / 1024 * 1024) = 0 → wX9_giveSize_17 Q k0 x1 1 S))
set_option maxHeartbeats 4000000 in
set_option maxRecDepth 100000 in
theorem tX9_giveSize (l : Launch) (S : GS) (k0 : Nat) (x1 : Int32) (Q : GS → Prop) (h : wX9_giveSize S k0 x1 Q) : CS l yX9_giveSize wsX9_giveSize 1 S [vR (some k0), vI x1] (fun r S9 => r = none ∧ Q S9) := by
  refine CS.ofW (cc := cX9_giveSize) (maxL := 3) (ret := none) RX9 (by decide) rfl rfl (fun _ _ => Nat.le_of_ble_eq_true rfl) ?_
  intro p e s m args below meth c D Y za ad A ls hAe hx hb hr hml hts hown hlocks hK hA hG hl
  obtain ⟨S0, hS0⟩ : ∃ z : GS, z = S := ⟨_, rfl⟩
  rw [← hS0] at hAe
  rw [← hS0]
  have b_45 : ∀  (t0 : Nat) (t1 : Int32) (S : GS) (H : Heap) (locs : List Loc) (ls : Array Slot), wX9_giveSize_45 Q k0 t0 t1 S → gSh S S0 → gS D Y ad A s.heap S H locs → lv_has ls 3 [] → W p l e (rmD 1) s m args below meth c H locs 0 0 (MQ below (gE D Y za ad S0 s.heap.size (fun r S9 => r = none ∧ Q S9)) args s 0 0 A) (F0 m 45 ls [.int t1, .ref (ad t0)]) := by
    intro  t0 t1 S H locs ls h hsh hG hl
    unfold wX9_giveSize_45 at h
    obtain ⟨hk1, hq2, h⟩ := h
    refine r_callV (za := za) (k := t0) (ci := 9) (C := RX9) (T := TX9) (N := 36) (As := [vI t1]) (rest := []) (tX9_give l S t0 t1 _ h) ⟨hx, hb, hml, hown, hts⟩ (cwV 1 hts gX9_giveSize_X9_give rfl rfl rfl (by decide +kernel) ⟨by decide, by decide⟩) hK hG hA hk1 (cell_9 hq2) rfl rfl hl.1 rfl (Nat.le_of_ble_eq_true rfl) ⟨Nat.le_refl _, Nat.le_refl _⟩ dX9_giveSize_45 (fun r_9 S3 H locs hp hs_S3 hG => ?_)
    obtain ⟨rfl, h⟩ := hp
    have h := h hs_S3
    refine W.eq (g2 := F0 m 48 ls []) rfl ?_
    have hsh := hs_S3.tr hsh
    have hk5 := hs_S3.lt hk1
    have hq6 := hs_S3.kd hq2
    exact W.vret hx hb hr (fun t ht hW => r_end (r := none) hAe hG hsh ⟨rfl, h⟩ rfl ht) hG.2.2.2.2 dX9_giveSize_48
  have b_32 : ∀  (x2 : Int32) (t0 : Nat) (t1 : Int32) (S : GS) (H : Heap) (locs : List Loc) (ls : Array Slot), wX9_giveSize_32 Q k0 x2 t0 t1 S → gSh S S0 → gS D Y ad A s.heap S H locs → lv_has ls 3 [(0, .ref (ad k0)), (2, .int x2)] → W p l e (rmD 1) s m args below meth c H locs 0 0 (MQ below (gE D Y za ad S0 s.heap.size (fun r S9 => r = none ∧ Q S9)) args s 0 0 A) (F0 m 32 ls [.int t1, .ref (ad t0)]) := by
    intro  x2 t0 t1 S H locs ls h hsh hG hl
    unfold wX9_giveSize_32 at h
    obtain ⟨hk7, hq8, h⟩ := h
    refine r_callV (za := za) (k := t0) (ci := 9) (C := RX9) (T := TX9) (N := 36) (As := [vI t1]) (rest := []) (tX9_give l S t0 t1 _ h) ⟨hx, hb, hml, hown, hts⟩ (cwV 1 hts gX9_giveSize_X9_give rfl rfl rfl (by decide +kernel) ⟨by decide, by decide⟩) hK hG hA hk7 (cell_9 hq8) rfl rfl hl.1 rfl (Nat.le_of_ble_eq_true rfl) ⟨Nat.le_refl _, Nat.le_refl _⟩ dX9_giveSize_32 (fun r_9 S9 H locs hp hs_S9 hG => ?_)
    obtain ⟨rfl, h⟩ := hp
    have h := h hs_S9
    refine W.eq (g2 := F0 m 35 ls []) rfl ?_
    have hsh := hs_S9.tr hsh
    have hk11 := hs_S9.lt hk7
    have hq12 := hs_S9.kd hq8
    refine lv_aload_n hx hb dX9_giveSize_35 rfl (lv_at hl 0 rfl) ?_
    refine lv_iload_n hx hb dX9_giveSize_36 rfl (lv_at hl 1 rfl) ?_
    refine lv_if_eq (tgt := 44) hx hb dX9_giveSize_37 (by decide) (fun c_37 => ?_) (fun c_37 => ?_)
    · have h := h.1 c_37
      refine lv_iconst (v := 0) hx hb dX9_giveSize_44 (by decide) ?_
      exact b_45 k0 0 S9 H locs ls h hsh hG (lv_sub hl [] rfl)
    · have h := h.2 c_37
      refine lv_iconst (v := 1) hx hb dX9_giveSize_40 (by decide) ?_
      refine lv_goto (tgt := 45) hx hb dX9_giveSize_41 (by decide) ?_
      exact b_45 k0 1 S9 H locs ls h hsh hG (lv_sub hl [] rfl)
  have b_17 : ∀  (x1 : Int32) (t0 : Int32) (S : GS) (H : Heap) (locs : List Loc) (ls : Array Slot), wX9_giveSize_17 Q k0 x1 t0 S → gSh S S0 → gS D Y ad A s.heap S H locs → lv_has ls 3 [(0, .ref (ad k0)), (1, .int x1)] → W p l e (rmD 1) s m args below meth c H locs 0 0 (MQ below (gE D Y za ad S0 s.heap.size (fun r S9 => r = none ∧ Q S9)) args s 0 0 A) (F0 m 17 ls [.int t0]) := by
    intro  x1 t0 S H locs ls h hsh hG hl
    unfold wX9_giveSize_17 at h
    refine lv_istore_n (lv' := [(2, .int t0), (0, .ref (ad k0)), (1, .int x1)]) hx hb dX9_giveSize_17 rfl hl (by decide) rfl (fun ls hl => ?_)
    refine lv_aload_n hx hb dX9_giveSize_18 rfl (lv_at hl 1 rfl) ?_
    refine lv_iload_n hx hb dX9_giveSize_19 rfl (lv_at hl 0 rfl) ?_
    refine lv_if_eq (tgt := 31) hx hb dX9_giveSize_20 (by decide) (fun c_20 => ?_) (fun c_20 => ?_)
    · have h := h.1 c_20
      refine lv_iload_n hx hb dX9_giveSize_31 rfl (lv_at hl 2 rfl) ?_
      exact b_32 t0 k0 x1 S H locs ls h hsh hG (lv_sub hl [1, 0] rfl)
    · have h := h.2 c_20
      refine lv_iload_n hx hb dX9_giveSize_23 rfl (lv_at hl 2 rfl) ?_
      refine lv_sipush (v := 1024) hx hb dX9_giveSize_24 (by decide) ?_
      refine lv_idiv hx hb dX9_giveSize_27 (by decide) ?_
      refine lv_goto (tgt := 32) hx hb dX9_giveSize_28 (by decide) ?_
      exact b_32 t0 k0 (x1 / 1024) S H locs ls h hsh hG (lv_sub hl [1, 0] rfl)
  have b_16 : ∀  (x1 : Int32) (S : GS) (H : Heap) (locs : List Loc) (ls : Array Slot), wX9_giveSize_16 Q k0 x1 S → gSh S S0 → gS D Y ad A s.heap S H locs → lv_has ls 3 [(0, .ref (ad k0)), (1, .int x1)] → W p l e (rmD 1) s m args below meth c H locs 0 0 (MQ below (gE D Y za ad S0 s.heap.size (fun r S9 => r = none ∧ Q S9)) args s 0 0 A) (F0 m 16 ls []) := by
    intro  x1 S H locs ls h hsh hG hl
    unfold wX9_giveSize_16 at h
    refine lv_iconst (v := 0) hx hb dX9_giveSize_16 (by decide) ?_
    exact b_17 x1 0 S H locs ls h hsh hG (lv_sub hl [0, 1] rfl)
  have hl : lv_has ls 3 [(0, .ref (ad k0)), (1, .int x1)] := hl
  have hsh : gSh S S0 := by rw [hS0]; exact gSh.rf S
  obtain ⟨H, eH⟩ : ∃ z : Heap, z = s.heap := ⟨_, rfl⟩
  obtain ⟨locs, eL⟩ : ∃ z : List Loc, z = [] := ⟨_, rfl⟩
  have hG : gS D Y ad A s.heap S H locs := by rw [eH, eL]; exact hG
  suffices hgoal : W p l e (rmD 1) s m args below meth c H locs 0 0 (MQ below (gE D Y za ad S0 s.heap.size (fun r S9 => r = none ∧ Q S9)) args s 0 0 A) (F0 m 0 ls []) by rw [eH, eL] at hgoal; exact hgoal
  unfold wX9_giveSize at h
  refine lv_iload_n hx hb dX9_giveSize_0 rfl (lv_at hl 1 rfl) ?_
  refine lv_if_eq (tgt := 16) hx hb dX9_giveSize_1 (by decide) (fun c_1 => ?_) (fun c_1 => ?_)
  · have h := h.1 c_1
    exact b_16 x1 S H locs ls h hsh hG (lv_sub hl [0, 1] rfl)
  · have h := h.2 c_1
    refine lv_iload_n hx hb dX9_giveSize_4 rfl (lv_at hl 1 rfl) ?_
    refine lv_sipush (v := 1024) hx hb dX9_giveSize_5 (by decide) ?_
    refine lv_irem hx hb dX9_giveSize_8 (by decide) ?_
    refine lv_if_ne (tgt := 16) hx hb dX9_giveSize_9 (by decide) (fun c_9 => ?_) (fun c_9 => ?_)
    · have h := h.1 c_9
      exact b_16 x1 S H locs ls h hsh hG (lv_sub hl [0, 1] rfl)
    · have h := h.2 c_9
      refine lv_iconst (v := 1) hx hb dX9_giveSize_12 (by decide) ?_
      refine lv_goto (tgt := 17) hx hb dX9_giveSize_13 (by decide) ?_
      exact b_17 x1 1 S H locs ls h hsh hG (lv_sub hl [0, 1] rfl)
def wX9_giveParts (S : GS) (k0 : Nat) (x1 : Int32) (Q : GS → Prop) : Prop :=
  k0 < gN S ∧ gK S k0 = 9 ∧ wX9_give S k0 (x1 / 1000) (fun S3 => gSh S3 S → wX9_give S3 k0 (x1 - x1 / 1000 * 1000) (fun S7 => gSh S7 S3 → Q S7))
set_option maxHeartbeats 4000000 in
set_option maxRecDepth 100000 in
theorem tX9_giveParts (l : Launch) (S : GS) (k0 : Nat) (x1 : Int32) (Q : GS → Prop) (h : wX9_giveParts S k0 x1 Q) : CS l yX9_giveParts wsX9_giveParts 1 S [vR (some k0), vI x1] (fun r S9 => r = none ∧ Q S9) := by
  refine CS.ofW (cc := cX9_giveParts) (maxL := 2) (ret := none) RX9 (by decide) rfl rfl (fun _ _ => Nat.le_of_ble_eq_true rfl) ?_
  intro p e s m args below meth c D Y za ad A ls hAe hx hb hr hml hts hown hlocks hK hA hG hl
  obtain ⟨S0, hS0⟩ : ∃ z : GS, z = S := ⟨_, rfl⟩
  rw [← hS0] at hAe
  rw [← hS0]
  have hl : lv_has ls 2 [(0, .ref (ad k0)), (1, .int x1)] := hl
  have hsh : gSh S S0 := by rw [hS0]; exact gSh.rf S
  obtain ⟨H, eH⟩ : ∃ z : Heap, z = s.heap := ⟨_, rfl⟩
  obtain ⟨locs, eL⟩ : ∃ z : List Loc, z = [] := ⟨_, rfl⟩
  have hG : gS D Y ad A s.heap S H locs := by rw [eH, eL]; exact hG
  suffices hgoal : W p l e (rmD 1) s m args below meth c H locs 0 0 (MQ below (gE D Y za ad S0 s.heap.size (fun r S9 => r = none ∧ Q S9)) args s 0 0 A) (F0 m 0 ls []) by rw [eH, eL] at hgoal; exact hgoal
  unfold wX9_giveParts at h
  refine lv_aload_n hx hb dX9_giveParts_0 rfl (lv_at hl 0 rfl) ?_
  refine lv_iload_n hx hb dX9_giveParts_1 rfl (lv_at hl 1 rfl) ?_
  refine lv_sipush (v := 1000) hx hb dX9_giveParts_2 (by decide) ?_
  refine lv_idiv hx hb dX9_giveParts_5 (by decide) ?_
  obtain ⟨hk1, hq2, h⟩ := h
  refine r_callV (za := za) (k := k0) (ci := 9) (C := RX9) (T := TX9) (N := 36) (As := [vI (x1 / 1000)]) (rest := []) (tX9_give l S k0 (x1 / 1000) _ h) ⟨hx, hb, hml, hown, hts⟩ (cwV 1 hts gX9_giveParts_X9_give rfl rfl rfl (by decide +kernel) ⟨by decide, by decide⟩) hK hG hA hk1 (cell_9 hq2) rfl rfl hl.1 rfl (Nat.le_of_ble_eq_true rfl) ⟨Nat.le_refl _, Nat.le_refl _⟩ dX9_giveParts_6 (fun r_9 S3 H locs hp hs_S3 hG => ?_)
  obtain ⟨rfl, h⟩ := hp
  have h := h hs_S3
  refine W.eq (g2 := F0 m 9 ls []) rfl ?_
  have hsh := hs_S3.tr hsh
  have hk5 := hs_S3.lt hk1
  have hq6 := hs_S3.kd hq2
  refine lv_aload_n hx hb dX9_giveParts_9 rfl (lv_at hl 0 rfl) ?_
  refine lv_iload_n hx hb dX9_giveParts_10 rfl (lv_at hl 1 rfl) ?_
  refine lv_sipush (v := 1000) hx hb dX9_giveParts_11 (by decide) ?_
  refine lv_irem hx hb dX9_giveParts_14 (by decide) ?_
  refine r_callV (za := za) (k := k0) (ci := 9) (C := RX9) (T := TX9) (N := 36) (As := [vI (x1 - x1 / 1000 * 1000)]) (rest := []) (tX9_give l S3 k0 (x1 - x1 / 1000 * 1000) _ h) ⟨hx, hb, hml, hown, hts⟩ (cwV 1 hts gX9_giveParts_X9_give rfl rfl rfl (by decide +kernel) ⟨by decide, by decide⟩) hK hG hA hk5 (cell_9 hq6) rfl rfl hl.1 rfl (Nat.le_of_ble_eq_true rfl) ⟨Nat.le_refl _, Nat.le_refl _⟩ dX9_giveParts_15 (fun r_9 S7 H locs hp hs_S7 hG => ?_)
  obtain ⟨rfl, h⟩ := hp
  have h := h hs_S7
  refine W.eq (g2 := F0 m 18 ls []) rfl ?_
  have hsh := hs_S7.tr hsh
  have hk9 := hs_S7.lt hk5
  have hq10 := hs_S7.kd hq6
  exact W.vret hx hb hr (fun t ht hW => r_end (r := none) hAe hG hsh ⟨rfl, h⟩ rfl ht) hG.2.2.2.2 dX9_giveParts_18
def wX9_put (S : GS) (k0 : Nat) (x1 : Int32) (Q : GS → Prop) : Prop :=
  k0 < gN S ∧ gK S k0 = 9 ∧ ∃ q3 : Nat, gR S k0 4 = some q3 ∧ q3 < gN S ∧ gK S q3 = 11 ∧ vp_in (gX S k0 5) (gL S q3) ∧ ∀ S8 : GS, S8 = sX S q3 (Int32.toNatClampNeg (gX S k0 5)) x1 → ∀ S13 : GS, S13 = sX S8 k0 5 ((gX S8 k0 5) + 1) → Q S13
set_option maxHeartbeats 4000000 in
set_option maxRecDepth 100000 in
theorem tX9_put (l : Launch) (S : GS) (k0 : Nat) (x1 : Int32) (Q : GS → Prop) (h : wX9_put S k0 x1 Q) : CS l yX9_put wsX9_put 0 S [vR (some k0), vI x1] (fun r S9 => r = none ∧ Q S9) := by
  refine CS.ofW (cc := cX9_put) (maxL := 2) (ret := none) RX9 (by decide) rfl rfl (fun _ _ => Nat.le_of_ble_eq_true rfl) ?_
  intro p e s m args below meth c D Y za ad A ls hAe hx hb hr hml hts hown hlocks hK hA hG hl
  obtain ⟨S0, hS0⟩ : ∃ z : GS, z = S := ⟨_, rfl⟩
  rw [← hS0] at hAe
  rw [← hS0]
  have hin9 : ∀ w ∈ wsX90, w ∈ wsX9_put := by decide +kernel
  have lk_16 := hts (.fieldLink RX9 16 "PauseLogModel" "out" "[I") (by decide +kernel)
  have lk_229 := hts (.fieldLink RX9 229 "PauseLogModel" "outLong" "I") (by decide +kernel)
  have hl : lv_has ls 2 [(0, .ref (ad k0)), (1, .int x1)] := hl
  have hsh : gSh S S0 := by rw [hS0]; exact gSh.rf S
  obtain ⟨H, eH⟩ : ∃ z : Heap, z = s.heap := ⟨_, rfl⟩
  obtain ⟨locs, eL⟩ : ∃ z : List Loc, z = [] := ⟨_, rfl⟩
  have hG : gS D Y ad A s.heap S H locs := by rw [eH, eL]; exact hG
  suffices hgoal : W p l e (rmD 0) s m args below meth c H locs 0 0 (MQ below (gE D Y za ad S0 s.heap.size (fun r S9 => r = none ∧ Q S9)) args s 0 0 A) (F0 m 0 ls []) by rw [eH, eL] at hgoal; exact hgoal
  unfold wX9_put at h
  refine lv_aload_n hx hb dX9_put_0 rfl (lv_at hl 0 rfl) ?_
  obtain ⟨hk1, hq2, h⟩ := h
  refine g_get (ci := 9) (C := RX9) (T := TX9) (N := 36) hx hb hts hin9 hown hK hG hk1 (cell_9 hq2) rfl 4 (by decide) lk_16 (fun _ h9 => h9) (v := rv ad (gR S k0 4)) rfl dX9_put_1 ?_
  refine lv_aload_n hx hb dX9_put_4 rfl (lv_at hl 0 rfl) ?_
  refine g_get (ci := 9) (C := RX9) (T := TX9) (N := 36) hx hb hts hin9 hown hK hG hk1 (cell_9 hq2) rfl 5 (by decide) lk_229 (fun _ h9 => h9) (v := .int (gX S k0 5)) rfl dX9_put_5 ?_
  refine lv_iload_n hx hb dX9_put_8 rfl (lv_at hl 1 rfl) ?_
  obtain ⟨q3, e4, h⟩ := h
  refine W.eq (g2 := F0 m 9 ls [.int x1, .int (gX S k0 5), .ref (ad q3)]) (by rw [e4]; rfl) ?_
  obtain ⟨hk5, hq6, h⟩ := h
  obtain ⟨hi7, h⟩ := h
  refine r_iast hx hb hK hG hk5 hq6 hi7 dX9_put_9 (fun H locs hG => ?_)
  obtain ⟨S8, eS_S8⟩ : ∃ z : GS, z = sX S q3 (Int32.toNatClampNeg (gX S k0 5)) x1 := ⟨_, rfl⟩
  have h := h S8 eS_S8
  rw [← eS_S8] at hG
  have hs_S8 : gSh S8 S := by rw [eS_S8]; exact gSh.x _ _ _ _
  have hsh := hs_S8.tr hsh
  have hk9 := hs_S8.lt hk1
  have hq10 := hs_S8.kd hq2
  have hk11 := hs_S8.lt hk5
  have hq12 := hs_S8.kd hq6
  refine lv_aload_n hx hb dX9_put_10 rfl (lv_at hl 0 rfl) ?_
  refine lv_dup hx hb dX9_put_11 rfl ?_
  refine g_get (ci := 9) (C := RX9) (T := TX9) (N := 36) hx hb hts hin9 hown hK hG hk9 (cell_9 hq10) rfl 5 (by decide) lk_229 (fun _ h9 => h9) (v := .int (gX S8 k0 5)) rfl dX9_put_12 ?_
  refine lv_iconst (v := 1) hx hb dX9_put_15 (by decide) ?_
  refine lv_iadd hx hb dX9_put_16 ?_
  refine r_put (ci := 9) (C := RX9) (T := TX9) (N := 36) hx hb hts hin9 tyX9 tyX9_ok nmX9 hown hK hG hk9 (cell_9 hq10) rfl 5 (by decide) lk_229 (fun _ h9 => h9) rfl rfl rfl (Nat.le_of_ble_eq_true rfl) (S' := sX S8 k0 5 ((gX S8 k0 5) + 1)) rfl (pu_9_5 hq10 ((gX S8 k0 5) + 1)) dX9_put_17 (fun H locs hG => ?_)
  obtain ⟨S13, eS_S13⟩ : ∃ z : GS, z = sX S8 k0 5 ((gX S8 k0 5) + 1) := ⟨_, rfl⟩
  have h := h S13 eS_S13
  rw [← eS_S13] at hG
  have hs_S13 : gSh S13 S8 := by rw [eS_S13]; exact gSh.x _ _ _ _
  have hsh := hs_S13.tr hsh
  have hk14 := hs_S13.lt hk9
  have hq15 := hs_S13.kd hq10
  have hk16 := hs_S13.lt hk11
  have hq17 := hs_S13.kd hq12
  exact W.vret hx hb hr (fun t ht hW => r_end (r := none) hAe hG hsh ⟨rfl, h⟩ rfl ht) hG.2.2.2.2 dX9_put_20
def wX9_putDigits_19 (Q : GS → Prop) (L_5 : Int32 → Int32 → Int32 → Int32 → GS → Prop) (k0 : Nat) (x1 : Int32) (x2 : Int32) (x3 : Int32) (x4 : Int32) (S : GS) : Prop :=
  L_5 x1 x2 (x3 * 10) (x4 + 1) S
def wX9_putDigits_30 (Q : GS → Prop) (k0 : Nat) : Nat → Int32 → Int32 → GS → Prop
  | 0, _, _, _ => False
  | f9 + 1, x1, x3, S =>
  (x3 ≤ 0 → Q S) ∧ (¬ x3 ≤ 0 → ¬ x3 = 0 ∧ k0 < gN S ∧ gK S k0 = 9 ∧ wX9_put S k0 (48 + ((x1 / x3) - (x1 / x3) / 10 * 10)) (fun S4 => gSh S4 S → (wX9_putDigits_30 Q k0 f9) x1 (x3 / 10) S4))
def wX9_putDigits_5 (Q : GS → Prop) (k0 : Nat) : Nat → Int32 → Int32 → Int32 → Int32 → GS → Prop
  | 0, _, _, _, _, _ => False
  | f9 + 1, x1, x2, x3, x4, S =>
  (x4 < x2 → wX9_putDigits_19 Q (wX9_putDigits_5 Q k0 f9) k0 x1 x2 x3 x4 S) ∧ (¬ x4 < x2 → ¬ x3 = 0 ∧ ((x1 / x3) < 10 → ∃ f9 : Nat, wX9_putDigits_30 Q k0 f9 x1 x3 S) ∧ (¬ (x1 / x3) < 10 → wX9_putDigits_19 Q (wX9_putDigits_5 Q k0 f9) k0 x1 x2 x3 x4 S))
def wX9_putDigits (S : GS) (k0 : Nat) (x1 : Int32) (x2 : Int32) (Q : GS → Prop) : Prop :=
  ∃ f10 : Nat, wX9_putDigits_5 Q k0 f10 x1 x2 1 1 S
set_option maxHeartbeats 4000000 in
set_option maxRecDepth 100000 in
theorem tX9_putDigits (l : Launch) (S : GS) (k0 : Nat) (x1 : Int32) (x2 : Int32) (Q : GS → Prop) (h : wX9_putDigits S k0 x1 x2 Q) : CS l yX9_putDigits wsX9_putDigits 1 S [vR (some k0), vI x1, vI x2] (fun r S9 => r = none ∧ Q S9) := by
  refine CS.ofW (cc := cX9_putDigits) (maxL := 5) (ret := none) RX9 (by decide) rfl rfl (fun _ _ => Nat.le_of_ble_eq_true rfl) ?_
  intro p e s m args below meth c D Y za ad A ls hAe hx hb hr hml hts hown hlocks hK hA hG hl
  obtain ⟨S0, hS0⟩ : ∃ z : GS, z = S := ⟨_, rfl⟩
  rw [← hS0] at hAe
  rw [← hS0]
  have b_19 : ∀ (L_5 : Int32 → Int32 → Int32 → Int32 → GS → Prop) (hL_5 : ∀ (x1 : Int32) (x2 : Int32) (x3 : Int32) (x4 : Int32) (S : GS) (H : Heap) (locs : List Loc) (ls : Array Slot), L_5 x1 x2 x3 x4 S → gSh S S0 → gS D Y ad A s.heap S H locs → lv_has ls 5 [(0, .ref (ad k0)), (1, .int x1), (2, .int x2), (3, .int x3), (4, .int x4)] → W p l e (rmD 1) s m args below meth c H locs 0 0 (MQ below (gE D Y za ad S0 s.heap.size (fun r S9 => r = none ∧ Q S9)) args s 0 0 A) (F0 m 5 ls [])) (x1 : Int32) (x2 : Int32) (x3 : Int32) (x4 : Int32) (S : GS) (H : Heap) (locs : List Loc) (ls : Array Slot), wX9_putDigits_19 Q L_5 k0 x1 x2 x3 x4 S → gSh S S0 → gS D Y ad A s.heap S H locs → lv_has ls 5 [(0, .ref (ad k0)), (1, .int x1), (2, .int x2), (3, .int x3), (4, .int x4)] → W p l e (rmD 1) s m args below meth c H locs 0 0 (MQ below (gE D Y za ad S0 s.heap.size (fun r S9 => r = none ∧ Q S9)) args s 0 0 A) (F0 m 19 ls []) := by
    intro L_5 hL_5 x1 x2 x3 x4 S H locs ls h hsh hG hl
    unfold wX9_putDigits_19 at h
    refine lv_iload_n hx hb dX9_putDigits_19 rfl (lv_at hl 3 rfl) ?_
    refine lv_bipush (v := 10) hx hb dX9_putDigits_20 (by decide) ?_
    refine lv_imul hx hb dX9_putDigits_22 ?_
    refine lv_istore_n (lv' := [(3, .int (x3 * 10)), (0, .ref (ad k0)), (1, .int x1), (2, .int x2), (4, .int x4)]) hx hb dX9_putDigits_23 rfl hl (by decide) rfl (fun ls hl => ?_)
    refine lv_iinc (v := x4 + 1) (lv' := [(4, .int (x4 + 1)), (3, .int (x3 * 10)), (0, .ref (ad k0)), (1, .int x1), (2, .int x2)]) hx hb dX9_putDigits_24 hl (k := 4) rfl rfl (by decide) rfl (fun ls hl => ?_)
    refine lv_goto (tgt := 5) hx hb dX9_putDigits_27 (by decide) ?_
    exact hL_5 x1 x2 (x3 * 10) (x4 + 1) S H locs ls h hsh hG (lv_sub hl [2, 3, 4, 1, 0] rfl)
  have b_30 : ∀  (f9 : Nat) (x1 : Int32) (x3 : Int32) (S : GS) (H : Heap) (locs : List Loc) (ls : Array Slot), wX9_putDigits_30 Q k0 f9 x1 x3 S → gSh S S0 → gS D Y ad A s.heap S H locs → lv_has ls 5 [(0, .ref (ad k0)), (1, .int x1), (3, .int x3)] → W p l e (rmD 1) s m args below meth c H locs 0 0 (MQ below (gE D Y za ad S0 s.heap.size (fun r S9 => r = none ∧ Q S9)) args s 0 0 A) (F0 m 30 ls []) := by
    intro  f9
    induction f9 with
    | zero =>
      intro x1 x3 S H locs ls h
      exact False.elim (by unfold wX9_putDigits_30 at h; exact h)
    | succ f9 hL_30 =>
      intro x1 x3 S H locs ls h hsh hG hl
      unfold wX9_putDigits_30 at h
      refine lv_iload_n hx hb dX9_putDigits_30 rfl (lv_at hl 2 rfl) ?_
      refine lv_if_le (tgt := 55) hx hb dX9_putDigits_31 (by decide) (fun c_31 => ?_) (fun c_31 => ?_)
      · have h := h.1 c_31
        exact W.vret hx hb hr (fun t ht hW => r_end (r := none) hAe hG hsh ⟨rfl, h⟩ rfl ht) hG.2.2.2.2 dX9_putDigits_55
      · have h := h.2 c_31
        refine lv_aload_n hx hb dX9_putDigits_34 rfl (lv_at hl 0 rfl) ?_
        refine lv_bipush (v := 48) hx hb dX9_putDigits_35 (by decide) ?_
        refine lv_iload_n hx hb dX9_putDigits_37 rfl (lv_at hl 1 rfl) ?_
        refine lv_iload_n hx hb dX9_putDigits_38 rfl (lv_at hl 2 rfl) ?_
        obtain ⟨hd1, h⟩ := h
        refine lv_idiv hx hb dX9_putDigits_39 hd1 ?_
        refine lv_bipush (v := 10) hx hb dX9_putDigits_40 (by decide) ?_
        refine lv_irem hx hb dX9_putDigits_42 (by decide) ?_
        refine lv_iadd hx hb dX9_putDigits_43 ?_
        obtain ⟨hk2, hq3, h⟩ := h
        refine r_callV (za := za) (k := k0) (ci := 9) (C := RX9) (T := TX9) (N := 36) (As := [vI (48 + ((x1 / x3) - (x1 / x3) / 10 * 10))]) (rest := []) (tX9_put l S k0 (48 + ((x1 / x3) - (x1 / x3) / 10 * 10)) _ h) ⟨hx, hb, hml, hown, hts⟩ (cwV 1 hts gX9_putDigits_X9_put rfl rfl rfl (by decide +kernel) ⟨by decide, by decide⟩) hK hG hA hk2 (cell_9 hq3) rfl rfl hl.1 rfl (Nat.le_of_ble_eq_true rfl) ⟨Nat.le_refl _, Nat.le_refl _⟩ dX9_putDigits_44 (fun r_9 S4 H locs hp hs_S4 hG => ?_)
        obtain ⟨rfl, h⟩ := hp
        have h := h hs_S4
        refine W.eq (g2 := F0 m 47 ls []) rfl ?_
        have hsh := hs_S4.tr hsh
        have hk6 := hs_S4.lt hk2
        have hq7 := hs_S4.kd hq3
        refine lv_iload_n hx hb dX9_putDigits_47 rfl (lv_at hl 2 rfl) ?_
        refine lv_bipush (v := 10) hx hb dX9_putDigits_48 (by decide) ?_
        refine lv_idiv hx hb dX9_putDigits_50 (by decide) ?_
        refine lv_istore_n (lv' := [(3, .int (x3 / 10)), (0, .ref (ad k0)), (1, .int x1)]) hx hb dX9_putDigits_51 rfl hl (by decide) rfl (fun ls hl => ?_)
        refine lv_goto (tgt := 30) hx hb dX9_putDigits_52 (by decide) ?_
        exact hL_30 x1 (x3 / 10) S4 H locs ls h hsh hG (lv_sub hl [1, 2, 0] rfl)
  have b_5 : ∀  (f9 : Nat) (x1 : Int32) (x2 : Int32) (x3 : Int32) (x4 : Int32) (S : GS) (H : Heap) (locs : List Loc) (ls : Array Slot), wX9_putDigits_5 Q k0 f9 x1 x2 x3 x4 S → gSh S S0 → gS D Y ad A s.heap S H locs → lv_has ls 5 [(0, .ref (ad k0)), (1, .int x1), (2, .int x2), (3, .int x3), (4, .int x4)] → W p l e (rmD 1) s m args below meth c H locs 0 0 (MQ below (gE D Y za ad S0 s.heap.size (fun r S9 => r = none ∧ Q S9)) args s 0 0 A) (F0 m 5 ls []) := by
    intro  f9
    induction f9 with
    | zero =>
      intro x1 x2 x3 x4 S H locs ls h
      exact False.elim (by unfold wX9_putDigits_5 at h; exact h)
    | succ f9 hL_5 =>
      intro x1 x2 x3 x4 S H locs ls h hsh hG hl
      unfold wX9_putDigits_5 at h
      refine lv_iload hx hb dX9_putDigits_5 (lv_at hl 4 rfl) ?_
      refine lv_iload_n hx hb dX9_putDigits_7 rfl (lv_at hl 2 rfl) ?_
      refine lv_icmp_lt (tgt := 19) hx hb dX9_putDigits_8 (by decide) (fun c_8 => ?_) (fun c_8 => ?_)
      · have h := h.1 c_8
        exact b_19 (wX9_putDigits_5 Q k0 f9) hL_5 x1 x2 x3 x4 S H locs ls h hsh hG (lv_sub hl [0, 1, 2, 3, 4] rfl)
      · have h := h.2 c_8
        refine lv_iload_n hx hb dX9_putDigits_11 rfl (lv_at hl 1 rfl) ?_
        refine lv_iload_n hx hb dX9_putDigits_12 rfl (lv_at hl 3 rfl) ?_
        obtain ⟨hd8, h⟩ := h
        refine lv_idiv hx hb dX9_putDigits_13 hd8 ?_
        refine lv_bipush (v := 10) hx hb dX9_putDigits_14 (by decide) ?_
        refine lv_icmp_lt (tgt := 30) hx hb dX9_putDigits_16 (by decide) (fun c_16 => ?_) (fun c_16 => ?_)
        · have h := h.1 c_16
          obtain ⟨f9, h⟩ := h
          exact b_30 f9 x1 x3 S H locs ls h hsh hG (lv_sub hl [0, 1, 3] rfl)
        · have h := h.2 c_16
          exact b_19 (wX9_putDigits_5 Q k0 f9) hL_5 x1 x2 x3 x4 S H locs ls h hsh hG (lv_sub hl [0, 1, 2, 3, 4] rfl)
  have hl : lv_has ls 5 [(0, .ref (ad k0)), (1, .int x1), (2, .int x2)] := hl
  have hsh : gSh S S0 := by rw [hS0]; exact gSh.rf S
  obtain ⟨H, eH⟩ : ∃ z : Heap, z = s.heap := ⟨_, rfl⟩
  obtain ⟨locs, eL⟩ : ∃ z : List Loc, z = [] := ⟨_, rfl⟩
  have hG : gS D Y ad A s.heap S H locs := by rw [eH, eL]; exact hG
  suffices hgoal : W p l e (rmD 1) s m args below meth c H locs 0 0 (MQ below (gE D Y za ad S0 s.heap.size (fun r S9 => r = none ∧ Q S9)) args s 0 0 A) (F0 m 0 ls []) by rw [eH, eL] at hgoal; exact hgoal
  unfold wX9_putDigits at h
  refine lv_iconst (v := 1) hx hb dX9_putDigits_0 (by decide) ?_
  refine lv_istore_n (lv' := [(3, .int 1), (0, .ref (ad k0)), (1, .int x1), (2, .int x2)]) hx hb dX9_putDigits_1 rfl hl (by decide) rfl (fun ls hl => ?_)
  refine lv_iconst (v := 1) hx hb dX9_putDigits_2 (by decide) ?_
  refine lv_istore (lv' := [(4, .int 1), (3, .int 1), (0, .ref (ad k0)), (1, .int x1), (2, .int x2)]) hx hb dX9_putDigits_3 hl (by decide) rfl (fun ls hl => ?_)
  obtain ⟨f10, h⟩ := h
  exact b_5 f10 x1 x2 1 1 S H locs ls h hsh hG (lv_sub hl [2, 3, 4, 1, 0] rfl)
def wX9_pour_95 (Q : GS → Prop) (L_9 : Int32 → Int32 → GS → Prop) (k0 : Nat) (x1 : Int32) (x2 : Int32) (S : GS) : Prop :=
  L_9 x1 (x2 + 1) S
def wX9_pour_92 (Q : GS → Prop) (L_9 : Int32 → Int32 → GS → Prop) (k0 : Nat) (x1 : Int32) (x2 : Int32) (S : GS) : Prop :=
  wX9_pour_95 Q L_9 k0 (x1 + 1) x2 S
def wX9_pour_64 (Q : GS → Prop) (L_9 : Int32 → Int32 → GS → Prop) (k0 : Nat) (x1 : Int32) (x2 : Int32) (t0 : Nat) (t1 : Int32) (S : GS) : Prop :=
  t0 < gN S ∧ gK S t0 = 9 ∧ wX9_put S t0 t1 (fun S3 => gSh S3 S → wX9_pour_92 Q L_9 k0 x1 x2 S3)
def wX9_pour_89 (Q : GS → Prop) (L_9 : Int32 → Int32 → GS → Prop) (k0 : Nat) (x1 : Int32) (x2 : Int32) (t0 : Nat) (t1 : Int32) (t2 : Int32) (S : GS) : Prop :=
  t0 < gN S ∧ gK S t0 = 9 ∧ wX9_putDigits S t0 t1 t2 (fun S9 => gSh S9 S → wX9_pour_92 Q L_9 k0 x1 x2 S9)
def wX9_pour_9 (Q : GS → Prop) (k0 : Nat) : Nat → Int32 → Int32 → GS → Prop
  | 0, _, _, _ => False
  | f9 + 1, x1, x2, S =>
  k0 < gN S ∧ gK S k0 = 9 ∧ ((gX S k0 3) ≤ x2 → Q S) ∧ (¬ (gX S k0 3) ≤ x2 → ∃ q15 : Nat, gR S k0 2 = some q15 ∧ q15 < gN S ∧ gK S q15 = 11 ∧ vp_in x2 (gL S q15) ∧ ((200 : Int32) ≤ (gX S q15 (Int32.toNatClampNeg x2)) → (¬ (gX S q15 (Int32.toNatClampNeg x2)) = 400 → ∃ q20 : Nat, gR S k0 6 = some q20 ∧ q20 < gN S ∧ gK S q20 = 11 ∧ vp_in x1 (gL S q20) ∧ (¬ (gX S q15 (Int32.toNatClampNeg x2)) = 300 → wX9_pour_89 Q (wX9_pour_9 Q k0 f9) k0 x1 x2 k0 (gX S q20 (Int32.toNatClampNeg x1)) 1 S) ∧ ((gX S q15 (Int32.toNatClampNeg x2)) = 300 → wX9_pour_89 Q (wX9_pour_9 Q k0 f9) k0 x1 x2 k0 (gX S q20 (Int32.toNatClampNeg x1)) 3 S)) ∧ ((gX S q15 (Int32.toNatClampNeg x2)) = 400 → ∃ q25 : Nat, gR S k0 6 = some q25 ∧ q25 < gN S ∧ gK S q25 = 11 ∧ vp_in x1 (gL S q25) ∧ (¬ (gX S q25 (Int32.toNatClampNeg x1)) = 1 → wX9_pour_64 Q (wX9_pour_9 Q k0 f9) k0 x1 x2 k0 75 S) ∧ ((gX S q25 (Int32.toNatClampNeg x1)) = 1 → wX9_pour_64 Q (wX9_pour_9 Q k0 f9) k0 x1 x2 k0 77 S))) ∧ (¬ (200 : Int32) ≤ (gX S q15 (Int32.toNatClampNeg x2)) → wX9_put S k0 (gX S q15 (Int32.toNatClampNeg x2)) (fun S30 => gSh S30 S → wX9_pour_95 Q (wX9_pour_9 Q k0 f9) k0 x1 x2 S30)))
def wX9_pour (S : GS) (k0 : Nat) (Q : GS → Prop) : Prop :=
  k0 < gN S ∧ gK S k0 = 9 ∧ ∀ S38 : GS, S38 = sX S k0 5 0 → ∃ f41 : Nat, wX9_pour_9 Q k0 f41 0 0 S38
set_option maxHeartbeats 4000000 in
set_option maxRecDepth 100000 in
theorem tX9_pour (l : Launch) (S : GS) (k0 : Nat) (Q : GS → Prop) (h : wX9_pour S k0 Q) : CS l yX9_pour wsX9_pour 2 S [vR (some k0)] (fun r S9 => r = none ∧ Q S9) := by
  refine CS.ofW (cc := cX9_pour) (maxL := 4) (ret := none) RX9 (by decide) rfl rfl (fun _ _ => Nat.le_of_ble_eq_true rfl) ?_
  intro p e s m args below meth c D Y za ad A ls hAe hx hb hr hml hts hown hlocks hK hA hG hl
  obtain ⟨S0, hS0⟩ : ∃ z : GS, z = S := ⟨_, rfl⟩
  rw [← hS0] at hAe
  rw [← hS0]
  have hin9 : ∀ w ∈ wsX90, w ∈ wsX9_pour := by decide +kernel
  have lk_229 := hts (.fieldLink RX9 229 "PauseLogModel" "outLong" "I") (by decide +kernel)
  have lk_87 := hts (.fieldLink RX9 87 "PauseLogModel" "mouldLong" "I") (by decide +kernel)
  have lk_13 := hts (.fieldLink RX9 13 "PauseLogModel" "mould" "[I") (by decide +kernel)
  have lk_19 := hts (.fieldLink RX9 19 "PauseLogModel" "number" "[I") (by decide +kernel)
  have b_95 : ∀ (L_9 : Int32 → Int32 → GS → Prop) (hL_9 : ∀ (x1 : Int32) (x2 : Int32) (S : GS) (H : Heap) (locs : List Loc) (ls : Array Slot), L_9 x1 x2 S → gSh S S0 → gS D Y ad A s.heap S H locs → lv_has ls 4 [(0, .ref (ad k0)), (1, .int x1), (2, .int x2)] → W p l e (rmD 2) s m args below meth c H locs 0 0 (MQ below (gE D Y za ad S0 s.heap.size (fun r S9 => r = none ∧ Q S9)) args s 0 0 A) (F0 m 9 ls [])) (x1 : Int32) (x2 : Int32) (S : GS) (H : Heap) (locs : List Loc) (ls : Array Slot), wX9_pour_95 Q L_9 k0 x1 x2 S → gSh S S0 → gS D Y ad A s.heap S H locs → lv_has ls 4 [(0, .ref (ad k0)), (1, .int x1), (2, .int x2)] → W p l e (rmD 2) s m args below meth c H locs 0 0 (MQ below (gE D Y za ad S0 s.heap.size (fun r S9 => r = none ∧ Q S9)) args s 0 0 A) (F0 m 95 ls []) := by
    intro L_9 hL_9 x1 x2 S H locs ls h hsh hG hl
    unfold wX9_pour_95 at h
    refine lv_iinc (v := x2 + 1) (lv' := [(2, .int (x2 + 1)), (0, .ref (ad k0)), (1, .int x1)]) hx hb dX9_pour_95 hl (k := 2) rfl rfl (by decide) rfl (fun ls hl => ?_)
    refine lv_goto (tgt := 9) hx hb dX9_pour_98 (by decide) ?_
    exact hL_9 x1 (x2 + 1) S H locs ls h hsh hG (lv_sub hl [1, 2, 0] rfl)
  have b_92 : ∀ (L_9 : Int32 → Int32 → GS → Prop) (hL_9 : ∀ (x1 : Int32) (x2 : Int32) (S : GS) (H : Heap) (locs : List Loc) (ls : Array Slot), L_9 x1 x2 S → gSh S S0 → gS D Y ad A s.heap S H locs → lv_has ls 4 [(0, .ref (ad k0)), (1, .int x1), (2, .int x2)] → W p l e (rmD 2) s m args below meth c H locs 0 0 (MQ below (gE D Y za ad S0 s.heap.size (fun r S9 => r = none ∧ Q S9)) args s 0 0 A) (F0 m 9 ls [])) (x1 : Int32) (x2 : Int32) (S : GS) (H : Heap) (locs : List Loc) (ls : Array Slot), wX9_pour_92 Q L_9 k0 x1 x2 S → gSh S S0 → gS D Y ad A s.heap S H locs → lv_has ls 4 [(0, .ref (ad k0)), (1, .int x1), (2, .int x2)] → W p l e (rmD 2) s m args below meth c H locs 0 0 (MQ below (gE D Y za ad S0 s.heap.size (fun r S9 => r = none ∧ Q S9)) args s 0 0 A) (F0 m 92 ls []) := by
    intro L_9 hL_9 x1 x2 S H locs ls h hsh hG hl
    unfold wX9_pour_92 at h
    refine lv_iinc (v := x1 + 1) (lv' := [(1, .int (x1 + 1)), (0, .ref (ad k0)), (2, .int x2)]) hx hb dX9_pour_92 hl (k := 1) rfl rfl (by decide) rfl (fun ls hl => ?_)
    exact b_95 L_9 hL_9 (x1 + 1) x2 S H locs ls h hsh hG (lv_sub hl [1, 0, 2] rfl)
  have b_64 : ∀ (L_9 : Int32 → Int32 → GS → Prop) (hL_9 : ∀ (x1 : Int32) (x2 : Int32) (S : GS) (H : Heap) (locs : List Loc) (ls : Array Slot), L_9 x1 x2 S → gSh S S0 → gS D Y ad A s.heap S H locs → lv_has ls 4 [(0, .ref (ad k0)), (1, .int x1), (2, .int x2)] → W p l e (rmD 2) s m args below meth c H locs 0 0 (MQ below (gE D Y za ad S0 s.heap.size (fun r S9 => r = none ∧ Q S9)) args s 0 0 A) (F0 m 9 ls [])) (x1 : Int32) (x2 : Int32) (t0 : Nat) (t1 : Int32) (S : GS) (H : Heap) (locs : List Loc) (ls : Array Slot), wX9_pour_64 Q L_9 k0 x1 x2 t0 t1 S → gSh S S0 → gS D Y ad A s.heap S H locs → lv_has ls 4 [(0, .ref (ad k0)), (1, .int x1), (2, .int x2)] → W p l e (rmD 2) s m args below meth c H locs 0 0 (MQ below (gE D Y za ad S0 s.heap.size (fun r S9 => r = none ∧ Q S9)) args s 0 0 A) (F0 m 64 ls [.int t1, .ref (ad t0)]) := by
    intro L_9 hL_9 x1 x2 t0 t1 S H locs ls h hsh hG hl
    unfold wX9_pour_64 at h
    obtain ⟨hk1, hq2, h⟩ := h
    refine r_callV (za := za) (k := t0) (ci := 9) (C := RX9) (T := TX9) (N := 36) (As := [vI t1]) (rest := []) (tX9_put l S t0 t1 _ h) ⟨hx, hb, hml, hown, hts⟩ (cwV 1 hts gX9_pour_X9_put rfl rfl rfl (by decide +kernel) ⟨by decide, by decide⟩) hK hG hA hk1 (cell_9 hq2) rfl rfl hl.1 rfl (Nat.le_of_ble_eq_true rfl) ⟨Nat.le_refl _, Nat.le_refl _⟩ dX9_pour_64 (fun r_9 S3 H locs hp hs_S3 hG => ?_)
    obtain ⟨rfl, h⟩ := hp
    have h := h hs_S3
    refine W.eq (g2 := F0 m 67 ls []) rfl ?_
    have hsh := hs_S3.tr hsh
    have hk5 := hs_S3.lt hk1
    have hq6 := hs_S3.kd hq2
    refine lv_goto (tgt := 92) hx hb dX9_pour_67 (by decide) ?_
    exact b_92 L_9 hL_9 x1 x2 S3 H locs ls h hsh hG (lv_sub hl [0, 1, 2] rfl)
  have b_89 : ∀ (L_9 : Int32 → Int32 → GS → Prop) (hL_9 : ∀ (x1 : Int32) (x2 : Int32) (S : GS) (H : Heap) (locs : List Loc) (ls : Array Slot), L_9 x1 x2 S → gSh S S0 → gS D Y ad A s.heap S H locs → lv_has ls 4 [(0, .ref (ad k0)), (1, .int x1), (2, .int x2)] → W p l e (rmD 2) s m args below meth c H locs 0 0 (MQ below (gE D Y za ad S0 s.heap.size (fun r S9 => r = none ∧ Q S9)) args s 0 0 A) (F0 m 9 ls [])) (x1 : Int32) (x2 : Int32) (t0 : Nat) (t1 : Int32) (t2 : Int32) (S : GS) (H : Heap) (locs : List Loc) (ls : Array Slot), wX9_pour_89 Q L_9 k0 x1 x2 t0 t1 t2 S → gSh S S0 → gS D Y ad A s.heap S H locs → lv_has ls 4 [(0, .ref (ad k0)), (1, .int x1), (2, .int x2)] → W p l e (rmD 2) s m args below meth c H locs 0 0 (MQ below (gE D Y za ad S0 s.heap.size (fun r S9 => r = none ∧ Q S9)) args s 0 0 A) (F0 m 89 ls [.int t2, .int t1, .ref (ad t0)]) := by
    intro L_9 hL_9 x1 x2 t0 t1 t2 S H locs ls h hsh hG hl
    unfold wX9_pour_89 at h
    obtain ⟨hk7, hq8, h⟩ := h
    refine r_callV (za := za) (k := t0) (ci := 9) (C := RX9) (T := TX9) (N := 36) (As := [vI t1, vI t2]) (rest := []) (tX9_putDigits l S t0 t1 t2 _ h) ⟨hx, hb, hml, hown, hts⟩ (cwV 2 hts gX9_pour_X9_putDigits rfl rfl rfl (by decide +kernel) ⟨by decide, by decide⟩) hK hG hA hk7 (cell_9 hq8) rfl rfl hl.1 rfl (Nat.le_of_ble_eq_true rfl) ⟨Nat.le_refl _, Nat.le_refl _⟩ dX9_pour_89 (fun r_9 S9 H locs hp hs_S9 hG => ?_)
    obtain ⟨rfl, h⟩ := hp
    have h := h hs_S9
    refine W.eq (g2 := F0 m 92 ls []) rfl ?_
    have hsh := hs_S9.tr hsh
    have hk11 := hs_S9.lt hk7
    have hq12 := hs_S9.kd hq8
    exact b_92 L_9 hL_9 x1 x2 S9 H locs ls h hsh hG (lv_sub hl [0, 1, 2] rfl)
  have b_9 : ∀  (f9 : Nat) (x1 : Int32) (x2 : Int32) (S : GS) (H : Heap) (locs : List Loc) (ls : Array Slot), wX9_pour_9 Q k0 f9 x1 x2 S → gSh S S0 → gS D Y ad A s.heap S H locs → lv_has ls 4 [(0, .ref (ad k0)), (1, .int x1), (2, .int x2)] → W p l e (rmD 2) s m args below meth c H locs 0 0 (MQ below (gE D Y za ad S0 s.heap.size (fun r S9 => r = none ∧ Q S9)) args s 0 0 A) (F0 m 9 ls []) := by
    intro  f9
    induction f9 with
    | zero =>
      intro x1 x2 S H locs ls h
      exact False.elim (by unfold wX9_pour_9 at h; exact h)
    | succ f9 hL_9 =>
      intro x1 x2 S H locs ls h hsh hG hl
      unfold wX9_pour_9 at h
      refine lv_iload_n hx hb dX9_pour_9 rfl (lv_at hl 2 rfl) ?_
      refine lv_aload_n hx hb dX9_pour_10 rfl (lv_at hl 0 rfl) ?_
      obtain ⟨hk13, hq14, h⟩ := h
      refine g_get (ci := 9) (C := RX9) (T := TX9) (N := 36) hx hb hts hin9 hown hK hG hk13 (cell_9 hq14) rfl 3 (by decide) lk_87 (fun _ h9 => h9) (v := .int (gX S k0 3)) rfl dX9_pour_11 ?_
      refine lv_icmp_ge (tgt := 101) hx hb dX9_pour_14 (by decide) (fun c_14 => ?_) (fun c_14 => ?_)
      · have h := h.1 c_14
        exact W.vret hx hb hr (fun t ht hW => r_end (r := none) hAe hG hsh ⟨rfl, h⟩ rfl ht) hG.2.2.2.2 dX9_pour_101
      · have h := h.2 c_14
        refine lv_aload_n hx hb dX9_pour_17 rfl (lv_at hl 0 rfl) ?_
        refine g_get (ci := 9) (C := RX9) (T := TX9) (N := 36) hx hb hts hin9 hown hK hG hk13 (cell_9 hq14) rfl 2 (by decide) lk_13 (fun _ h9 => h9) (v := rv ad (gR S k0 2)) rfl dX9_pour_18 ?_
        refine lv_iload_n hx hb dX9_pour_21 rfl (lv_at hl 2 rfl) ?_
        obtain ⟨q15, e16, h⟩ := h
        refine W.eq (g2 := F0 m 22 ls [.int x2, .ref (ad q15)]) (by rw [e16]; rfl) ?_
        obtain ⟨hk17, hq18, h⟩ := h
        obtain ⟨hi19, h⟩ := h
        refine r_iald hx hb hK hG hk17 hq18 hi19 dX9_pour_22 ?_
        refine lv_istore_n (lv' := [(3, .int (gX S q15 (Int32.toNatClampNeg x2))), (0, .ref (ad k0)), (1, .int x1), (2, .int x2)]) hx hb dX9_pour_23 rfl hl (by decide) rfl (fun ls hl => ?_)
        refine lv_iload_n hx hb dX9_pour_24 rfl (lv_at hl 0 rfl) ?_
        refine lv_sipush (v := 200) hx hb dX9_pour_25 (by decide) ?_
        refine lv_icmp_ge (tgt := 39) hx hb dX9_pour_28 (by decide) (fun c_28 => ?_) (fun c_28 => ?_)
        · have h := h.1 c_28
          refine lv_iload_n hx hb dX9_pour_39 rfl (lv_at hl 0 rfl) ?_
          refine lv_sipush (v := 400) hx hb dX9_pour_40 (by decide) ?_
          refine lv_icmp_ne (tgt := 70) hx hb dX9_pour_43 (by decide) (fun c_43 => ?_) (fun c_43 => ?_)
          · have h := h.1 c_43
            refine lv_aload_n hx hb dX9_pour_70 rfl (lv_at hl 1 rfl) ?_
            refine lv_aload_n hx hb dX9_pour_71 rfl (lv_at hl 1 rfl) ?_
            refine g_get (ci := 9) (C := RX9) (T := TX9) (N := 36) hx hb hts hin9 hown hK hG hk13 (cell_9 hq14) rfl 6 (by decide) lk_19 (fun _ h9 => h9) (v := rv ad (gR S k0 6)) rfl dX9_pour_72 ?_
            refine lv_iload_n hx hb dX9_pour_75 rfl (lv_at hl 2 rfl) ?_
            obtain ⟨q20, e21, h⟩ := h
            refine W.eq (g2 := F0 m 76 ls [.int x1, .ref (ad q20), .ref (ad k0)]) (by rw [e21]; rfl) ?_
            obtain ⟨hk22, hq23, h⟩ := h
            obtain ⟨hi24, h⟩ := h
            refine r_iald hx hb hK hG hk22 hq23 hi24 dX9_pour_76 ?_
            refine lv_iload_n hx hb dX9_pour_77 rfl (lv_at hl 0 rfl) ?_
            refine lv_sipush (v := 300) hx hb dX9_pour_78 (by decide) ?_
            refine lv_icmp_ne (tgt := 88) hx hb dX9_pour_81 (by decide) (fun c_81 => ?_) (fun c_81 => ?_)
            · have h := h.1 c_81
              refine lv_iconst (v := 1) hx hb dX9_pour_88 (by decide) ?_
              exact b_89 (wX9_pour_9 Q k0 f9) hL_9 x1 x2 k0 (gX S q20 (Int32.toNatClampNeg x1)) 1 S H locs ls h hsh hG (lv_sub hl [1, 2, 3] rfl)
            · have h := h.2 c_81
              refine lv_iconst (v := 3) hx hb dX9_pour_84 (by decide) ?_
              refine lv_goto (tgt := 89) hx hb dX9_pour_85 (by decide) ?_
              exact b_89 (wX9_pour_9 Q k0 f9) hL_9 x1 x2 k0 (gX S q20 (Int32.toNatClampNeg x1)) 3 S H locs ls h hsh hG (lv_sub hl [1, 2, 3] rfl)
          · have h := h.2 c_43
            refine lv_aload_n hx hb dX9_pour_46 rfl (lv_at hl 1 rfl) ?_
            refine lv_aload_n hx hb dX9_pour_47 rfl (lv_at hl 1 rfl) ?_
            refine g_get (ci := 9) (C := RX9) (T := TX9) (N := 36) hx hb hts hin9 hown hK hG hk13 (cell_9 hq14) rfl 6 (by decide) lk_19 (fun _ h9 => h9) (v := rv ad (gR S k0 6)) rfl dX9_pour_48 ?_
            refine lv_iload_n hx hb dX9_pour_51 rfl (lv_at hl 2 rfl) ?_
            obtain ⟨q25, e26, h⟩ := h
            refine W.eq (g2 := F0 m 52 ls [.int x1, .ref (ad q25), .ref (ad k0)]) (by rw [e26]; rfl) ?_
            obtain ⟨hk27, hq28, h⟩ := h
            obtain ⟨hi29, h⟩ := h
            refine r_iald hx hb hK hG hk27 hq28 hi29 dX9_pour_52 ?_
            refine lv_iconst (v := 1) hx hb dX9_pour_53 (by decide) ?_
            refine lv_icmp_ne (tgt := 62) hx hb dX9_pour_54 (by decide) (fun c_54 => ?_) (fun c_54 => ?_)
            · have h := h.1 c_54
              refine lv_bipush (v := 75) hx hb dX9_pour_62 (by decide) ?_
              exact b_64 (wX9_pour_9 Q k0 f9) hL_9 x1 x2 k0 75 S H locs ls h hsh hG (lv_sub hl [1, 2, 3] rfl)
            · have h := h.2 c_54
              refine lv_bipush (v := 77) hx hb dX9_pour_57 (by decide) ?_
              refine lv_goto (tgt := 64) hx hb dX9_pour_59 (by decide) ?_
              exact b_64 (wX9_pour_9 Q k0 f9) hL_9 x1 x2 k0 77 S H locs ls h hsh hG (lv_sub hl [1, 2, 3] rfl)
        · have h := h.2 c_28
          refine lv_aload_n hx hb dX9_pour_31 rfl (lv_at hl 1 rfl) ?_
          refine lv_iload_n hx hb dX9_pour_32 rfl (lv_at hl 0 rfl) ?_
          refine r_callV (za := za) (k := k0) (ci := 9) (C := RX9) (T := TX9) (N := 36) (As := [vI (gX S q15 (Int32.toNatClampNeg x2))]) (rest := []) (tX9_put l S k0 (gX S q15 (Int32.toNatClampNeg x2)) _ h) ⟨hx, hb, hml, hown, hts⟩ (cwV 1 hts gX9_pour_X9_put rfl rfl rfl (by decide +kernel) ⟨by decide, by decide⟩) hK hG hA hk13 (cell_9 hq14) rfl rfl hl.1 rfl (Nat.le_of_ble_eq_true rfl) ⟨Nat.le_refl _, Nat.le_refl _⟩ dX9_pour_33 (fun r_9 S30 H locs hp hs_S30 hG => ?_)
          obtain ⟨rfl, h⟩ := hp
          have h := h hs_S30
          refine W.eq (g2 := F0 m 36 ls []) rfl ?_
          have hsh := hs_S30.tr hsh
          have hk32 := hs_S30.lt hk13
          have hq33 := hs_S30.kd hq14
          have hk34 := hs_S30.lt hk17
          have hq35 := hs_S30.kd hq18
          refine lv_goto (tgt := 95) hx hb dX9_pour_36 (by decide) ?_
          exact b_95 (wX9_pour_9 Q k0 f9) hL_9 x1 x2 S30 H locs ls h hsh hG (lv_sub hl [1, 2, 3] rfl)
  have hl : lv_has ls 4 [(0, .ref (ad k0))] := hl
  have hsh : gSh S S0 := by rw [hS0]; exact gSh.rf S
  obtain ⟨H, eH⟩ : ∃ z : Heap, z = s.heap := ⟨_, rfl⟩
  obtain ⟨locs, eL⟩ : ∃ z : List Loc, z = [] := ⟨_, rfl⟩
  have hG : gS D Y ad A s.heap S H locs := by rw [eH, eL]; exact hG
  suffices hgoal : W p l e (rmD 2) s m args below meth c H locs 0 0 (MQ below (gE D Y za ad S0 s.heap.size (fun r S9 => r = none ∧ Q S9)) args s 0 0 A) (F0 m 0 ls []) by rw [eH, eL] at hgoal; exact hgoal
  unfold wX9_pour at h
  refine lv_aload_n hx hb dX9_pour_0 rfl (lv_at hl 0 rfl) ?_
  refine lv_iconst (v := 0) hx hb dX9_pour_1 (by decide) ?_
  obtain ⟨hk36, hq37, h⟩ := h
  refine r_put (ci := 9) (C := RX9) (T := TX9) (N := 36) hx hb hts hin9 tyX9 tyX9_ok nmX9 hown hK hG hk36 (cell_9 hq37) rfl 5 (by decide) lk_229 (fun _ h9 => h9) rfl rfl rfl (Nat.le_of_ble_eq_true rfl) (S' := sX S k0 5 0) rfl (pu_9_5 hq37 0) dX9_pour_2 (fun H locs hG => ?_)
  obtain ⟨S38, eS_S38⟩ : ∃ z : GS, z = sX S k0 5 0 := ⟨_, rfl⟩
  have h := h S38 eS_S38
  rw [← eS_S38] at hG
  have hs_S38 : gSh S38 S := by rw [eS_S38]; exact gSh.x _ _ _ _
  have hsh := hs_S38.tr hsh
  have hk39 := hs_S38.lt hk36
  have hq40 := hs_S38.kd hq37
  refine lv_iconst (v := 0) hx hb dX9_pour_5 (by decide) ?_
  refine lv_istore_n (lv' := [(1, .int 0), (0, .ref (ad k0))]) hx hb dX9_pour_6 rfl hl (by decide) rfl (fun ls hl => ?_)
  refine lv_iconst (v := 0) hx hb dX9_pour_7 (by decide) ?_
  refine lv_istore_n (lv' := [(2, .int 0), (1, .int 0), (0, .ref (ad k0))]) hx hb dX9_pour_8 rfl hl (by decide) rfl (fun ls hl => ?_)
  obtain ⟨f41, h⟩ := h
  exact b_9 f41 0 0 S38 H locs ls h hsh hG (lv_sub hl [2, 1, 0] rfl)
def wX9_pourNumbers_67 (Q : GS → Prop) (k0 : Nat)  (S : GS) : Prop :=
  k0 < gN S ∧ gK S k0 = 9 ∧ wX9_pour S k0  (fun S3 => gSh S3 S → Q S3)
def wX9_pourNumbers_61 (Q : GS → Prop) (k0 : Nat) (x7 : Int32) (S : GS) : Prop :=
  k0 < gN S ∧ gK S k0 = 9 ∧ wX9_giveParts S k0 x7 (fun S9 => gSh S9 S → wX9_pourNumbers_67 Q k0  S9)
def wX9_pourNumbers_51 (Q : GS → Prop) (k0 : Nat) (x1 : Int32) (x7 : Int32) (S : GS) : Prop :=
  (x1 = 1 → wX9_pourNumbers_61 Q k0 x7 S) ∧ (¬ x1 = 1 → (¬ x1 = 5 → wX9_pourNumbers_67 Q k0  S) ∧ (x1 = 5 → wX9_pourNumbers_61 Q k0 x7 S))
def wX9_pourNumbers_39 (Q : GS → Prop) (k0 : Nat) (x1 : Int32) (x6 : Int32) (x7 : Int32) (x8 : Int32) (S : GS) : Prop :=
  (¬ x8 = 3 → wX9_pourNumbers_51 Q k0 x1 x7 S) ∧ (x8 = 3 → k0 < gN S ∧ gK S k0 = 9 ∧ wX9_giveSize S k0 x6 (fun S15 => gSh S15 S → wX9_pourNumbers_51 Q k0 x1 x7 S15))
def wX9_pourNumbers (S : GS) (k0 : Nat) (x1 : Int32) (x2 : Int32) (x3 : Int32) (x4 : Int32) (x5 : Int32) (x6 : Int32) (x7 : Int32) (Q : GS → Prop) : Prop :=
  k0 < gN S ∧ gK S k0 = 9 ∧ ∀ S21 : GS, S21 = sX S k0 7 0 → wX9_giveParts S21 k0 x3 (fun S24 => gSh S24 S21 → wX9_give S24 k0 x2 (fun S28 => gSh S28 S24 → wX9_sizesOf S28 x1 (fun u33 S32 => gSh S32 S28 → (u33 < 2 → wX9_pourNumbers_39 Q k0 x1 x6 x7 u33 S32) ∧ (¬ u33 < 2 → wX9_giveSize S32 k0 x4 (fun S36 => gSh S36 S32 → wX9_giveSize S36 k0 x5 (fun S40 => gSh S40 S36 → wX9_pourNumbers_39 Q k0 x1 x6 x7 u33 S40))))))
set_option maxHeartbeats 4000000 in
set_option maxRecDepth 100000 in
theorem tX9_pourNumbers (l : Launch) (S : GS) (k0 : Nat) (x1 : Int32) (x2 : Int32) (x3 : Int32) (x4 : Int32) (x5 : Int32) (x6 : Int32) (x7 : Int32) (Q : GS → Prop) (h : wX9_pourNumbers S k0 x1 x2 x3 x4 x5 x6 x7 Q) : CS l yX9_pourNumbers wsX9_pourNumbers 3 S [vR (some k0), vI x1, vI x2, vI x3, vI x4, vI x5, vI x6, vI x7] (fun r S9 => r = none ∧ Q S9) := by
  refine CS.ofW (cc := cX9_pourNumbers) (maxL := 9) (ret := none) RX9 (by decide) rfl rfl (fun _ _ => Nat.le_of_ble_eq_true rfl) ?_
  intro p e s m args below meth c D Y za ad A ls hAe hx hb hr hml hts hown hlocks hK hA hG hl
  obtain ⟨S0, hS0⟩ : ∃ z : GS, z = S := ⟨_, rfl⟩
  rw [← hS0] at hAe
  rw [← hS0]
  have hin9 : ∀ w ∈ wsX90, w ∈ wsX9_pourNumbers := by decide +kernel
  have lk_146 := hts (.fieldLink RX9 146 "PauseLogModel" "numbers" "I") (by decide +kernel)
  have b_67 : ∀   (S : GS) (H : Heap) (locs : List Loc) (ls : Array Slot), wX9_pourNumbers_67 Q k0  S → gSh S S0 → gS D Y ad A s.heap S H locs → lv_has ls 9 [(0, .ref (ad k0))] → W p l e (rmD 3) s m args below meth c H locs 0 0 (MQ below (gE D Y za ad S0 s.heap.size (fun r S9 => r = none ∧ Q S9)) args s 0 0 A) (F0 m 67 ls []) := by
    intro   S H locs ls h hsh hG hl
    unfold wX9_pourNumbers_67 at h
    refine lv_aload_n hx hb dX9_pourNumbers_67 rfl (lv_at hl 0 rfl) ?_
    obtain ⟨hk1, hq2, h⟩ := h
    refine r_callV (za := za) (k := k0) (ci := 9) (C := RX9) (T := TX9) (N := 36) (As := []) (rest := []) (tX9_pour l S k0  _ h) ⟨hx, hb, hml, hown, hts⟩ (cwV 0 hts gX9_pourNumbers_X9_pour rfl rfl rfl (by decide +kernel) ⟨by decide, by decide⟩) hK hG hA hk1 (cell_9 hq2) rfl rfl hl.1 rfl (Nat.le_of_ble_eq_true rfl) ⟨Nat.le_refl _, Nat.le_refl _⟩ dX9_pourNumbers_68 (fun r_9 S3 H locs hp hs_S3 hG => ?_)
    obtain ⟨rfl, h⟩ := hp
    have h := h hs_S3
    refine W.eq (g2 := F0 m 71 ls []) rfl ?_
    have hsh := hs_S3.tr hsh
    have hk5 := hs_S3.lt hk1
    have hq6 := hs_S3.kd hq2
    exact W.vret hx hb hr (fun t ht hW => r_end (r := none) hAe hG hsh ⟨rfl, h⟩ rfl ht) hG.2.2.2.2 dX9_pourNumbers_71
  have b_61 : ∀  (x7 : Int32) (S : GS) (H : Heap) (locs : List Loc) (ls : Array Slot), wX9_pourNumbers_61 Q k0 x7 S → gSh S S0 → gS D Y ad A s.heap S H locs → lv_has ls 9 [(0, .ref (ad k0)), (7, .int x7)] → W p l e (rmD 3) s m args below meth c H locs 0 0 (MQ below (gE D Y za ad S0 s.heap.size (fun r S9 => r = none ∧ Q S9)) args s 0 0 A) (F0 m 61 ls []) := by
    intro  x7 S H locs ls h hsh hG hl
    unfold wX9_pourNumbers_61 at h
    refine lv_aload_n hx hb dX9_pourNumbers_61 rfl (lv_at hl 0 rfl) ?_
    refine lv_iload hx hb dX9_pourNumbers_62 (lv_at hl 1 rfl) ?_
    obtain ⟨hk7, hq8, h⟩ := h
    refine r_callV (za := za) (k := k0) (ci := 9) (C := RX9) (T := TX9) (N := 36) (As := [vI x7]) (rest := []) (tX9_giveParts l S k0 x7 _ h) ⟨hx, hb, hml, hown, hts⟩ (cwV 1 hts gX9_pourNumbers_X9_giveParts rfl rfl rfl (by decide +kernel) ⟨by decide, by decide⟩) hK hG hA hk7 (cell_9 hq8) rfl rfl hl.1 rfl (Nat.le_of_ble_eq_true rfl) ⟨Nat.le_refl _, Nat.le_refl _⟩ dX9_pourNumbers_64 (fun r_9 S9 H locs hp hs_S9 hG => ?_)
    obtain ⟨rfl, h⟩ := hp
    have h := h hs_S9
    refine W.eq (g2 := F0 m 67 ls []) rfl ?_
    have hsh := hs_S9.tr hsh
    have hk11 := hs_S9.lt hk7
    have hq12 := hs_S9.kd hq8
    exact b_67  S9 H locs ls h hsh hG (lv_sub hl [0] rfl)
  have b_51 : ∀  (x1 : Int32) (x7 : Int32) (S : GS) (H : Heap) (locs : List Loc) (ls : Array Slot), wX9_pourNumbers_51 Q k0 x1 x7 S → gSh S S0 → gS D Y ad A s.heap S H locs → lv_has ls 9 [(0, .ref (ad k0)), (1, .int x1), (7, .int x7)] → W p l e (rmD 3) s m args below meth c H locs 0 0 (MQ below (gE D Y za ad S0 s.heap.size (fun r S9 => r = none ∧ Q S9)) args s 0 0 A) (F0 m 51 ls []) := by
    intro  x1 x7 S H locs ls h hsh hG hl
    unfold wX9_pourNumbers_51 at h
    refine lv_iload_n hx hb dX9_pourNumbers_51 rfl (lv_at hl 1 rfl) ?_
    refine lv_iconst (v := 1) hx hb dX9_pourNumbers_52 (by decide) ?_
    refine lv_icmp_eq (tgt := 61) hx hb dX9_pourNumbers_53 (by decide) (fun c_53 => ?_) (fun c_53 => ?_)
    · have h := h.1 c_53
      exact b_61 x7 S H locs ls h hsh hG (lv_sub hl [0, 2] rfl)
    · have h := h.2 c_53
      refine lv_iload_n hx hb dX9_pourNumbers_56 rfl (lv_at hl 1 rfl) ?_
      refine lv_iconst (v := 5) hx hb dX9_pourNumbers_57 (by decide) ?_
      refine lv_icmp_ne (tgt := 67) hx hb dX9_pourNumbers_58 (by decide) (fun c_58 => ?_) (fun c_58 => ?_)
      · have h := h.1 c_58
        exact b_67  S H locs ls h hsh hG (lv_sub hl [0] rfl)
      · have h := h.2 c_58
        exact b_61 x7 S H locs ls h hsh hG (lv_sub hl [0, 2] rfl)
  have b_39 : ∀  (x1 : Int32) (x6 : Int32) (x7 : Int32) (x8 : Int32) (S : GS) (H : Heap) (locs : List Loc) (ls : Array Slot), wX9_pourNumbers_39 Q k0 x1 x6 x7 x8 S → gSh S S0 → gS D Y ad A s.heap S H locs → lv_has ls 9 [(0, .ref (ad k0)), (1, .int x1), (6, .int x6), (7, .int x7), (8, .int x8)] → W p l e (rmD 3) s m args below meth c H locs 0 0 (MQ below (gE D Y za ad S0 s.heap.size (fun r S9 => r = none ∧ Q S9)) args s 0 0 A) (F0 m 39 ls []) := by
    intro  x1 x6 x7 x8 S H locs ls h hsh hG hl
    unfold wX9_pourNumbers_39 at h
    refine lv_iload hx hb dX9_pourNumbers_39 (lv_at hl 4 rfl) ?_
    refine lv_iconst (v := 3) hx hb dX9_pourNumbers_41 (by decide) ?_
    refine lv_icmp_ne (tgt := 51) hx hb dX9_pourNumbers_42 (by decide) (fun c_42 => ?_) (fun c_42 => ?_)
    · have h := h.1 c_42
      exact b_51 x1 x7 S H locs ls h hsh hG (lv_sub hl [0, 1, 3] rfl)
    · have h := h.2 c_42
      refine lv_aload_n hx hb dX9_pourNumbers_45 rfl (lv_at hl 0 rfl) ?_
      refine lv_iload hx hb dX9_pourNumbers_46 (lv_at hl 2 rfl) ?_
      obtain ⟨hk13, hq14, h⟩ := h
      refine r_callV (za := za) (k := k0) (ci := 9) (C := RX9) (T := TX9) (N := 36) (As := [vI x6]) (rest := []) (tX9_giveSize l S k0 x6 _ h) ⟨hx, hb, hml, hown, hts⟩ (cwV 1 hts gX9_pourNumbers_X9_giveSize rfl rfl rfl (by decide +kernel) ⟨by decide, by decide⟩) hK hG hA hk13 (cell_9 hq14) rfl rfl hl.1 rfl (Nat.le_of_ble_eq_true rfl) ⟨Nat.le_refl _, Nat.le_refl _⟩ dX9_pourNumbers_48 (fun r_9 S15 H locs hp hs_S15 hG => ?_)
      obtain ⟨rfl, h⟩ := hp
      have h := h hs_S15
      refine W.eq (g2 := F0 m 51 ls []) rfl ?_
      have hsh := hs_S15.tr hsh
      have hk17 := hs_S15.lt hk13
      have hq18 := hs_S15.kd hq14
      exact b_51 x1 x7 S15 H locs ls h hsh hG (lv_sub hl [0, 1, 3] rfl)
  have hl : lv_has ls 9 [(0, .ref (ad k0)), (1, .int x1), (2, .int x2), (3, .int x3), (4, .int x4), (5, .int x5), (6, .int x6), (7, .int x7)] := hl
  have hsh : gSh S S0 := by rw [hS0]; exact gSh.rf S
  obtain ⟨H, eH⟩ : ∃ z : Heap, z = s.heap := ⟨_, rfl⟩
  obtain ⟨locs, eL⟩ : ∃ z : List Loc, z = [] := ⟨_, rfl⟩
  have hG : gS D Y ad A s.heap S H locs := by rw [eH, eL]; exact hG
  suffices hgoal : W p l e (rmD 3) s m args below meth c H locs 0 0 (MQ below (gE D Y za ad S0 s.heap.size (fun r S9 => r = none ∧ Q S9)) args s 0 0 A) (F0 m 0 ls []) by rw [eH, eL] at hgoal; exact hgoal
  unfold wX9_pourNumbers at h
  refine lv_aload_n hx hb dX9_pourNumbers_0 rfl (lv_at hl 0 rfl) ?_
  refine lv_iconst (v := 0) hx hb dX9_pourNumbers_1 (by decide) ?_
  obtain ⟨hk19, hq20, h⟩ := h
  refine r_put (ci := 9) (C := RX9) (T := TX9) (N := 36) hx hb hts hin9 tyX9 tyX9_ok nmX9 hown hK hG hk19 (cell_9 hq20) rfl 7 (by decide) lk_146 (fun _ h9 => h9) rfl rfl rfl (Nat.le_of_ble_eq_true rfl) (S' := sX S k0 7 0) rfl (pu_9_7 hq20 0) dX9_pourNumbers_2 (fun H locs hG => ?_)
  obtain ⟨S21, eS_S21⟩ : ∃ z : GS, z = sX S k0 7 0 := ⟨_, rfl⟩
  have h := h S21 eS_S21
  rw [← eS_S21] at hG
  have hs_S21 : gSh S21 S := by rw [eS_S21]; exact gSh.x _ _ _ _
  have hsh := hs_S21.tr hsh
  have hk22 := hs_S21.lt hk19
  have hq23 := hs_S21.kd hq20
  refine lv_aload_n hx hb dX9_pourNumbers_5 rfl (lv_at hl 0 rfl) ?_
  refine lv_iload_n hx hb dX9_pourNumbers_6 rfl (lv_at hl 3 rfl) ?_
  refine r_callV (za := za) (k := k0) (ci := 9) (C := RX9) (T := TX9) (N := 36) (As := [vI x3]) (rest := []) (tX9_giveParts l S21 k0 x3 _ h) ⟨hx, hb, hml, hown, hts⟩ (cwV 1 hts gX9_pourNumbers_X9_giveParts rfl rfl rfl (by decide +kernel) ⟨by decide, by decide⟩) hK hG hA hk22 (cell_9 hq23) rfl rfl hl.1 rfl (Nat.le_of_ble_eq_true rfl) ⟨Nat.le_refl _, Nat.le_refl _⟩ dX9_pourNumbers_7 (fun r_9 S24 H locs hp hs_S24 hG => ?_)
  obtain ⟨rfl, h⟩ := hp
  have h := h hs_S24
  refine W.eq (g2 := F0 m 10 ls []) rfl ?_
  have hsh := hs_S24.tr hsh
  have hk26 := hs_S24.lt hk22
  have hq27 := hs_S24.kd hq23
  refine lv_aload_n hx hb dX9_pourNumbers_10 rfl (lv_at hl 0 rfl) ?_
  refine lv_iload_n hx hb dX9_pourNumbers_11 rfl (lv_at hl 2 rfl) ?_
  refine r_callV (za := za) (k := k0) (ci := 9) (C := RX9) (T := TX9) (N := 36) (As := [vI x2]) (rest := []) (tX9_give l S24 k0 x2 _ h) ⟨hx, hb, hml, hown, hts⟩ (cwV 1 hts gX9_pourNumbers_X9_give rfl rfl rfl (by decide +kernel) ⟨by decide, by decide⟩) hK hG hA hk26 (cell_9 hq27) rfl rfl hl.1 rfl (Nat.le_of_ble_eq_true rfl) ⟨Nat.le_refl _, Nat.le_refl _⟩ dX9_pourNumbers_12 (fun r_9 S28 H locs hp hs_S28 hG => ?_)
  obtain ⟨rfl, h⟩ := hp
  have h := h hs_S28
  refine W.eq (g2 := F0 m 15 ls []) rfl ?_
  have hsh := hs_S28.tr hsh
  have hk30 := hs_S28.lt hk26
  have hq31 := hs_S28.kd hq27
  refine lv_iload_n hx hb dX9_pourNumbers_15 rfl (lv_at hl 1 rfl) ?_
  refine r_callS (za := za) (As := [vI x1]) (rest := []) (tX9_sizesOf l S28 x1 _ h) ⟨hx, hb, hml, hown, hts⟩ (cwS 1 hts gX9_pourNumbers_X9_sizesOf rfl rfl rfl (by decide +kernel) ⟨by decide, by decide⟩) hK hG hA rfl hl.1 rfl (Nat.le_of_ble_eq_true rfl) ⟨Nat.le_refl _, Nat.le_refl _⟩ dX9_pourNumbers_16 (fun r_9 S32 H locs hp hs_S32 hG => ?_)
  obtain ⟨u33, rfl, h⟩ := hp
  have h := h hs_S32
  refine W.eq (g2 := F0 m 19 ls [.int u33]) rfl ?_
  have hsh := hs_S32.tr hsh
  have hk34 := hs_S32.lt hk30
  have hq35 := hs_S32.kd hq31
  refine lv_istore (lv' := [(8, .int u33), (0, .ref (ad k0)), (1, .int x1), (2, .int x2), (3, .int x3), (4, .int x4), (5, .int x5), (6, .int x6), (7, .int x7)]) hx hb dX9_pourNumbers_19 hl (by decide) rfl (fun ls hl => ?_)
  refine lv_iload hx hb dX9_pourNumbers_21 (lv_at hl 0 rfl) ?_
  refine lv_iconst (v := 2) hx hb dX9_pourNumbers_23 (by decide) ?_
  refine lv_icmp_lt (tgt := 39) hx hb dX9_pourNumbers_24 (by decide) (fun c_24 => ?_) (fun c_24 => ?_)
  · have h := h.1 c_24
    exact b_39 x1 x6 x7 u33 S32 H locs ls h hsh hG (lv_sub hl [1, 2, 7, 8, 0] rfl)
  · have h := h.2 c_24
    refine lv_aload_n hx hb dX9_pourNumbers_27 rfl (lv_at hl 1 rfl) ?_
    refine lv_iload hx hb dX9_pourNumbers_28 (lv_at hl 5 rfl) ?_
    refine r_callV (za := za) (k := k0) (ci := 9) (C := RX9) (T := TX9) (N := 36) (As := [vI x4]) (rest := []) (tX9_giveSize l S32 k0 x4 _ h) ⟨hx, hb, hml, hown, hts⟩ (cwV 1 hts gX9_pourNumbers_X9_giveSize rfl rfl rfl (by decide +kernel) ⟨by decide, by decide⟩) hK hG hA hk34 (cell_9 hq35) rfl rfl hl.1 rfl (Nat.le_of_ble_eq_true rfl) ⟨Nat.le_refl _, Nat.le_refl _⟩ dX9_pourNumbers_30 (fun r_9 S36 H locs hp hs_S36 hG => ?_)
    obtain ⟨rfl, h⟩ := hp
    have h := h hs_S36
    refine W.eq (g2 := F0 m 33 ls []) rfl ?_
    have hsh := hs_S36.tr hsh
    have hk38 := hs_S36.lt hk34
    have hq39 := hs_S36.kd hq35
    refine lv_aload_n hx hb dX9_pourNumbers_33 rfl (lv_at hl 1 rfl) ?_
    refine lv_iload hx hb dX9_pourNumbers_34 (lv_at hl 6 rfl) ?_
    refine r_callV (za := za) (k := k0) (ci := 9) (C := RX9) (T := TX9) (N := 36) (As := [vI x5]) (rest := []) (tX9_giveSize l S36 k0 x5 _ h) ⟨hx, hb, hml, hown, hts⟩ (cwV 1 hts gX9_pourNumbers_X9_giveSize rfl rfl rfl (by decide +kernel) ⟨by decide, by decide⟩) hK hG hA hk38 (cell_9 hq39) rfl rfl hl.1 rfl (Nat.le_of_ble_eq_true rfl) ⟨Nat.le_refl _, Nat.le_refl _⟩ dX9_pourNumbers_36 (fun r_9 S40 H locs hp hs_S40 hG => ?_)
    obtain ⟨rfl, h⟩ := hp
    have h := h hs_S40
    refine W.eq (g2 := F0 m 39 ls []) rfl ?_
    have hsh := hs_S40.tr hsh
    have hk42 := hs_S40.lt hk38
    have hq43 := hs_S40.kd hq39
    exact b_39 x1 x6 x7 u33 S40 H locs ls h hsh hG (lv_sub hl [1, 2, 7, 8, 0] rfl)
def wX9_tells_14 (Q : Int32 → GS → Prop) (t0 : Int32) (S : GS) : Prop :=
  (t0 = 0 ∨ t0 = 1) ∧ Q t0 S
def wX9_tells_13 (Q : Int32 → GS → Prop)  (S : GS) : Prop :=
  wX9_tells_14 Q  0 S
def wX9_tells (S : GS) (x0 : Int32) (x1 : Int32) (Q : Int32 → GS → Prop) : Prop :=
  (x0 < 0 → wX9_tells_13 Q   S) ∧ (¬ x0 < 0 → (x1 < x0 → wX9_tells_13 Q   S) ∧ (¬ x1 < x0 → wX9_tells_14 Q  1 S))
set_option maxHeartbeats 4000000 in
set_option maxRecDepth 100000 in
theorem tX9_tells (l : Launch) (S : GS) (x0 : Int32) (x1 : Int32) (Q : Int32 → GS → Prop) (h : wX9_tells S x0 x1 Q) : CS l yX9_tells wsX9_tells 0 S [vI x0, vI x1] (fun r S9 => ∃ x, r = some (vI x) ∧ Q x S9) := by
  refine CS.ofW (cc := cX9_tells) (maxL := 2) (ret := (some .boolean)) RX9 (by decide) rfl rfl (fun _ _ => Nat.le_of_ble_eq_true rfl) ?_
  intro p e s m args below meth c D Y za ad A ls hAe hx hb hr hml hts hown hlocks hK hA hG hl
  obtain ⟨S0, hS0⟩ : ∃ z : GS, z = S := ⟨_, rfl⟩
  rw [← hS0] at hAe
  rw [← hS0]
  have b_14 : ∀  (t0 : Int32) (S : GS) (H : Heap) (locs : List Loc) (ls : Array Slot), wX9_tells_14 Q  t0 S → gSh S S0 → gS D Y ad A s.heap S H locs → lv_has ls 2 [] → W p l e (rmD 0) s m args below meth c H locs 0 0 (MQ below (gE D Y za ad S0 s.heap.size (fun r S9 => ∃ x, r = some (vI x) ∧ Q x S9)) args s 0 0 A) (F0 m 14 ls [.int t0]) := by
    intro  t0 S H locs ls h hsh hG hl
    unfold wX9_tells_14 at h
    obtain ⟨hz1, h⟩ := h
    exact W.zret (v := t0) hx hb hr (nar01 hz1) (fun t ht hW => r_end (r := some (vI t0)) hAe hG hsh ⟨_, rfl, h⟩ rfl ht) hG.2.2.2.2 dX9_tells_14
  have b_13 : ∀   (S : GS) (H : Heap) (locs : List Loc) (ls : Array Slot), wX9_tells_13 Q   S → gSh S S0 → gS D Y ad A s.heap S H locs → lv_has ls 2 [] → W p l e (rmD 0) s m args below meth c H locs 0 0 (MQ below (gE D Y za ad S0 s.heap.size (fun r S9 => ∃ x, r = some (vI x) ∧ Q x S9)) args s 0 0 A) (F0 m 13 ls []) := by
    intro   S H locs ls h hsh hG hl
    unfold wX9_tells_13 at h
    refine lv_iconst (v := 0) hx hb dX9_tells_13 (by decide) ?_
    exact b_14 0 S H locs ls h hsh hG (lv_sub hl [] rfl)
  have hl : lv_has ls 2 [(0, .int x0), (1, .int x1)] := hl
  have hsh : gSh S S0 := by rw [hS0]; exact gSh.rf S
  obtain ⟨H, eH⟩ : ∃ z : Heap, z = s.heap := ⟨_, rfl⟩
  obtain ⟨locs, eL⟩ : ∃ z : List Loc, z = [] := ⟨_, rfl⟩
  have hG : gS D Y ad A s.heap S H locs := by rw [eH, eL]; exact hG
  suffices hgoal : W p l e (rmD 0) s m args below meth c H locs 0 0 (MQ below (gE D Y za ad S0 s.heap.size (fun r S9 => ∃ x, r = some (vI x) ∧ Q x S9)) args s 0 0 A) (F0 m 0 ls []) by rw [eH, eL] at hgoal; exact hgoal
  unfold wX9_tells at h
  refine lv_iload_n hx hb dX9_tells_0 rfl (lv_at hl 0 rfl) ?_
  refine lv_if_lt (tgt := 13) hx hb dX9_tells_1 (by decide) (fun c_1 => ?_) (fun c_1 => ?_)
  · have h := h.1 c_1
    exact b_13  S H locs ls h hsh hG (lv_sub hl [] rfl)
  · have h := h.2 c_1
    refine lv_iload_n hx hb dX9_tells_4 rfl (lv_at hl 0 rfl) ?_
    refine lv_iload_n hx hb dX9_tells_5 rfl (lv_at hl 1 rfl) ?_
    refine lv_icmp_gt (tgt := 13) hx hb dX9_tells_6 (by decide) (fun c_6 => ?_) (fun c_6 => ?_)
    · have h := h.1 c_6
      exact b_13  S H locs ls h hsh hG (lv_sub hl [] rfl)
    · have h := h.2 c_6
      refine lv_iconst (v := 1) hx hb dX9_tells_9 (by decide) ?_
      refine lv_goto (tgt := 14) hx hb dX9_tells_10 (by decide) ?_
      exact b_14 1 S H locs ls h hsh hG (lv_sub hl [] rfl)
def wX9_sizeTells_35 (Q : Int32 → GS → Prop) (t0 : Int32) (S : GS) : Prop :=
  (t0 = 0 ∨ t0 = 1) ∧ Q t0 S
def wX9_sizeTells_30 (Q : Int32 → GS → Prop)  (S : GS) : Prop :=
  wX9_sizeTells_35 Q  1 S
def wX9_sizeTells_34 (Q : Int32 → GS → Prop)  (S : GS) : Prop :=
  wX9_sizeTells_35 Q  0 S
def wX9_sizeTells (S : GS) (x0 : Int32) (Q : Int32 → GS → Prop) : Prop :=
  (x0 < 0 → wX9_sizeTells_34 Q   S) ∧ (¬ x0 < 0 → (x0 ≤ 9999 → wX9_sizeTells_30 Q   S) ∧ (¬ x0 ≤ 9999 → (¬ (x0 - x0 / 1024 * 1024) = 0 → wX9_sizeTells_34 Q   S) ∧ ((x0 - x0 / 1024 * 1024) = 0 → ((9999 : Int32) < (x0 / 1024) → wX9_sizeTells_34 Q   S) ∧ (¬ (9999 : Int32) < (x0 / 1024) → wX9_sizeTells_30 Q   S))))
set_option maxHeartbeats 4000000 in
set_option maxRecDepth 100000 in
theorem tX9_sizeTells (l : Launch) (S : GS) (x0 : Int32) (Q : Int32 → GS → Prop) (h : wX9_sizeTells S x0 Q) : CS l yX9_sizeTells wsX9_sizeTells 0 S [vI x0] (fun r S9 => ∃ x, r = some (vI x) ∧ Q x S9) := by
  refine CS.ofW (cc := cX9_sizeTells) (maxL := 1) (ret := (some .boolean)) RX9 (by decide) rfl rfl (fun _ _ => Nat.le_of_ble_eq_true rfl) ?_
  intro p e s m args below meth c D Y za ad A ls hAe hx hb hr hml hts hown hlocks hK hA hG hl
  obtain ⟨S0, hS0⟩ : ∃ z : GS, z = S := ⟨_, rfl⟩
  rw [← hS0] at hAe
  rw [← hS0]
  have b_35 : ∀  (t0 : Int32) (S : GS) (H : Heap) (locs : List Loc) (ls : Array Slot), wX9_sizeTells_35 Q  t0 S → gSh S S0 → gS D Y ad A s.heap S H locs → lv_has ls 1 [] → W p l e (rmD 0) s m args below meth c H locs 0 0 (MQ below (gE D Y za ad S0 s.heap.size (fun r S9 => ∃ x, r = some (vI x) ∧ Q x S9)) args s 0 0 A) (F0 m 35 ls [.int t0]) := by
    intro  t0 S H locs ls h hsh hG hl
    unfold wX9_sizeTells_35 at h
    obtain ⟨hz1, h⟩ := h
    exact W.zret (v := t0) hx hb hr (nar01 hz1) (fun t ht hW => r_end (r := some (vI t0)) hAe hG hsh ⟨_, rfl, h⟩ rfl ht) hG.2.2.2.2 dX9_sizeTells_35
  have b_30 : ∀   (S : GS) (H : Heap) (locs : List Loc) (ls : Array Slot), wX9_sizeTells_30 Q   S → gSh S S0 → gS D Y ad A s.heap S H locs → lv_has ls 1 [] → W p l e (rmD 0) s m args below meth c H locs 0 0 (MQ below (gE D Y za ad S0 s.heap.size (fun r S9 => ∃ x, r = some (vI x) ∧ Q x S9)) args s 0 0 A) (F0 m 30 ls []) := by
    intro   S H locs ls h hsh hG hl
    unfold wX9_sizeTells_30 at h
    refine lv_iconst (v := 1) hx hb dX9_sizeTells_30 (by decide) ?_
    refine lv_goto (tgt := 35) hx hb dX9_sizeTells_31 (by decide) ?_
    exact b_35 1 S H locs ls h hsh hG (lv_sub hl [] rfl)
  have b_34 : ∀   (S : GS) (H : Heap) (locs : List Loc) (ls : Array Slot), wX9_sizeTells_34 Q   S → gSh S S0 → gS D Y ad A s.heap S H locs → lv_has ls 1 [] → W p l e (rmD 0) s m args below meth c H locs 0 0 (MQ below (gE D Y za ad S0 s.heap.size (fun r S9 => ∃ x, r = some (vI x) ∧ Q x S9)) args s 0 0 A) (F0 m 34 ls []) := by
    intro   S H locs ls h hsh hG hl
    unfold wX9_sizeTells_34 at h
    refine lv_iconst (v := 0) hx hb dX9_sizeTells_34 (by decide) ?_
    exact b_35 0 S H locs ls h hsh hG (lv_sub hl [] rfl)
  have hl : lv_has ls 1 [(0, .int x0)] := hl
  have hsh : gSh S S0 := by rw [hS0]; exact gSh.rf S
  obtain ⟨H, eH⟩ : ∃ z : Heap, z = s.heap := ⟨_, rfl⟩
  obtain ⟨locs, eL⟩ : ∃ z : List Loc, z = [] := ⟨_, rfl⟩
  have hG : gS D Y ad A s.heap S H locs := by rw [eH, eL]; exact hG
  suffices hgoal : W p l e (rmD 0) s m args below meth c H locs 0 0 (MQ below (gE D Y za ad S0 s.heap.size (fun r S9 => ∃ x, r = some (vI x) ∧ Q x S9)) args s 0 0 A) (F0 m 0 ls []) by rw [eH, eL] at hgoal; exact hgoal
  unfold wX9_sizeTells at h
  refine lv_iload_n hx hb dX9_sizeTells_0 rfl (lv_at hl 0 rfl) ?_
  refine lv_if_lt (tgt := 34) hx hb dX9_sizeTells_1 (by decide) (fun c_1 => ?_) (fun c_1 => ?_)
  · have h := h.1 c_1
    exact b_34  S H locs ls h hsh hG (lv_sub hl [] rfl)
  · have h := h.2 c_1
    refine lv_iload_n hx hb dX9_sizeTells_4 rfl (lv_at hl 0 rfl) ?_
    refine lv_sipush (v := 9999) hx hb dX9_sizeTells_5 (by decide) ?_
    refine lv_icmp_le (tgt := 30) hx hb dX9_sizeTells_8 (by decide) (fun c_8 => ?_) (fun c_8 => ?_)
    · have h := h.1 c_8
      exact b_30  S H locs ls h hsh hG (lv_sub hl [] rfl)
    · have h := h.2 c_8
      refine lv_iload_n hx hb dX9_sizeTells_11 rfl (lv_at hl 0 rfl) ?_
      refine lv_sipush (v := 1024) hx hb dX9_sizeTells_12 (by decide) ?_
      refine lv_irem hx hb dX9_sizeTells_15 (by decide) ?_
      refine lv_if_ne (tgt := 34) hx hb dX9_sizeTells_16 (by decide) (fun c_16 => ?_) (fun c_16 => ?_)
      · have h := h.1 c_16
        exact b_34  S H locs ls h hsh hG (lv_sub hl [] rfl)
      · have h := h.2 c_16
        refine lv_iload_n hx hb dX9_sizeTells_19 rfl (lv_at hl 0 rfl) ?_
        refine lv_sipush (v := 1024) hx hb dX9_sizeTells_20 (by decide) ?_
        refine lv_idiv hx hb dX9_sizeTells_23 (by decide) ?_
        refine lv_sipush (v := 9999) hx hb dX9_sizeTells_24 (by decide) ?_
        refine lv_icmp_gt (tgt := 34) hx hb dX9_sizeTells_27 (by decide) (fun c_27 => ?_) (fun c_27 => ?_)
        · have h := h.1 c_27
          exact b_34  S H locs ls h hsh hG (lv_sub hl [] rfl)
        · have h := h.2 c_27
          exact b_30  S H locs ls h hsh hG (lv_sub hl [] rfl)
def wX9_write_257 (Q : Int32 → GS → Prop) (k0 : Nat) : Nat → Int32 → GS → Prop
  | 0, _, _ => False
  | f9 + 1, x12, S =>
  k0 < gN S ∧ gK S k0 = 9 ∧ ((gX S k0 5) ≤ x12 → ∀ S3 : GS, S3 = sX S k0 1 (gX S k0 5) → Q (gX S3 k0 1) S3) ∧ (¬ (gX S k0 5) ≤ x12 → ∃ q6 : Nat, gR S k0 4 = some q6 ∧ q6 < gN S ∧ gK S q6 = 11 ∧ vp_in x12 (gL S q6) ∧ ∃ q11 : Nat, gR S k0 0 = some q11 ∧ q11 < gN S ∧ gK S q11 = 11 ∧ vp_in x12 (gL S q11) ∧ ∀ S16 : GS, S16 = sX S q11 (Int32.toNatClampNeg x12) (gX S q6 (Int32.toNatClampNeg x12)) → (wX9_write_257 Q k0 f9) (x12 + 1) S16)
def wX9_write_235 (Q : Int32 → GS → Prop) (k0 : Nat) (x2 : Int32) (x3 : Int32) (x4 : Int32) (x5 : Int32) (x6 : Int32) (x7 : Int32) (x8 : Int32) (t0 : Nat) (t1 : Int32) (t2 : Int32) (t3 : Int32) (S : GS) : Prop :=
  t0 < gN S ∧ gK S t0 = 9 ∧ wX9_makeMould S t0 t1 t2 t3 (fun S25 => gSh S25 S → k0 < gN S25 ∧ gK S25 k0 = 9 ∧ wX9_pourNumbers S25 k0 x8 x2 x3 x4 x5 x6 x7 (fun S31 => gSh S31 S25 → ∃ f37 : Nat, wX9_write_257 Q k0 f37 0 S31))
def wX9_write_222 (Q : Int32 → GS → Prop) (k0 : Nat) (x1 : Int32) (x2 : Int32) (x3 : Int32) (x4 : Int32) (x5 : Int32) (x6 : Int32) (x7 : Int32) (x8 : Int32) (x9 : Int32) (t0 : Nat) (t1 : Int32) (t2 : Int32) (S : GS) : Prop :=
  (x9 = 0 → wX9_write_235 Q k0 x2 x3 x4 x5 x6 x7 x8 t0 t1 t2 0 S) ∧ (¬ x9 = 0 → wX9_write_235 Q k0 x2 x3 x4 x5 x6 x7 x8 t0 t1 t2 (x1 / 100) S)
def wX9_write_193 (Q : Int32 → GS → Prop) (k0 : Nat) (x1 : Int32) (x2 : Int32) (x3 : Int32) (x4 : Int32) (x5 : Int32) (x6 : Int32) (x7 : Int32) (x8 : Int32) (x9 : Int32) (x11 : Int32) (t0 : Nat) (t1 : Int32) (S : GS) : Prop :=
  t0 < gN S ∧ gK S t0 = 9 ∧ ∀ S40 : GS, S40 = sX S t0 32 t1 → (¬ x11 = 0 → (x9 = 0 → wX9_write_222 Q k0 x1 x2 x3 x4 x5 x6 x7 x8 x9 k0 x8 0 S40) ∧ (¬ x9 = 0 → wX9_write_222 Q k0 x1 x2 x3 x4 x5 x6 x7 x8 x9 k0 x8 ((x1 / 10) - (x1 / 10) / 10 * 10) S40)) ∧ (x11 = 0 → Q 0 S40)
def wX9_write_182 (Q : Int32 → GS → Prop) (k0 : Nat) (x1 : Int32) (x2 : Int32) (x3 : Int32) (x4 : Int32) (x5 : Int32) (x6 : Int32) (x7 : Int32) (x8 : Int32) (x9 : Int32) (x11 : Int32) (S : GS) : Prop :=
  (x11 = 0 → wX9_write_193 Q k0 x1 x2 x3 x4 x5 x6 x7 x8 x9 x11 k0 1 S) ∧ (¬ x11 = 0 → wX9_write_193 Q k0 x1 x2 x3 x4 x5 x6 x7 x8 x9 x11 k0 0 S)
def wX9_write_169 (Q : Int32 → GS → Prop) (k0 : Nat) (x1 : Int32) (x2 : Int32) (x3 : Int32) (x4 : Int32) (x5 : Int32) (x6 : Int32) (x7 : Int32) (x8 : Int32) (x9 : Int32) (x11 : Int32) (S : GS) : Prop :=
  wX9_tells S x7 9999999 (fun u44 S43 => gSh S43 S → (¬ u44 = 0 → wX9_write_182 Q k0 x1 x2 x3 x4 x5 x6 x7 x8 x9 x11 S43) ∧ (u44 = 0 → wX9_write_182 Q k0 x1 x2 x3 x4 x5 x6 x7 x8 x9 0 S43))
def wX9_write_157 (Q : Int32 → GS → Prop) (k0 : Nat) (x1 : Int32) (x2 : Int32) (x3 : Int32) (x4 : Int32) (x5 : Int32) (x6 : Int32) (x7 : Int32) (x8 : Int32) (x9 : Int32) (x11 : Int32) (S : GS) : Prop :=
  (x8 = 1 → wX9_write_169 Q k0 x1 x2 x3 x4 x5 x6 x7 x8 x9 x11 S) ∧ (¬ x8 = 1 → (¬ x8 = 5 → wX9_write_182 Q k0 x1 x2 x3 x4 x5 x6 x7 x8 x9 x11 S) ∧ (x8 = 5 → wX9_write_169 Q k0 x1 x2 x3 x4 x5 x6 x7 x8 x9 x11 S))
def wX9_write_140 (Q : Int32 → GS → Prop) (k0 : Nat) (x1 : Int32) (x2 : Int32) (x3 : Int32) (x4 : Int32) (x5 : Int32) (x6 : Int32) (x7 : Int32) (x8 : Int32) (x9 : Int32) (x10 : Int32) (x11 : Int32) (S : GS) : Prop :=
  (¬ x10 = 3 → wX9_write_157 Q k0 x1 x2 x3 x4 x5 x6 x7 x8 x9 x11 S) ∧ (x10 = 3 → wX9_sizeTells S x6 (fun u46 S45 => gSh S45 S → (¬ u46 = 0 → wX9_write_157 Q k0 x1 x2 x3 x4 x5 x6 x7 x8 x9 x11 S45) ∧ (u46 = 0 → wX9_write_157 Q k0 x1 x2 x3 x4 x5 x6 x7 x8 x9 0 S45)))
def wX9_write_137 (Q : Int32 → GS → Prop) (k0 : Nat) (x1 : Int32) (x2 : Int32) (x3 : Int32) (x4 : Int32) (x5 : Int32) (x6 : Int32) (x7 : Int32) (x8 : Int32) (x9 : Int32) (x10 : Int32) (S : GS) : Prop :=
  wX9_write_140 Q k0 x1 x2 x3 x4 x5 x6 x7 x8 x9 x10 0 S
def wX9_write_113 (Q : Int32 → GS → Prop) (k0 : Nat) (x1 : Int32) (x2 : Int32) (x3 : Int32) (x4 : Int32) (x5 : Int32) (x6 : Int32) (x7 : Int32) (x8 : Int32) (x9 : Int32) (x10 : Int32) (t0 : Int32) (S : GS) : Prop :=
  (x10 < 2 → wX9_write_140 Q k0 x1 x2 x3 x4 x5 x6 x7 x8 x9 x10 t0 S) ∧ (¬ x10 < 2 → wX9_sizeTells S x4 (fun u48 S47 => gSh S47 S → (u48 = 0 → wX9_write_137 Q k0 x1 x2 x3 x4 x5 x6 x7 x8 x9 x10 S47) ∧ (¬ u48 = 0 → wX9_sizeTells S47 x5 (fun u50 S49 => gSh S49 S47 → (¬ u50 = 0 → wX9_write_140 Q k0 x1 x2 x3 x4 x5 x6 x7 x8 x9 x10 t0 S49) ∧ (u50 = 0 → wX9_write_137 Q k0 x1 x2 x3 x4 x5 x6 x7 x8 x9 x10 S49)))))
def wX9_write_112 (Q : Int32 → GS → Prop) (k0 : Nat) (x1 : Int32) (x2 : Int32) (x3 : Int32) (x4 : Int32) (x5 : Int32) (x6 : Int32) (x7 : Int32) (x8 : Int32) (x9 : Int32) (x10 : Int32) (S : GS) : Prop :=
  wX9_write_113 Q k0 x1 x2 x3 x4 x5 x6 x7 x8 x9 x10 0 S
def wX9_write_89 (Q : Int32 → GS → Prop) (k0 : Nat) (x1 : Int32) (x2 : Int32) (x3 : Int32) (x4 : Int32) (x5 : Int32) (x6 : Int32) (x7 : Int32) (x8 : Int32) (x9 : Int32) (x10 : Int32) (S : GS) : Prop :=
  wX9_tells S x2 999 (fun u52 S51 => gSh S51 S → (u52 = 0 → wX9_write_112 Q k0 x1 x2 x3 x4 x5 x6 x7 x8 x9 x10 S51) ∧ (¬ u52 = 0 → wX9_tells S51 x3 99999999 (fun u54 S53 => gSh S53 S51 → (u54 = 0 → wX9_write_112 Q k0 x1 x2 x3 x4 x5 x6 x7 x8 x9 x10 S53) ∧ (¬ u54 = 0 → wX9_write_113 Q k0 x1 x2 x3 x4 x5 x6 x7 x8 x9 x10 1 S53))))
def wX9_write_60 (Q : Int32 → GS → Prop) (k0 : Nat) (x1 : Int32) (x2 : Int32) (x3 : Int32) (x4 : Int32) (x5 : Int32) (x6 : Int32) (x7 : Int32) (x8 : Int32) (t0 : Int32) (S : GS) : Prop :=
  wX9_sizesOf S x8 (fun u56 S55 => gSh S55 S → (¬ t0 = 0 → wX9_write_89 Q k0 x1 x2 x3 x4 x5 x6 x7 x8 t0 u56 S55) ∧ (t0 = 0 → wX9_tells S55 x1 6 (fun u58 S57 => gSh S57 S55 → (u58 = 0 → wX9_write_112 Q k0 x1 x2 x3 x4 x5 x6 x7 x8 t0 u56 S57) ∧ (¬ u58 = 0 → (x8 < 2 → wX9_write_112 Q k0 x1 x2 x3 x4 x5 x6 x7 x8 t0 u56 S57) ∧ (¬ x8 < 2 → wX9_write_89 Q k0 x1 x2 x3 x4 x5 x6 x7 x8 t0 u56 S57)))))
def wX9_write_59 (Q : Int32 → GS → Prop) (k0 : Nat) (x1 : Int32) (x2 : Int32) (x3 : Int32) (x4 : Int32) (x5 : Int32) (x6 : Int32) (x7 : Int32) (x8 : Int32) (S : GS) : Prop :=
  wX9_write_60 Q k0 x1 x2 x3 x4 x5 x6 x7 x8 0 S
def wX9_write_26 (Q : Int32 → GS → Prop) (k0 : Nat) (x1 : Int32) (x2 : Int32) (x3 : Int32) (x4 : Int32) (x5 : Int32) (x6 : Int32) (x7 : Int32) (t0 : Int32) (S : GS) : Prop :=
  ((1 : Int32) < t0 → wX9_write_59 Q k0 x1 x2 x3 x4 x5 x6 x7 t0 S) ∧ (¬ (1 : Int32) < t0 → wX9_tells S x1 221 (fun u60 S59 => gSh S59 S → (u60 = 0 → wX9_write_59 Q k0 x1 x2 x3 x4 x5 x6 x7 t0 S59) ∧ (¬ u60 = 0 → ((2 : Int32) < ((x1 / 10) - (x1 / 10) / 10 * 10) → wX9_write_59 Q k0 x1 x2 x3 x4 x5 x6 x7 t0 S59) ∧ (¬ (2 : Int32) < ((x1 / 10) - (x1 / 10) / 10 * 10) → wX9_write_60 Q k0 x1 x2 x3 x4 x5 x6 x7 t0 1 S59))))
def wX9_write_25 (Q : Int32 → GS → Prop) (k0 : Nat) (x1 : Int32) (x2 : Int32) (x3 : Int32) (x4 : Int32) (x5 : Int32) (x6 : Int32) (x7 : Int32) (S : GS) : Prop :=
  wX9_write_26 Q k0 x1 x2 x3 x4 x5 x6 x7 x1 S
def wX9_write (S : GS) (k0 : Nat) (x1 : Int32) (x2 : Int32) (x3 : Int32) (x4 : Int32) (x5 : Int32) (x6 : Int32) (x7 : Int32) (Q : Int32 → GS → Prop) : Prop :=
  wX9_tells S x1 221 (fun u62 S61 => gSh S61 S → (u62 = 0 → wX9_write_25 Q k0 x1 x2 x3 x4 x5 x6 x7 S61) ∧ (¬ u62 = 0 → ((1 : Int32) < (x1 - x1 / 10 * 10) → wX9_write_25 Q k0 x1 x2 x3 x4 x5 x6 x7 S61) ∧ (¬ (1 : Int32) < (x1 - x1 / 10 * 10) → wX9_write_26 Q k0 x1 x2 x3 x4 x5 x6 x7 (x1 - x1 / 10 * 10) S61)))
set_option maxHeartbeats 4000000 in
set_option maxRecDepth 100000 in
theorem tX9_write (l : Launch) (S : GS) (k0 : Nat) (x1 : Int32) (x2 : Int32) (x3 : Int32) (x4 : Int32) (x5 : Int32) (x6 : Int32) (x7 : Int32) (Q : Int32 → GS → Prop) (h : wX9_write S k0 x1 x2 x3 x4 x5 x6 x7 Q) : CS l yX9_write wsX9_write 4 S [vR (some k0), vI x1, vI x2, vI x3, vI x4, vI x5, vI x6, vI x7] (fun r S9 => ∃ x, r = some (vI x) ∧ Q x S9) := by
  refine CS.ofW (cc := cX9_write) (maxL := 13) (ret := (some .int)) RX9 (by decide) rfl rfl (fun _ _ => Nat.le_of_ble_eq_true rfl) ?_
  intro p e s m args below meth c D Y za ad A ls hAe hx hb hr hml hts hown hlocks hK hA hG hl
  obtain ⟨S0, hS0⟩ : ∃ z : GS, z = S := ⟨_, rfl⟩
  rw [← hS0] at hAe
  rw [← hS0]
  have hin9 : ∀ w ∈ wsX90, w ∈ wsX9_write := by decide +kernel
  have lk_241 := hts (.constant RX9 241 (99999999)) (by decide +kernel)
  have lk_245 := hts (.constant RX9 245 (9999999)) (by decide +kernel)
  have lk_84 := hts (.fieldLink RX9 84 "PauseLogModel" "thrown" "I") (by decide +kernel)
  have lk_229 := hts (.fieldLink RX9 229 "PauseLogModel" "outLong" "I") (by decide +kernel)
  have lk_7 := hts (.fieldLink RX9 7 "PauseLogModel" "pad" "[I") (by decide +kernel)
  have lk_16 := hts (.fieldLink RX9 16 "PauseLogModel" "out" "[I") (by decide +kernel)
  have lk_143 := hts (.fieldLink RX9 143 "PauseLogModel" "padLong" "I") (by decide +kernel)
  have b_257 : ∀  (f9 : Nat) (x12 : Int32) (S : GS) (H : Heap) (locs : List Loc) (ls : Array Slot), wX9_write_257 Q k0 f9 x12 S → gSh S S0 → gS D Y ad A s.heap S H locs → lv_has ls 13 [(0, .ref (ad k0)), (12, .int x12)] → W p l e (rmD 4) s m args below meth c H locs 0 0 (MQ below (gE D Y za ad S0 s.heap.size (fun r S9 => ∃ x, r = some (vI x) ∧ Q x S9)) args s 0 0 A) (F0 m 257 ls []) := by
    intro  f9
    induction f9 with
    | zero =>
      intro x12 S H locs ls h
      exact False.elim (by unfold wX9_write_257 at h; exact h)
    | succ f9 hL_257 =>
      intro x12 S H locs ls h hsh hG hl
      unfold wX9_write_257 at h
      refine lv_iload hx hb dX9_write_257 (lv_at hl 1 rfl) ?_
      refine lv_aload_n hx hb dX9_write_259 rfl (lv_at hl 0 rfl) ?_
      obtain ⟨hk1, hq2, h⟩ := h
      refine g_get (ci := 9) (C := RX9) (T := TX9) (N := 36) hx hb hts hin9 hown hK hG hk1 (cell_9 hq2) rfl 5 (by decide) lk_229 (fun _ h9 => h9) (v := .int (gX S k0 5)) rfl dX9_write_260 ?_
      refine lv_icmp_ge (tgt := 286) hx hb dX9_write_263 (by decide) (fun c_263 => ?_) (fun c_263 => ?_)
      · have h := h.1 c_263
        refine lv_aload_n hx hb dX9_write_286 rfl (lv_at hl 0 rfl) ?_
        refine lv_aload_n hx hb dX9_write_287 rfl (lv_at hl 0 rfl) ?_
        refine g_get (ci := 9) (C := RX9) (T := TX9) (N := 36) hx hb hts hin9 hown hK hG hk1 (cell_9 hq2) rfl 5 (by decide) lk_229 (fun _ h9 => h9) (v := .int (gX S k0 5)) rfl dX9_write_288 ?_
        refine r_put (ci := 9) (C := RX9) (T := TX9) (N := 36) hx hb hts hin9 tyX9 tyX9_ok nmX9 hown hK hG hk1 (cell_9 hq2) rfl 1 (by decide) lk_143 (fun _ h9 => h9) rfl rfl rfl (Nat.le_of_ble_eq_true rfl) (S' := sX S k0 1 (gX S k0 5)) rfl (pu_9_1 hq2 (gX S k0 5)) dX9_write_291 (fun H locs hG => ?_)
        obtain ⟨S3, eS_S3⟩ : ∃ z : GS, z = sX S k0 1 (gX S k0 5) := ⟨_, rfl⟩
        have h := h S3 eS_S3
        rw [← eS_S3] at hG
        have hs_S3 : gSh S3 S := by rw [eS_S3]; exact gSh.x _ _ _ _
        have hsh := hs_S3.tr hsh
        have hk4 := hs_S3.lt hk1
        have hq5 := hs_S3.kd hq2
        refine lv_aload_n hx hb dX9_write_294 rfl (lv_at hl 0 rfl) ?_
        refine g_get (ci := 9) (C := RX9) (T := TX9) (N := 36) hx hb hts hin9 hown hK hG hk4 (cell_9 hq5) rfl 1 (by decide) lk_143 (fun _ h9 => h9) (v := .int (gX S3 k0 1)) rfl dX9_write_295 ?_
        exact W.iret (v := gX S3 k0 1) hx hb hr (fun t ht hW => r_end (r := some (vI (gX S3 k0 1))) hAe hG hsh ⟨_, rfl, h⟩ rfl ht) hG.2.2.2.2 dX9_write_298
      · have h := h.2 c_263
        refine lv_aload_n hx hb dX9_write_266 rfl (lv_at hl 0 rfl) ?_
        refine g_get (ci := 9) (C := RX9) (T := TX9) (N := 36) hx hb hts hin9 hown hK hG hk1 (cell_9 hq2) rfl 0 (by decide) lk_7 (fun _ h9 => h9) (v := rv ad (gR S k0 0)) rfl dX9_write_267 ?_
        refine lv_iload hx hb dX9_write_270 (lv_at hl 1 rfl) ?_
        refine lv_aload_n hx hb dX9_write_272 rfl (lv_at hl 0 rfl) ?_
        refine g_get (ci := 9) (C := RX9) (T := TX9) (N := 36) hx hb hts hin9 hown hK hG hk1 (cell_9 hq2) rfl 4 (by decide) lk_16 (fun _ h9 => h9) (v := rv ad (gR S k0 4)) rfl dX9_write_273 ?_
        refine lv_iload hx hb dX9_write_276 (lv_at hl 1 rfl) ?_
        obtain ⟨q6, e7, h⟩ := h
        refine W.eq (g2 := F0 m 278 ls [.int x12, .ref (ad q6), .int x12, rv ad (gR S k0 0)]) (by rw [e7]; rfl) ?_
        obtain ⟨hk8, hq9, h⟩ := h
        obtain ⟨hi10, h⟩ := h
        refine r_iald hx hb hK hG hk8 hq9 hi10 dX9_write_278 ?_
        obtain ⟨q11, e12, h⟩ := h
        refine W.eq (g2 := F0 m 279 ls [.int (gX S q6 (Int32.toNatClampNeg x12)), .int x12, .ref (ad q11)]) (by rw [e12]; rfl) ?_
        obtain ⟨hk13, hq14, h⟩ := h
        obtain ⟨hi15, h⟩ := h
        refine r_iast hx hb hK hG hk13 hq14 hi15 dX9_write_279 (fun H locs hG => ?_)
        obtain ⟨S16, eS_S16⟩ : ∃ z : GS, z = sX S q11 (Int32.toNatClampNeg x12) (gX S q6 (Int32.toNatClampNeg x12)) := ⟨_, rfl⟩
        have h := h S16 eS_S16
        rw [← eS_S16] at hG
        have hs_S16 : gSh S16 S := by rw [eS_S16]; exact gSh.x _ _ _ _
        have hsh := hs_S16.tr hsh
        have hk17 := hs_S16.lt hk1
        have hq18 := hs_S16.kd hq2
        have hk19 := hs_S16.lt hk8
        have hq20 := hs_S16.kd hq9
        have hk21 := hs_S16.lt hk13
        have hq22 := hs_S16.kd hq14
        refine lv_iinc (v := x12 + 1) (lv' := [(12, .int (x12 + 1)), (0, .ref (ad k0))]) hx hb dX9_write_280 hl (k := 1) rfl rfl (by decide) rfl (fun ls hl => ?_)
        refine lv_goto (tgt := 257) hx hb dX9_write_283 (by decide) ?_
        exact hL_257 (x12 + 1) S16 H locs ls h hsh hG (lv_sub hl [1, 0] rfl)
  have b_235 : ∀  (x2 : Int32) (x3 : Int32) (x4 : Int32) (x5 : Int32) (x6 : Int32) (x7 : Int32) (x8 : Int32) (t0 : Nat) (t1 : Int32) (t2 : Int32) (t3 : Int32) (S : GS) (H : Heap) (locs : List Loc) (ls : Array Slot), wX9_write_235 Q k0 x2 x3 x4 x5 x6 x7 x8 t0 t1 t2 t3 S → gSh S S0 → gS D Y ad A s.heap S H locs → lv_has ls 13 [(0, .ref (ad k0)), (2, .int x2), (3, .int x3), (4, .int x4), (5, .int x5), (6, .int x6), (7, .int x7), (8, .int x8)] → W p l e (rmD 4) s m args below meth c H locs 0 0 (MQ below (gE D Y za ad S0 s.heap.size (fun r S9 => ∃ x, r = some (vI x) ∧ Q x S9)) args s 0 0 A) (F0 m 235 ls [.int t3, .int t2, .int t1, .ref (ad t0)]) := by
    intro  x2 x3 x4 x5 x6 x7 x8 t0 t1 t2 t3 S H locs ls h hsh hG hl
    unfold wX9_write_235 at h
    obtain ⟨hk23, hq24, h⟩ := h
    refine r_callV (za := za) (k := t0) (ci := 9) (C := RX9) (T := TX9) (N := 36) (As := [vI t1, vI t2, vI t3]) (rest := []) (tX9_makeMould l S t0 t1 t2 t3 _ h) ⟨hx, hb, hml, hown, hts⟩ (cwV 3 hts gX9_write_X9_makeMould rfl rfl rfl (by decide +kernel) ⟨by decide, by decide⟩) hK hG hA hk23 (cell_9 hq24) rfl rfl hl.1 rfl (Nat.le_of_ble_eq_true rfl) ⟨Nat.le_refl _, Nat.le_refl _⟩ dX9_write_235 (fun r_9 S25 H locs hp hs_S25 hG => ?_)
    obtain ⟨rfl, h⟩ := hp
    have h := h hs_S25
    refine W.eq (g2 := F0 m 238 ls []) rfl ?_
    have hsh := hs_S25.tr hsh
    have hk27 := hs_S25.lt hk23
    have hq28 := hs_S25.kd hq24
    refine lv_aload_n hx hb dX9_write_238 rfl (lv_at hl 0 rfl) ?_
    refine lv_iload hx hb dX9_write_239 (lv_at hl 7 rfl) ?_
    refine lv_iload_n hx hb dX9_write_241 rfl (lv_at hl 1 rfl) ?_
    refine lv_iload_n hx hb dX9_write_242 rfl (lv_at hl 2 rfl) ?_
    refine lv_iload hx hb dX9_write_243 (lv_at hl 3 rfl) ?_
    refine lv_iload hx hb dX9_write_245 (lv_at hl 4 rfl) ?_
    refine lv_iload hx hb dX9_write_247 (lv_at hl 5 rfl) ?_
    refine lv_iload hx hb dX9_write_249 (lv_at hl 6 rfl) ?_
    obtain ⟨hk29, hq30, h⟩ := h
    refine r_callV (za := za) (k := k0) (ci := 9) (C := RX9) (T := TX9) (N := 36) (As := [vI x8, vI x2, vI x3, vI x4, vI x5, vI x6, vI x7]) (rest := []) (tX9_pourNumbers l S25 k0 x8 x2 x3 x4 x5 x6 x7 _ h) ⟨hx, hb, hml, hown, hts⟩ (cwV 7 hts gX9_write_X9_pourNumbers rfl rfl rfl (by decide +kernel) ⟨by decide, by decide⟩) hK hG hA hk29 (cell_9 hq30) rfl rfl hl.1 rfl (Nat.le_of_ble_eq_true rfl) ⟨Nat.le_refl _, Nat.le_refl _⟩ dX9_write_251 (fun r_9 S31 H locs hp hs_S31 hG => ?_)
    obtain ⟨rfl, h⟩ := hp
    have h := h hs_S31
    refine W.eq (g2 := F0 m 254 ls []) rfl ?_
    have hsh := hs_S31.tr hsh
    have hk33 := hs_S31.lt hk27
    have hq34 := hs_S31.kd hq28
    have hk35 := hs_S31.lt hk29
    have hq36 := hs_S31.kd hq30
    refine lv_iconst (v := 0) hx hb dX9_write_254 (by decide) ?_
    refine lv_istore (lv' := [(12, .int 0), (0, .ref (ad k0)), (2, .int x2), (3, .int x3), (4, .int x4), (5, .int x5), (6, .int x6), (7, .int x7), (8, .int x8)]) hx hb dX9_write_255 hl (by decide) rfl (fun ls hl => ?_)
    obtain ⟨f37, h⟩ := h
    exact b_257 f37 0 S31 H locs ls h hsh hG (lv_sub hl [1, 0] rfl)
  have b_222 : ∀  (x1 : Int32) (x2 : Int32) (x3 : Int32) (x4 : Int32) (x5 : Int32) (x6 : Int32) (x7 : Int32) (x8 : Int32) (x9 : Int32) (t0 : Nat) (t1 : Int32) (t2 : Int32) (S : GS) (H : Heap) (locs : List Loc) (ls : Array Slot), wX9_write_222 Q k0 x1 x2 x3 x4 x5 x6 x7 x8 x9 t0 t1 t2 S → gSh S S0 → gS D Y ad A s.heap S H locs → lv_has ls 13 [(0, .ref (ad k0)), (1, .int x1), (2, .int x2), (3, .int x3), (4, .int x4), (5, .int x5), (6, .int x6), (7, .int x7), (8, .int x8), (9, .int x9)] → W p l e (rmD 4) s m args below meth c H locs 0 0 (MQ below (gE D Y za ad S0 s.heap.size (fun r S9 => ∃ x, r = some (vI x) ∧ Q x S9)) args s 0 0 A) (F0 m 222 ls [.int t2, .int t1, .ref (ad t0)]) := by
    intro  x1 x2 x3 x4 x5 x6 x7 x8 x9 t0 t1 t2 S H locs ls h hsh hG hl
    unfold wX9_write_222 at h
    refine lv_iload hx hb dX9_write_222 (lv_at hl 9 rfl) ?_
    refine lv_if_eq (tgt := 234) hx hb dX9_write_224 (by decide) (fun c_224 => ?_) (fun c_224 => ?_)
    · have h := h.1 c_224
      refine lv_iconst (v := 0) hx hb dX9_write_234 (by decide) ?_
      exact b_235 x2 x3 x4 x5 x6 x7 x8 t0 t1 t2 0 S H locs ls h hsh hG (lv_sub hl [0, 2, 3, 4, 5, 6, 7, 8] rfl)
    · have h := h.2 c_224
      refine lv_iload_n hx hb dX9_write_227 rfl (lv_at hl 1 rfl) ?_
      refine lv_bipush (v := 100) hx hb dX9_write_228 (by decide) ?_
      refine lv_idiv hx hb dX9_write_230 (by decide) ?_
      refine lv_goto (tgt := 235) hx hb dX9_write_231 (by decide) ?_
      exact b_235 x2 x3 x4 x5 x6 x7 x8 t0 t1 t2 (x1 / 100) S H locs ls h hsh hG (lv_sub hl [0, 2, 3, 4, 5, 6, 7, 8] rfl)
  have b_193 : ∀  (x1 : Int32) (x2 : Int32) (x3 : Int32) (x4 : Int32) (x5 : Int32) (x6 : Int32) (x7 : Int32) (x8 : Int32) (x9 : Int32) (x11 : Int32) (t0 : Nat) (t1 : Int32) (S : GS) (H : Heap) (locs : List Loc) (ls : Array Slot), wX9_write_193 Q k0 x1 x2 x3 x4 x5 x6 x7 x8 x9 x11 t0 t1 S → gSh S S0 → gS D Y ad A s.heap S H locs → lv_has ls 13 [(0, .ref (ad k0)), (1, .int x1), (2, .int x2), (3, .int x3), (4, .int x4), (5, .int x5), (6, .int x6), (7, .int x7), (8, .int x8), (9, .int x9), (11, .int x11)] → W p l e (rmD 4) s m args below meth c H locs 0 0 (MQ below (gE D Y za ad S0 s.heap.size (fun r S9 => ∃ x, r = some (vI x) ∧ Q x S9)) args s 0 0 A) (F0 m 193 ls [.int t1, .ref (ad t0)]) := by
    intro  x1 x2 x3 x4 x5 x6 x7 x8 x9 x11 t0 t1 S H locs ls h hsh hG hl
    unfold wX9_write_193 at h
    obtain ⟨hk38, hq39, h⟩ := h
    refine r_put (ci := 9) (C := RX9) (T := TX9) (N := 36) hx hb hts hin9 tyX9 tyX9_ok nmX9 hown hK hG hk38 (cell_9 hq39) rfl 32 (by decide) lk_84 (fun _ h9 => h9) rfl rfl rfl (Nat.le_of_ble_eq_true rfl) (S' := sX S t0 32 t1) rfl (pu_9_32 hq39 t1) dX9_write_193 (fun H locs hG => ?_)
    obtain ⟨S40, eS_S40⟩ : ∃ z : GS, z = sX S t0 32 t1 := ⟨_, rfl⟩
    have h := h S40 eS_S40
    rw [← eS_S40] at hG
    have hs_S40 : gSh S40 S := by rw [eS_S40]; exact gSh.x _ _ _ _
    have hsh := hs_S40.tr hsh
    have hk41 := hs_S40.lt hk38
    have hq42 := hs_S40.kd hq39
    refine lv_iload hx hb dX9_write_196 (lv_at hl 10 rfl) ?_
    refine lv_if_ne (tgt := 203) hx hb dX9_write_198 (by decide) (fun c_198 => ?_) (fun c_198 => ?_)
    · have h := h.1 c_198
      refine lv_aload_n hx hb dX9_write_203 rfl (lv_at hl 0 rfl) ?_
      refine lv_iload hx hb dX9_write_204 (lv_at hl 8 rfl) ?_
      refine lv_iload hx hb dX9_write_206 (lv_at hl 9 rfl) ?_
      refine lv_if_eq (tgt := 221) hx hb dX9_write_208 (by decide) (fun c_208 => ?_) (fun c_208 => ?_)
      · have h := h.1 c_208
        refine lv_iconst (v := 0) hx hb dX9_write_221 (by decide) ?_
        exact b_222 x1 x2 x3 x4 x5 x6 x7 x8 x9 k0 x8 0 S40 H locs ls h hsh hG (lv_sub hl [0, 1, 2, 3, 4, 5, 6, 7, 8, 9] rfl)
      · have h := h.2 c_208
        refine lv_iload_n hx hb dX9_write_211 rfl (lv_at hl 1 rfl) ?_
        refine lv_bipush (v := 10) hx hb dX9_write_212 (by decide) ?_
        refine lv_idiv hx hb dX9_write_214 (by decide) ?_
        refine lv_bipush (v := 10) hx hb dX9_write_215 (by decide) ?_
        refine lv_irem hx hb dX9_write_217 (by decide) ?_
        refine lv_goto (tgt := 222) hx hb dX9_write_218 (by decide) ?_
        exact b_222 x1 x2 x3 x4 x5 x6 x7 x8 x9 k0 x8 ((x1 / 10) - (x1 / 10) / 10 * 10) S40 H locs ls h hsh hG (lv_sub hl [0, 1, 2, 3, 4, 5, 6, 7, 8, 9] rfl)
    · have h := h.2 c_198
      refine lv_iconst (v := 0) hx hb dX9_write_201 (by decide) ?_
      exact W.iret (v := 0) hx hb hr (fun t ht hW => r_end (r := some (vI 0)) hAe hG hsh ⟨_, rfl, h⟩ rfl ht) hG.2.2.2.2 dX9_write_202
  have b_182 : ∀  (x1 : Int32) (x2 : Int32) (x3 : Int32) (x4 : Int32) (x5 : Int32) (x6 : Int32) (x7 : Int32) (x8 : Int32) (x9 : Int32) (x11 : Int32) (S : GS) (H : Heap) (locs : List Loc) (ls : Array Slot), wX9_write_182 Q k0 x1 x2 x3 x4 x5 x6 x7 x8 x9 x11 S → gSh S S0 → gS D Y ad A s.heap S H locs → lv_has ls 13 [(0, .ref (ad k0)), (1, .int x1), (2, .int x2), (3, .int x3), (4, .int x4), (5, .int x5), (6, .int x6), (7, .int x7), (8, .int x8), (9, .int x9), (11, .int x11)] → W p l e (rmD 4) s m args below meth c H locs 0 0 (MQ below (gE D Y za ad S0 s.heap.size (fun r S9 => ∃ x, r = some (vI x) ∧ Q x S9)) args s 0 0 A) (F0 m 182 ls []) := by
    intro  x1 x2 x3 x4 x5 x6 x7 x8 x9 x11 S H locs ls h hsh hG hl
    unfold wX9_write_182 at h
    refine lv_aload_n hx hb dX9_write_182 rfl (lv_at hl 0 rfl) ?_
    refine lv_iload hx hb dX9_write_183 (lv_at hl 10 rfl) ?_
    refine lv_if_eq (tgt := 192) hx hb dX9_write_185 (by decide) (fun c_185 => ?_) (fun c_185 => ?_)
    · have h := h.1 c_185
      refine lv_iconst (v := 1) hx hb dX9_write_192 (by decide) ?_
      exact b_193 x1 x2 x3 x4 x5 x6 x7 x8 x9 x11 k0 1 S H locs ls h hsh hG (lv_sub hl [0, 1, 2, 3, 4, 5, 6, 7, 8, 9, 10] rfl)
    · have h := h.2 c_185
      refine lv_iconst (v := 0) hx hb dX9_write_188 (by decide) ?_
      refine lv_goto (tgt := 193) hx hb dX9_write_189 (by decide) ?_
      exact b_193 x1 x2 x3 x4 x5 x6 x7 x8 x9 x11 k0 0 S H locs ls h hsh hG (lv_sub hl [0, 1, 2, 3, 4, 5, 6, 7, 8, 9, 10] rfl)
  have b_169 : ∀  (x1 : Int32) (x2 : Int32) (x3 : Int32) (x4 : Int32) (x5 : Int32) (x6 : Int32) (x7 : Int32) (x8 : Int32) (x9 : Int32) (x11 : Int32) (S : GS) (H : Heap) (locs : List Loc) (ls : Array Slot), wX9_write_169 Q k0 x1 x2 x3 x4 x5 x6 x7 x8 x9 x11 S → gSh S S0 → gS D Y ad A s.heap S H locs → lv_has ls 13 [(0, .ref (ad k0)), (1, .int x1), (2, .int x2), (3, .int x3), (4, .int x4), (5, .int x5), (6, .int x6), (7, .int x7), (8, .int x8), (9, .int x9), (11, .int x11)] → W p l e (rmD 4) s m args below meth c H locs 0 0 (MQ below (gE D Y za ad S0 s.heap.size (fun r S9 => ∃ x, r = some (vI x) ∧ Q x S9)) args s 0 0 A) (F0 m 169 ls []) := by
    intro  x1 x2 x3 x4 x5 x6 x7 x8 x9 x11 S H locs ls h hsh hG hl
    unfold wX9_write_169 at h
    refine lv_iload hx hb dX9_write_169 (lv_at hl 7 rfl) ?_
    refine lv_ldc hx hb hown lk_245 dX9_write_171 ?_
    refine r_callS (za := za) (As := [vI x7, vI 9999999]) (rest := []) (tX9_tells l S x7 9999999 _ h) ⟨hx, hb, hml, hown, hts⟩ (cwS 2 hts gX9_write_X9_tells rfl rfl rfl (by decide +kernel) ⟨by decide, by decide⟩) hK hG hA rfl hl.1 rfl (Nat.le_of_ble_eq_true rfl) ⟨Nat.le_refl _, Nat.le_refl _⟩ dX9_write_173 (fun r_9 S43 H locs hp hs_S43 hG => ?_)
    obtain ⟨u44, rfl, h⟩ := hp
    have h := h hs_S43
    refine W.eq (g2 := F0 m 176 ls [.int u44]) rfl ?_
    have hsh := hs_S43.tr hsh
    refine lv_if_ne (tgt := 182) hx hb dX9_write_176 (by decide) (fun c_176 => ?_) (fun c_176 => ?_)
    · have h := h.1 c_176
      exact b_182 x1 x2 x3 x4 x5 x6 x7 x8 x9 x11 S43 H locs ls h hsh hG (lv_sub hl [0, 1, 2, 3, 4, 5, 6, 7, 8, 9, 10] rfl)
    · have h := h.2 c_176
      refine lv_iconst (v := 0) hx hb dX9_write_179 (by decide) ?_
      refine lv_istore (lv' := [(11, .int 0), (0, .ref (ad k0)), (1, .int x1), (2, .int x2), (3, .int x3), (4, .int x4), (5, .int x5), (6, .int x6), (7, .int x7), (8, .int x8), (9, .int x9)]) hx hb dX9_write_180 hl (by decide) rfl (fun ls hl => ?_)
      exact b_182 x1 x2 x3 x4 x5 x6 x7 x8 x9 0 S43 H locs ls h hsh hG (lv_sub hl [1, 2, 3, 4, 5, 6, 7, 8, 9, 10, 0] rfl)
  have b_157 : ∀  (x1 : Int32) (x2 : Int32) (x3 : Int32) (x4 : Int32) (x5 : Int32) (x6 : Int32) (x7 : Int32) (x8 : Int32) (x9 : Int32) (x11 : Int32) (S : GS) (H : Heap) (locs : List Loc) (ls : Array Slot), wX9_write_157 Q k0 x1 x2 x3 x4 x5 x6 x7 x8 x9 x11 S → gSh S S0 → gS D Y ad A s.heap S H locs → lv_has ls 13 [(0, .ref (ad k0)), (1, .int x1), (2, .int x2), (3, .int x3), (4, .int x4), (5, .int x5), (6, .int x6), (7, .int x7), (8, .int x8), (9, .int x9), (11, .int x11)] → W p l e (rmD 4) s m args below meth c H locs 0 0 (MQ below (gE D Y za ad S0 s.heap.size (fun r S9 => ∃ x, r = some (vI x) ∧ Q x S9)) args s 0 0 A) (F0 m 157 ls []) := by
    intro  x1 x2 x3 x4 x5 x6 x7 x8 x9 x11 S H locs ls h hsh hG hl
    unfold wX9_write_157 at h
    refine lv_iload hx hb dX9_write_157 (lv_at hl 8 rfl) ?_
    refine lv_iconst (v := 1) hx hb dX9_write_159 (by decide) ?_
    refine lv_icmp_eq (tgt := 169) hx hb dX9_write_160 (by decide) (fun c_160 => ?_) (fun c_160 => ?_)
    · have h := h.1 c_160
      exact b_169 x1 x2 x3 x4 x5 x6 x7 x8 x9 x11 S H locs ls h hsh hG (lv_sub hl [0, 1, 2, 3, 4, 5, 6, 7, 8, 9, 10] rfl)
    · have h := h.2 c_160
      refine lv_iload hx hb dX9_write_163 (lv_at hl 8 rfl) ?_
      refine lv_iconst (v := 5) hx hb dX9_write_165 (by decide) ?_
      refine lv_icmp_ne (tgt := 182) hx hb dX9_write_166 (by decide) (fun c_166 => ?_) (fun c_166 => ?_)
      · have h := h.1 c_166
        exact b_182 x1 x2 x3 x4 x5 x6 x7 x8 x9 x11 S H locs ls h hsh hG (lv_sub hl [0, 1, 2, 3, 4, 5, 6, 7, 8, 9, 10] rfl)
      · have h := h.2 c_166
        exact b_169 x1 x2 x3 x4 x5 x6 x7 x8 x9 x11 S H locs ls h hsh hG (lv_sub hl [0, 1, 2, 3, 4, 5, 6, 7, 8, 9, 10] rfl)
  have b_140 : ∀  (x1 : Int32) (x2 : Int32) (x3 : Int32) (x4 : Int32) (x5 : Int32) (x6 : Int32) (x7 : Int32) (x8 : Int32) (x9 : Int32) (x10 : Int32) (x11 : Int32) (S : GS) (H : Heap) (locs : List Loc) (ls : Array Slot), wX9_write_140 Q k0 x1 x2 x3 x4 x5 x6 x7 x8 x9 x10 x11 S → gSh S S0 → gS D Y ad A s.heap S H locs → lv_has ls 13 [(0, .ref (ad k0)), (1, .int x1), (2, .int x2), (3, .int x3), (4, .int x4), (5, .int x5), (6, .int x6), (7, .int x7), (8, .int x8), (9, .int x9), (10, .int x10), (11, .int x11)] → W p l e (rmD 4) s m args below meth c H locs 0 0 (MQ below (gE D Y za ad S0 s.heap.size (fun r S9 => ∃ x, r = some (vI x) ∧ Q x S9)) args s 0 0 A) (F0 m 140 ls []) := by
    intro  x1 x2 x3 x4 x5 x6 x7 x8 x9 x10 x11 S H locs ls h hsh hG hl
    unfold wX9_write_140 at h
    refine lv_iload hx hb dX9_write_140 (lv_at hl 10 rfl) ?_
    refine lv_iconst (v := 3) hx hb dX9_write_142 (by decide) ?_
    refine lv_icmp_ne (tgt := 157) hx hb dX9_write_143 (by decide) (fun c_143 => ?_) (fun c_143 => ?_)
    · have h := h.1 c_143
      exact b_157 x1 x2 x3 x4 x5 x6 x7 x8 x9 x11 S H locs ls h hsh hG (lv_sub hl [0, 1, 2, 3, 4, 5, 6, 7, 8, 9, 11] rfl)
    · have h := h.2 c_143
      refine lv_iload hx hb dX9_write_146 (lv_at hl 6 rfl) ?_
      refine r_callS (za := za) (As := [vI x6]) (rest := []) (tX9_sizeTells l S x6 _ h) ⟨hx, hb, hml, hown, hts⟩ (cwS 1 hts gX9_write_X9_sizeTells rfl rfl rfl (by decide +kernel) ⟨by decide, by decide⟩) hK hG hA rfl hl.1 rfl (Nat.le_of_ble_eq_true rfl) ⟨Nat.le_refl _, Nat.le_refl _⟩ dX9_write_148 (fun r_9 S45 H locs hp hs_S45 hG => ?_)
      obtain ⟨u46, rfl, h⟩ := hp
      have h := h hs_S45
      refine W.eq (g2 := F0 m 151 ls [.int u46]) rfl ?_
      have hsh := hs_S45.tr hsh
      refine lv_if_ne (tgt := 157) hx hb dX9_write_151 (by decide) (fun c_151 => ?_) (fun c_151 => ?_)
      · have h := h.1 c_151
        exact b_157 x1 x2 x3 x4 x5 x6 x7 x8 x9 x11 S45 H locs ls h hsh hG (lv_sub hl [0, 1, 2, 3, 4, 5, 6, 7, 8, 9, 11] rfl)
      · have h := h.2 c_151
        refine lv_iconst (v := 0) hx hb dX9_write_154 (by decide) ?_
        refine lv_istore (lv' := [(11, .int 0), (0, .ref (ad k0)), (1, .int x1), (2, .int x2), (3, .int x3), (4, .int x4), (5, .int x5), (6, .int x6), (7, .int x7), (8, .int x8), (9, .int x9), (10, .int x10)]) hx hb dX9_write_155 hl (by decide) rfl (fun ls hl => ?_)
        exact b_157 x1 x2 x3 x4 x5 x6 x7 x8 x9 0 S45 H locs ls h hsh hG (lv_sub hl [1, 2, 3, 4, 5, 6, 7, 8, 9, 10, 0] rfl)
  have b_137 : ∀  (x1 : Int32) (x2 : Int32) (x3 : Int32) (x4 : Int32) (x5 : Int32) (x6 : Int32) (x7 : Int32) (x8 : Int32) (x9 : Int32) (x10 : Int32) (S : GS) (H : Heap) (locs : List Loc) (ls : Array Slot), wX9_write_137 Q k0 x1 x2 x3 x4 x5 x6 x7 x8 x9 x10 S → gSh S S0 → gS D Y ad A s.heap S H locs → lv_has ls 13 [(0, .ref (ad k0)), (1, .int x1), (2, .int x2), (3, .int x3), (4, .int x4), (5, .int x5), (6, .int x6), (7, .int x7), (8, .int x8), (9, .int x9), (10, .int x10)] → W p l e (rmD 4) s m args below meth c H locs 0 0 (MQ below (gE D Y za ad S0 s.heap.size (fun r S9 => ∃ x, r = some (vI x) ∧ Q x S9)) args s 0 0 A) (F0 m 137 ls []) := by
    intro  x1 x2 x3 x4 x5 x6 x7 x8 x9 x10 S H locs ls h hsh hG hl
    unfold wX9_write_137 at h
    refine lv_iconst (v := 0) hx hb dX9_write_137 (by decide) ?_
    refine lv_istore (lv' := [(11, .int 0), (0, .ref (ad k0)), (1, .int x1), (2, .int x2), (3, .int x3), (4, .int x4), (5, .int x5), (6, .int x6), (7, .int x7), (8, .int x8), (9, .int x9), (10, .int x10)]) hx hb dX9_write_138 hl (by decide) rfl (fun ls hl => ?_)
    exact b_140 x1 x2 x3 x4 x5 x6 x7 x8 x9 x10 0 S H locs ls h hsh hG (lv_sub hl [1, 2, 3, 4, 5, 6, 7, 8, 9, 10, 11, 0] rfl)
  have b_113 : ∀  (x1 : Int32) (x2 : Int32) (x3 : Int32) (x4 : Int32) (x5 : Int32) (x6 : Int32) (x7 : Int32) (x8 : Int32) (x9 : Int32) (x10 : Int32) (t0 : Int32) (S : GS) (H : Heap) (locs : List Loc) (ls : Array Slot), wX9_write_113 Q k0 x1 x2 x3 x4 x5 x6 x7 x8 x9 x10 t0 S → gSh S S0 → gS D Y ad A s.heap S H locs → lv_has ls 13 [(0, .ref (ad k0)), (1, .int x1), (2, .int x2), (3, .int x3), (4, .int x4), (5, .int x5), (6, .int x6), (7, .int x7), (8, .int x8), (9, .int x9), (10, .int x10)] → W p l e (rmD 4) s m args below meth c H locs 0 0 (MQ below (gE D Y za ad S0 s.heap.size (fun r S9 => ∃ x, r = some (vI x) ∧ Q x S9)) args s 0 0 A) (F0 m 113 ls [.int t0]) := by
    intro  x1 x2 x3 x4 x5 x6 x7 x8 x9 x10 t0 S H locs ls h hsh hG hl
    unfold wX9_write_113 at h
    refine lv_istore (lv' := [(11, .int t0), (0, .ref (ad k0)), (1, .int x1), (2, .int x2), (3, .int x3), (4, .int x4), (5, .int x5), (6, .int x6), (7, .int x7), (8, .int x8), (9, .int x9), (10, .int x10)]) hx hb dX9_write_113 hl (by decide) rfl (fun ls hl => ?_)
    refine lv_iload hx hb dX9_write_115 (lv_at hl 11 rfl) ?_
    refine lv_iconst (v := 2) hx hb dX9_write_117 (by decide) ?_
    refine lv_icmp_lt (tgt := 140) hx hb dX9_write_118 (by decide) (fun c_118 => ?_) (fun c_118 => ?_)
    · have h := h.1 c_118
      exact b_140 x1 x2 x3 x4 x5 x6 x7 x8 x9 x10 t0 S H locs ls h hsh hG (lv_sub hl [1, 2, 3, 4, 5, 6, 7, 8, 9, 10, 11, 0] rfl)
    · have h := h.2 c_118
      refine lv_iload hx hb dX9_write_121 (lv_at hl 5 rfl) ?_
      refine r_callS (za := za) (As := [vI x4]) (rest := []) (tX9_sizeTells l S x4 _ h) ⟨hx, hb, hml, hown, hts⟩ (cwS 1 hts gX9_write_X9_sizeTells rfl rfl rfl (by decide +kernel) ⟨by decide, by decide⟩) hK hG hA rfl hl.1 rfl (Nat.le_of_ble_eq_true rfl) ⟨Nat.le_refl _, Nat.le_refl _⟩ dX9_write_123 (fun r_9 S47 H locs hp hs_S47 hG => ?_)
      obtain ⟨u48, rfl, h⟩ := hp
      have h := h hs_S47
      refine W.eq (g2 := F0 m 126 ls [.int u48]) rfl ?_
      have hsh := hs_S47.tr hsh
      refine lv_if_eq (tgt := 137) hx hb dX9_write_126 (by decide) (fun c_126 => ?_) (fun c_126 => ?_)
      · have h := h.1 c_126
        exact b_137 x1 x2 x3 x4 x5 x6 x7 x8 x9 x10 S47 H locs ls h hsh hG (lv_sub hl [1, 2, 3, 4, 5, 6, 7, 8, 9, 10, 11] rfl)
      · have h := h.2 c_126
        refine lv_iload hx hb dX9_write_129 (lv_at hl 6 rfl) ?_
        refine r_callS (za := za) (As := [vI x5]) (rest := []) (tX9_sizeTells l S47 x5 _ h) ⟨hx, hb, hml, hown, hts⟩ (cwS 1 hts gX9_write_X9_sizeTells rfl rfl rfl (by decide +kernel) ⟨by decide, by decide⟩) hK hG hA rfl hl.1 rfl (Nat.le_of_ble_eq_true rfl) ⟨Nat.le_refl _, Nat.le_refl _⟩ dX9_write_131 (fun r_9 S49 H locs hp hs_S49 hG => ?_)
        obtain ⟨u50, rfl, h⟩ := hp
        have h := h hs_S49
        refine W.eq (g2 := F0 m 134 ls [.int u50]) rfl ?_
        have hsh := hs_S49.tr hsh
        refine lv_if_ne (tgt := 140) hx hb dX9_write_134 (by decide) (fun c_134 => ?_) (fun c_134 => ?_)
        · have h := h.1 c_134
          exact b_140 x1 x2 x3 x4 x5 x6 x7 x8 x9 x10 t0 S49 H locs ls h hsh hG (lv_sub hl [1, 2, 3, 4, 5, 6, 7, 8, 9, 10, 11, 0] rfl)
        · have h := h.2 c_134
          exact b_137 x1 x2 x3 x4 x5 x6 x7 x8 x9 x10 S49 H locs ls h hsh hG (lv_sub hl [1, 2, 3, 4, 5, 6, 7, 8, 9, 10, 11] rfl)
  have b_112 : ∀  (x1 : Int32) (x2 : Int32) (x3 : Int32) (x4 : Int32) (x5 : Int32) (x6 : Int32) (x7 : Int32) (x8 : Int32) (x9 : Int32) (x10 : Int32) (S : GS) (H : Heap) (locs : List Loc) (ls : Array Slot), wX9_write_112 Q k0 x1 x2 x3 x4 x5 x6 x7 x8 x9 x10 S → gSh S S0 → gS D Y ad A s.heap S H locs → lv_has ls 13 [(0, .ref (ad k0)), (1, .int x1), (2, .int x2), (3, .int x3), (4, .int x4), (5, .int x5), (6, .int x6), (7, .int x7), (8, .int x8), (9, .int x9), (10, .int x10)] → W p l e (rmD 4) s m args below meth c H locs 0 0 (MQ below (gE D Y za ad S0 s.heap.size (fun r S9 => ∃ x, r = some (vI x) ∧ Q x S9)) args s 0 0 A) (F0 m 112 ls []) := by
    intro  x1 x2 x3 x4 x5 x6 x7 x8 x9 x10 S H locs ls h hsh hG hl
    unfold wX9_write_112 at h
    refine lv_iconst (v := 0) hx hb dX9_write_112 (by decide) ?_
    exact b_113 x1 x2 x3 x4 x5 x6 x7 x8 x9 x10 0 S H locs ls h hsh hG (lv_sub hl [0, 1, 2, 3, 4, 5, 6, 7, 8, 9, 10] rfl)
  have b_89 : ∀  (x1 : Int32) (x2 : Int32) (x3 : Int32) (x4 : Int32) (x5 : Int32) (x6 : Int32) (x7 : Int32) (x8 : Int32) (x9 : Int32) (x10 : Int32) (S : GS) (H : Heap) (locs : List Loc) (ls : Array Slot), wX9_write_89 Q k0 x1 x2 x3 x4 x5 x6 x7 x8 x9 x10 S → gSh S S0 → gS D Y ad A s.heap S H locs → lv_has ls 13 [(0, .ref (ad k0)), (1, .int x1), (2, .int x2), (3, .int x3), (4, .int x4), (5, .int x5), (6, .int x6), (7, .int x7), (8, .int x8), (9, .int x9), (10, .int x10)] → W p l e (rmD 4) s m args below meth c H locs 0 0 (MQ below (gE D Y za ad S0 s.heap.size (fun r S9 => ∃ x, r = some (vI x) ∧ Q x S9)) args s 0 0 A) (F0 m 89 ls []) := by
    intro  x1 x2 x3 x4 x5 x6 x7 x8 x9 x10 S H locs ls h hsh hG hl
    unfold wX9_write_89 at h
    refine lv_iload_n hx hb dX9_write_89 rfl (lv_at hl 2 rfl) ?_
    refine lv_sipush (v := 999) hx hb dX9_write_90 (by decide) ?_
    refine r_callS (za := za) (As := [vI x2, vI 999]) (rest := []) (tX9_tells l S x2 999 _ h) ⟨hx, hb, hml, hown, hts⟩ (cwS 2 hts gX9_write_X9_tells rfl rfl rfl (by decide +kernel) ⟨by decide, by decide⟩) hK hG hA rfl hl.1 rfl (Nat.le_of_ble_eq_true rfl) ⟨Nat.le_refl _, Nat.le_refl _⟩ dX9_write_93 (fun r_9 S51 H locs hp hs_S51 hG => ?_)
    obtain ⟨u52, rfl, h⟩ := hp
    have h := h hs_S51
    refine W.eq (g2 := F0 m 96 ls [.int u52]) rfl ?_
    have hsh := hs_S51.tr hsh
    refine lv_if_eq (tgt := 112) hx hb dX9_write_96 (by decide) (fun c_96 => ?_) (fun c_96 => ?_)
    · have h := h.1 c_96
      exact b_112 x1 x2 x3 x4 x5 x6 x7 x8 x9 x10 S51 H locs ls h hsh hG (lv_sub hl [0, 1, 2, 3, 4, 5, 6, 7, 8, 9, 10] rfl)
    · have h := h.2 c_96
      refine lv_iload_n hx hb dX9_write_99 rfl (lv_at hl 3 rfl) ?_
      refine lv_ldc hx hb hown lk_241 dX9_write_100 ?_
      refine r_callS (za := za) (As := [vI x3, vI 99999999]) (rest := []) (tX9_tells l S51 x3 99999999 _ h) ⟨hx, hb, hml, hown, hts⟩ (cwS 2 hts gX9_write_X9_tells rfl rfl rfl (by decide +kernel) ⟨by decide, by decide⟩) hK hG hA rfl hl.1 rfl (Nat.le_of_ble_eq_true rfl) ⟨Nat.le_refl _, Nat.le_refl _⟩ dX9_write_102 (fun r_9 S53 H locs hp hs_S53 hG => ?_)
      obtain ⟨u54, rfl, h⟩ := hp
      have h := h hs_S53
      refine W.eq (g2 := F0 m 105 ls [.int u54]) rfl ?_
      have hsh := hs_S53.tr hsh
      refine lv_if_eq (tgt := 112) hx hb dX9_write_105 (by decide) (fun c_105 => ?_) (fun c_105 => ?_)
      · have h := h.1 c_105
        exact b_112 x1 x2 x3 x4 x5 x6 x7 x8 x9 x10 S53 H locs ls h hsh hG (lv_sub hl [0, 1, 2, 3, 4, 5, 6, 7, 8, 9, 10] rfl)
      · have h := h.2 c_105
        refine lv_iconst (v := 1) hx hb dX9_write_108 (by decide) ?_
        refine lv_goto (tgt := 113) hx hb dX9_write_109 (by decide) ?_
        exact b_113 x1 x2 x3 x4 x5 x6 x7 x8 x9 x10 1 S53 H locs ls h hsh hG (lv_sub hl [0, 1, 2, 3, 4, 5, 6, 7, 8, 9, 10] rfl)
  have b_60 : ∀  (x1 : Int32) (x2 : Int32) (x3 : Int32) (x4 : Int32) (x5 : Int32) (x6 : Int32) (x7 : Int32) (x8 : Int32) (t0 : Int32) (S : GS) (H : Heap) (locs : List Loc) (ls : Array Slot), wX9_write_60 Q k0 x1 x2 x3 x4 x5 x6 x7 x8 t0 S → gSh S S0 → gS D Y ad A s.heap S H locs → lv_has ls 13 [(0, .ref (ad k0)), (1, .int x1), (2, .int x2), (3, .int x3), (4, .int x4), (5, .int x5), (6, .int x6), (7, .int x7), (8, .int x8)] → W p l e (rmD 4) s m args below meth c H locs 0 0 (MQ below (gE D Y za ad S0 s.heap.size (fun r S9 => ∃ x, r = some (vI x) ∧ Q x S9)) args s 0 0 A) (F0 m 60 ls [.int t0]) := by
    intro  x1 x2 x3 x4 x5 x6 x7 x8 t0 S H locs ls h hsh hG hl
    unfold wX9_write_60 at h
    refine lv_istore (lv' := [(9, .int t0), (0, .ref (ad k0)), (1, .int x1), (2, .int x2), (3, .int x3), (4, .int x4), (5, .int x5), (6, .int x6), (7, .int x7), (8, .int x8)]) hx hb dX9_write_60 hl (by decide) rfl (fun ls hl => ?_)
    refine lv_iload hx hb dX9_write_62 (lv_at hl 9 rfl) ?_
    refine r_callS (za := za) (As := [vI x8]) (rest := []) (tX9_sizesOf l S x8 _ h) ⟨hx, hb, hml, hown, hts⟩ (cwS 1 hts gX9_write_X9_sizesOf rfl rfl rfl (by decide +kernel) ⟨by decide, by decide⟩) hK hG hA rfl hl.1 rfl (Nat.le_of_ble_eq_true rfl) ⟨Nat.le_refl _, Nat.le_refl _⟩ dX9_write_64 (fun r_9 S55 H locs hp hs_S55 hG => ?_)
    obtain ⟨u56, rfl, h⟩ := hp
    have h := h hs_S55
    refine W.eq (g2 := F0 m 67 ls [.int u56]) rfl ?_
    have hsh := hs_S55.tr hsh
    refine lv_istore (lv' := [(10, .int u56), (9, .int t0), (0, .ref (ad k0)), (1, .int x1), (2, .int x2), (3, .int x3), (4, .int x4), (5, .int x5), (6, .int x6), (7, .int x7), (8, .int x8)]) hx hb dX9_write_67 hl (by decide) rfl (fun ls hl => ?_)
    refine lv_iload hx hb dX9_write_69 (lv_at hl 1 rfl) ?_
    refine lv_if_ne (tgt := 89) hx hb dX9_write_71 (by decide) (fun c_71 => ?_) (fun c_71 => ?_)
    · have h := h.1 c_71
      exact b_89 x1 x2 x3 x4 x5 x6 x7 x8 t0 u56 S55 H locs ls h hsh hG (lv_sub hl [2, 3, 4, 5, 6, 7, 8, 9, 10, 1, 0] rfl)
    · have h := h.2 c_71
      refine lv_iload_n hx hb dX9_write_74 rfl (lv_at hl 3 rfl) ?_
      refine lv_bipush (v := 6) hx hb dX9_write_75 (by decide) ?_
      refine r_callS (za := za) (As := [vI x1, vI 6]) (rest := []) (tX9_tells l S55 x1 6 _ h) ⟨hx, hb, hml, hown, hts⟩ (cwS 2 hts gX9_write_X9_tells rfl rfl rfl (by decide +kernel) ⟨by decide, by decide⟩) hK hG hA rfl hl.1 rfl (Nat.le_of_ble_eq_true rfl) ⟨Nat.le_refl _, Nat.le_refl _⟩ dX9_write_77 (fun r_9 S57 H locs hp hs_S57 hG => ?_)
      obtain ⟨u58, rfl, h⟩ := hp
      have h := h hs_S57
      refine W.eq (g2 := F0 m 80 ls [.int u58]) rfl ?_
      have hsh := hs_S57.tr hsh
      refine lv_if_eq (tgt := 112) hx hb dX9_write_80 (by decide) (fun c_80 => ?_) (fun c_80 => ?_)
      · have h := h.1 c_80
        exact b_112 x1 x2 x3 x4 x5 x6 x7 x8 t0 u56 S57 H locs ls h hsh hG (lv_sub hl [2, 3, 4, 5, 6, 7, 8, 9, 10, 1, 0] rfl)
      · have h := h.2 c_80
        refine lv_iload hx hb dX9_write_83 (lv_at hl 10 rfl) ?_
        refine lv_iconst (v := 2) hx hb dX9_write_85 (by decide) ?_
        refine lv_icmp_lt (tgt := 112) hx hb dX9_write_86 (by decide) (fun c_86 => ?_) (fun c_86 => ?_)
        · have h := h.1 c_86
          exact b_112 x1 x2 x3 x4 x5 x6 x7 x8 t0 u56 S57 H locs ls h hsh hG (lv_sub hl [2, 3, 4, 5, 6, 7, 8, 9, 10, 1, 0] rfl)
        · have h := h.2 c_86
          exact b_89 x1 x2 x3 x4 x5 x6 x7 x8 t0 u56 S57 H locs ls h hsh hG (lv_sub hl [2, 3, 4, 5, 6, 7, 8, 9, 10, 1, 0] rfl)
  have b_59 : ∀  (x1 : Int32) (x2 : Int32) (x3 : Int32) (x4 : Int32) (x5 : Int32) (x6 : Int32) (x7 : Int32) (x8 : Int32) (S : GS) (H : Heap) (locs : List Loc) (ls : Array Slot), wX9_write_59 Q k0 x1 x2 x3 x4 x5 x6 x7 x8 S → gSh S S0 → gS D Y ad A s.heap S H locs → lv_has ls 13 [(0, .ref (ad k0)), (1, .int x1), (2, .int x2), (3, .int x3), (4, .int x4), (5, .int x5), (6, .int x6), (7, .int x7), (8, .int x8)] → W p l e (rmD 4) s m args below meth c H locs 0 0 (MQ below (gE D Y za ad S0 s.heap.size (fun r S9 => ∃ x, r = some (vI x) ∧ Q x S9)) args s 0 0 A) (F0 m 59 ls []) := by
    intro  x1 x2 x3 x4 x5 x6 x7 x8 S H locs ls h hsh hG hl
    unfold wX9_write_59 at h
    refine lv_iconst (v := 0) hx hb dX9_write_59 (by decide) ?_
    exact b_60 x1 x2 x3 x4 x5 x6 x7 x8 0 S H locs ls h hsh hG (lv_sub hl [0, 1, 2, 3, 4, 5, 6, 7, 8] rfl)
  have b_26 : ∀  (x1 : Int32) (x2 : Int32) (x3 : Int32) (x4 : Int32) (x5 : Int32) (x6 : Int32) (x7 : Int32) (t0 : Int32) (S : GS) (H : Heap) (locs : List Loc) (ls : Array Slot), wX9_write_26 Q k0 x1 x2 x3 x4 x5 x6 x7 t0 S → gSh S S0 → gS D Y ad A s.heap S H locs → lv_has ls 13 [(0, .ref (ad k0)), (1, .int x1), (2, .int x2), (3, .int x3), (4, .int x4), (5, .int x5), (6, .int x6), (7, .int x7)] → W p l e (rmD 4) s m args below meth c H locs 0 0 (MQ below (gE D Y za ad S0 s.heap.size (fun r S9 => ∃ x, r = some (vI x) ∧ Q x S9)) args s 0 0 A) (F0 m 26 ls [.int t0]) := by
    intro  x1 x2 x3 x4 x5 x6 x7 t0 S H locs ls h hsh hG hl
    unfold wX9_write_26 at h
    refine lv_istore (lv' := [(8, .int t0), (0, .ref (ad k0)), (1, .int x1), (2, .int x2), (3, .int x3), (4, .int x4), (5, .int x5), (6, .int x6), (7, .int x7)]) hx hb dX9_write_26 hl (by decide) rfl (fun ls hl => ?_)
    refine lv_iload hx hb dX9_write_28 (lv_at hl 0 rfl) ?_
    refine lv_iconst (v := 1) hx hb dX9_write_30 (by decide) ?_
    refine lv_icmp_gt (tgt := 59) hx hb dX9_write_31 (by decide) (fun c_31 => ?_) (fun c_31 => ?_)
    · have h := h.1 c_31
      exact b_59 x1 x2 x3 x4 x5 x6 x7 t0 S H locs ls h hsh hG (lv_sub hl [1, 2, 3, 4, 5, 6, 7, 8, 0] rfl)
    · have h := h.2 c_31
      refine lv_iload_n hx hb dX9_write_34 rfl (lv_at hl 2 rfl) ?_
      refine lv_sipush (v := 221) hx hb dX9_write_35 (by decide) ?_
      refine r_callS (za := za) (As := [vI x1, vI 221]) (rest := []) (tX9_tells l S x1 221 _ h) ⟨hx, hb, hml, hown, hts⟩ (cwS 2 hts gX9_write_X9_tells rfl rfl rfl (by decide +kernel) ⟨by decide, by decide⟩) hK hG hA rfl hl.1 rfl (Nat.le_of_ble_eq_true rfl) ⟨Nat.le_refl _, Nat.le_refl _⟩ dX9_write_38 (fun r_9 S59 H locs hp hs_S59 hG => ?_)
      obtain ⟨u60, rfl, h⟩ := hp
      have h := h hs_S59
      refine W.eq (g2 := F0 m 41 ls [.int u60]) rfl ?_
      have hsh := hs_S59.tr hsh
      refine lv_if_eq (tgt := 59) hx hb dX9_write_41 (by decide) (fun c_41 => ?_) (fun c_41 => ?_)
      · have h := h.1 c_41
        exact b_59 x1 x2 x3 x4 x5 x6 x7 t0 S59 H locs ls h hsh hG (lv_sub hl [1, 2, 3, 4, 5, 6, 7, 8, 0] rfl)
      · have h := h.2 c_41
        refine lv_iload_n hx hb dX9_write_44 rfl (lv_at hl 2 rfl) ?_
        refine lv_bipush (v := 10) hx hb dX9_write_45 (by decide) ?_
        refine lv_idiv hx hb dX9_write_47 (by decide) ?_
        refine lv_bipush (v := 10) hx hb dX9_write_48 (by decide) ?_
        refine lv_irem hx hb dX9_write_50 (by decide) ?_
        refine lv_iconst (v := 2) hx hb dX9_write_51 (by decide) ?_
        refine lv_icmp_gt (tgt := 59) hx hb dX9_write_52 (by decide) (fun c_52 => ?_) (fun c_52 => ?_)
        · have h := h.1 c_52
          exact b_59 x1 x2 x3 x4 x5 x6 x7 t0 S59 H locs ls h hsh hG (lv_sub hl [1, 2, 3, 4, 5, 6, 7, 8, 0] rfl)
        · have h := h.2 c_52
          refine lv_iconst (v := 1) hx hb dX9_write_55 (by decide) ?_
          refine lv_goto (tgt := 60) hx hb dX9_write_56 (by decide) ?_
          exact b_60 x1 x2 x3 x4 x5 x6 x7 t0 1 S59 H locs ls h hsh hG (lv_sub hl [1, 2, 3, 4, 5, 6, 7, 8, 0] rfl)
  have b_25 : ∀  (x1 : Int32) (x2 : Int32) (x3 : Int32) (x4 : Int32) (x5 : Int32) (x6 : Int32) (x7 : Int32) (S : GS) (H : Heap) (locs : List Loc) (ls : Array Slot), wX9_write_25 Q k0 x1 x2 x3 x4 x5 x6 x7 S → gSh S S0 → gS D Y ad A s.heap S H locs → lv_has ls 13 [(0, .ref (ad k0)), (1, .int x1), (2, .int x2), (3, .int x3), (4, .int x4), (5, .int x5), (6, .int x6), (7, .int x7)] → W p l e (rmD 4) s m args below meth c H locs 0 0 (MQ below (gE D Y za ad S0 s.heap.size (fun r S9 => ∃ x, r = some (vI x) ∧ Q x S9)) args s 0 0 A) (F0 m 25 ls []) := by
    intro  x1 x2 x3 x4 x5 x6 x7 S H locs ls h hsh hG hl
    unfold wX9_write_25 at h
    refine lv_iload_n hx hb dX9_write_25 rfl (lv_at hl 1 rfl) ?_
    exact b_26 x1 x2 x3 x4 x5 x6 x7 x1 S H locs ls h hsh hG (lv_sub hl [0, 1, 2, 3, 4, 5, 6, 7] rfl)
  have hl : lv_has ls 13 [(0, .ref (ad k0)), (1, .int x1), (2, .int x2), (3, .int x3), (4, .int x4), (5, .int x5), (6, .int x6), (7, .int x7)] := hl
  have hsh : gSh S S0 := by rw [hS0]; exact gSh.rf S
  obtain ⟨H, eH⟩ : ∃ z : Heap, z = s.heap := ⟨_, rfl⟩
  obtain ⟨locs, eL⟩ : ∃ z : List Loc, z = [] := ⟨_, rfl⟩
  have hG : gS D Y ad A s.heap S H locs := by rw [eH, eL]; exact hG
  suffices hgoal : W p l e (rmD 4) s m args below meth c H locs 0 0 (MQ below (gE D Y za ad S0 s.heap.size (fun r S9 => ∃ x, r = some (vI x) ∧ Q x S9)) args s 0 0 A) (F0 m 0 ls []) by rw [eH, eL] at hgoal; exact hgoal
  unfold wX9_write at h
  refine lv_iload_n hx hb dX9_write_0 rfl (lv_at hl 1 rfl) ?_
  refine lv_sipush (v := 221) hx hb dX9_write_1 (by decide) ?_
  refine r_callS (za := za) (As := [vI x1, vI 221]) (rest := []) (tX9_tells l S x1 221 _ h) ⟨hx, hb, hml, hown, hts⟩ (cwS 2 hts gX9_write_X9_tells rfl rfl rfl (by decide +kernel) ⟨by decide, by decide⟩) hK hG hA rfl hl.1 rfl (Nat.le_of_ble_eq_true rfl) ⟨Nat.le_refl _, Nat.le_refl _⟩ dX9_write_4 (fun r_9 S61 H locs hp hs_S61 hG => ?_)
  obtain ⟨u62, rfl, h⟩ := hp
  have h := h hs_S61
  refine W.eq (g2 := F0 m 7 ls [.int u62]) rfl ?_
  have hsh := hs_S61.tr hsh
  refine lv_if_eq (tgt := 25) hx hb dX9_write_7 (by decide) (fun c_7 => ?_) (fun c_7 => ?_)
  · have h := h.1 c_7
    exact b_25 x1 x2 x3 x4 x5 x6 x7 S61 H locs ls h hsh hG (lv_sub hl [0, 1, 2, 3, 4, 5, 6, 7] rfl)
  · have h := h.2 c_7
    refine lv_iload_n hx hb dX9_write_10 rfl (lv_at hl 1 rfl) ?_
    refine lv_bipush (v := 10) hx hb dX9_write_11 (by decide) ?_
    refine lv_irem hx hb dX9_write_13 (by decide) ?_
    refine lv_iconst (v := 1) hx hb dX9_write_14 (by decide) ?_
    refine lv_icmp_gt (tgt := 25) hx hb dX9_write_15 (by decide) (fun c_15 => ?_) (fun c_15 => ?_)
    · have h := h.1 c_15
      exact b_25 x1 x2 x3 x4 x5 x6 x7 S61 H locs ls h hsh hG (lv_sub hl [0, 1, 2, 3, 4, 5, 6, 7] rfl)
    · have h := h.2 c_15
      refine lv_iload_n hx hb dX9_write_18 rfl (lv_at hl 1 rfl) ?_
      refine lv_bipush (v := 10) hx hb dX9_write_19 (by decide) ?_
      refine lv_irem hx hb dX9_write_21 (by decide) ?_
      refine lv_goto (tgt := 26) hx hb dX9_write_22 (by decide) ?_
      exact b_26 x1 x2 x3 x4 x5 x6 x7 (x1 - x1 / 10 * 10) S61 H locs ls h hsh hG (lv_sub hl [0, 1, 2, 3, 4, 5, 6, 7] rfl)
