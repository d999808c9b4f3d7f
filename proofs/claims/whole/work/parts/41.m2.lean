def wX9_sizeElements (S : GS) (k0 : Nat) (Q : GS → Prop) : Prop :=
  k0 < gN S ∧ gK S k0 = 9 ∧ wX9_element S k0 204 (fun S3 => gSh S3 S → wX9_element S3 k0 400 (fun S7 => gSh S7 S3 → Q S7))
set_option maxHeartbeats 4000000 in
set_option maxRecDepth 100000 in
theorem tX9_sizeElements (l : Launch) (S : GS) (k0 : Nat) (Q : GS → Prop) (h : wX9_sizeElements S k0 Q) : CS l yX9_sizeElements wsX9_sizeElements 1 S [vR (some k0)] (fun r S9 => r = none ∧ Q S9) := by
  refine CS.ofW (cc := cX9_sizeElements) (maxL := 1) (ret := none) RX9 (by decide) rfl rfl (fun _ _ => Nat.le_of_ble_eq_true rfl) ?_
  intro p e s m args below meth c D Y za ad A ls hAe hx hb hr hml hts hown hlocks hK hA hG hl
  obtain ⟨S0, hS0⟩ : ∃ z : GS, z = S := ⟨_, rfl⟩
  rw [← hS0] at hAe
  rw [← hS0]
  have hl : lv_has ls 1 [(0, .ref (ad k0))] := hl
  have hsh : gSh S S0 := by rw [hS0]; exact gSh.rf S
  obtain ⟨H, eH⟩ : ∃ z : Heap, z = s.heap := ⟨_, rfl⟩
  obtain ⟨locs, eL⟩ : ∃ z : List Loc, z = [] := ⟨_, rfl⟩
  have hG : gS D Y ad A s.heap S H locs := by rw [eH, eL]; exact hG
  suffices hgoal : W p l e (rmD 1) s m args below meth c H locs 0 0 (MQ below (gE D Y za ad S0 s.heap.size (fun r S9 => r = none ∧ Q S9)) args s 0 0 A) (F0 m 0 ls []) by rw [eH, eL] at hgoal; exact hgoal
  unfold wX9_sizeElements at h
  refine lv_aload_n hx hb dX9_sizeElements_0 rfl (lv_at hl 0 rfl) ?_
  refine lv_sipush (v := 204) hx hb dX9_sizeElements_1 (by decide) ?_
  obtain ⟨hk1, hq2, h⟩ := h
  refine r_callV (za := za) (k := k0) (ci := 9) (C := RX9) (T := TX9) (N := 36) (As := [vI 204]) (rest := []) (tX9_element l S k0 204 _ h) ⟨hx, hb, hml, hown, hts⟩ (cwV 1 hts gX9_sizeElements_X9_element rfl rfl rfl (by decide +kernel) ⟨by decide, by decide⟩) hK hG hA hk1 (cell_9 hq2) rfl rfl hl.1 rfl (Nat.le_of_ble_eq_true rfl) ⟨Nat.le_refl _, Nat.le_refl _⟩ dX9_sizeElements_4 (fun r_9 S3 H locs hp hs_S3 hG => ?_)
  obtain ⟨rfl, h⟩ := hp
  have h := h hs_S3
  refine W.eq (g2 := F0 m 7 ls []) rfl ?_
  have hsh := hs_S3.tr hsh
  have hk5 := hs_S3.lt hk1
  have hq6 := hs_S3.kd hq2
  refine lv_aload_n hx hb dX9_sizeElements_7 rfl (lv_at hl 0 rfl) ?_
  refine lv_sipush (v := 400) hx hb dX9_sizeElements_8 (by decide) ?_
  refine r_callV (za := za) (k := k0) (ci := 9) (C := RX9) (T := TX9) (N := 36) (As := [vI 400]) (rest := []) (tX9_element l S3 k0 400 _ h) ⟨hx, hb, hml, hown, hts⟩ (cwV 1 hts gX9_sizeElements_X9_element rfl rfl rfl (by decide +kernel) ⟨by decide, by decide⟩) hK hG hA hk5 (cell_9 hq6) rfl rfl hl.1 rfl (Nat.le_of_ble_eq_true rfl) ⟨Nat.le_refl _, Nat.le_refl _⟩ dX9_sizeElements_11 (fun r_9 S7 H locs hp hs_S7 hG => ?_)
  obtain ⟨rfl, h⟩ := hp
  have h := h hs_S7
  refine W.eq (g2 := F0 m 14 ls []) rfl ?_
  have hsh := hs_S7.tr hsh
  have hk9 := hs_S7.lt hk5
  have hq10 := hs_S7.kd hq6
  exact W.vret hx hb hr (fun t ht hW => r_end (r := none) hAe hG hsh ⟨rfl, h⟩ rfl ht) hG.2.2.2.2 dX9_sizeElements_14
def wX9_tookElements (S : GS) (k0 : Nat) (Q : GS → Prop) : Prop :=
  k0 < gN S ∧ gK S k0 = 9 ∧ wX9_element S k0 204 (fun S3 => gSh S3 S → wX9_element S3 k0 46 (fun S7 => gSh S7 S3 → wX9_element S7 k0 300 (fun S11 => gSh S11 S7 → wX9_literal S11 k0 28019 (fun S15 => gSh S15 S11 → Q S15))))
set_option maxHeartbeats 4000000 in
set_option maxRecDepth 100000 in
theorem tX9_tookElements (l : Launch) (S : GS) (k0 : Nat) (Q : GS → Prop) (h : wX9_tookElements S k0 Q) : CS l yX9_tookElements wsX9_tookElements 2 S [vR (some k0)] (fun r S9 => r = none ∧ Q S9) := by
  refine CS.ofW (cc := cX9_tookElements) (maxL := 1) (ret := none) RX9 (by decide) rfl rfl (fun _ _ => Nat.le_of_ble_eq_true rfl) ?_
  intro p e s m args below meth c D Y za ad A ls hAe hx hb hr hml hts hown hlocks hK hA hG hl
  obtain ⟨S0, hS0⟩ : ∃ z : GS, z = S := ⟨_, rfl⟩
  rw [← hS0] at hAe
  rw [← hS0]
  have lk_94 := hts (.constantLong RX9 94 (28019)) (by decide +kernel)
  have hl : lv_has ls 1 [(0, .ref (ad k0))] := hl
  have hsh : gSh S S0 := by rw [hS0]; exact gSh.rf S
  obtain ⟨H, eH⟩ : ∃ z : Heap, z = s.heap := ⟨_, rfl⟩
  obtain ⟨locs, eL⟩ : ∃ z : List Loc, z = [] := ⟨_, rfl⟩
  have hG : gS D Y ad A s.heap S H locs := by rw [eH, eL]; exact hG
  suffices hgoal : W p l e (rmD 2) s m args below meth c H locs 0 0 (MQ below (gE D Y za ad S0 s.heap.size (fun r S9 => r = none ∧ Q S9)) args s 0 0 A) (F0 m 0 ls []) by rw [eH, eL] at hgoal; exact hgoal
  unfold wX9_tookElements at h
  refine lv_aload_n hx hb dX9_tookElements_0 rfl (lv_at hl 0 rfl) ?_
  refine lv_sipush (v := 204) hx hb dX9_tookElements_1 (by decide) ?_
  obtain ⟨hk1, hq2, h⟩ := h
  refine r_callV (za := za) (k := k0) (ci := 9) (C := RX9) (T := TX9) (N := 36) (As := [vI 204]) (rest := []) (tX9_element l S k0 204 _ h) ⟨hx, hb, hml, hown, hts⟩ (cwV 1 hts gX9_tookElements_X9_element rfl rfl rfl (by decide +kernel) ⟨by decide, by decide⟩) hK hG hA hk1 (cell_9 hq2) rfl rfl hl.1 rfl (Nat.le_of_ble_eq_true rfl) ⟨Nat.le_refl _, Nat.le_refl _⟩ dX9_tookElements_4 (fun r_9 S3 H locs hp hs_S3 hG => ?_)
  obtain ⟨rfl, h⟩ := hp
  have h := h hs_S3
  refine W.eq (g2 := F0 m 7 ls []) rfl ?_
  have hsh := hs_S3.tr hsh
  have hk5 := hs_S3.lt hk1
  have hq6 := hs_S3.kd hq2
  refine lv_aload_n hx hb dX9_tookElements_7 rfl (lv_at hl 0 rfl) ?_
  refine lv_bipush (v := 46) hx hb dX9_tookElements_8 (by decide) ?_
  refine r_callV (za := za) (k := k0) (ci := 9) (C := RX9) (T := TX9) (N := 36) (As := [vI 46]) (rest := []) (tX9_element l S3 k0 46 _ h) ⟨hx, hb, hml, hown, hts⟩ (cwV 1 hts gX9_tookElements_X9_element rfl rfl rfl (by decide +kernel) ⟨by decide, by decide⟩) hK hG hA hk5 (cell_9 hq6) rfl rfl hl.1 rfl (Nat.le_of_ble_eq_true rfl) ⟨Nat.le_refl _, Nat.le_refl _⟩ dX9_tookElements_10 (fun r_9 S7 H locs hp hs_S7 hG => ?_)
  obtain ⟨rfl, h⟩ := hp
  have h := h hs_S7
  refine W.eq (g2 := F0 m 13 ls []) rfl ?_
  have hsh := hs_S7.tr hsh
  have hk9 := hs_S7.lt hk5
  have hq10 := hs_S7.kd hq6
  refine lv_aload_n hx hb dX9_tookElements_13 rfl (lv_at hl 0 rfl) ?_
  refine lv_sipush (v := 300) hx hb dX9_tookElements_14 (by decide) ?_
  refine r_callV (za := za) (k := k0) (ci := 9) (C := RX9) (T := TX9) (N := 36) (As := [vI 300]) (rest := []) (tX9_element l S7 k0 300 _ h) ⟨hx, hb, hml, hown, hts⟩ (cwV 1 hts gX9_tookElements_X9_element rfl rfl rfl (by decide +kernel) ⟨by decide, by decide⟩) hK hG hA hk9 (cell_9 hq10) rfl rfl hl.1 rfl (Nat.le_of_ble_eq_true rfl) ⟨Nat.le_refl _, Nat.le_refl _⟩ dX9_tookElements_17 (fun r_9 S11 H locs hp hs_S11 hG => ?_)
  obtain ⟨rfl, h⟩ := hp
  have h := h hs_S11
  refine W.eq (g2 := F0 m 20 ls []) rfl ?_
  have hsh := hs_S11.tr hsh
  have hk13 := hs_S11.lt hk9
  have hq14 := hs_S11.kd hq10
  refine lv_aload_n hx hb dX9_tookElements_20 rfl (lv_at hl 0 rfl) ?_
  refine lv_ldc2 hx hb hown lk_94 dX9_tookElements_21 ?_
  refine r_callV (za := za) (k := k0) (ci := 9) (C := RX9) (T := TX9) (N := 36) (As := [vL 28019]) (rest := []) (tX9_literal l S11 k0 28019 _ h) ⟨hx, hb, hml, hown, hts⟩ (cwV 1 hts gX9_tookElements_X9_literal rfl rfl rfl (by decide +kernel) ⟨by decide, by decide⟩) hK hG hA hk13 (cell_9 hq14) rfl rfl hl.1 rfl (Nat.le_of_ble_eq_true rfl) ⟨Nat.le_refl _, Nat.le_refl _⟩ dX9_tookElements_24 (fun r_9 S15 H locs hp hs_S15 hG => ?_)
  obtain ⟨rfl, h⟩ := hp
  have h := h hs_S15
  refine W.eq (g2 := F0 m 27 ls []) rfl ?_
  have hsh := hs_S15.tr hsh
  have hk17 := hs_S15.lt hk13
  have hq18 := hs_S15.kd hq14
  exact W.vret hx hb hr (fun t ht hW => r_end (r := none) hAe hG hsh ⟨rfl, h⟩ rfl ht) hG.2.2.2.2 dX9_tookElements_27
def wX9_pauseElements_67 (Q : GS → Prop) (k0 : Nat) (t0 : Nat) (t1 : Int64) (S : GS) : Prop :=
  t0 < gN S ∧ gK S t0 = 9 ∧ wX9_literal S t0 t1 (fun S3 => gSh S3 S → k0 < gN S3 ∧ gK S3 k0 = 9 ∧ wX9_element S3 k0 41 (fun S9 => gSh S9 S3 → Q S9))
def wX9_pauseElements_32 (Q : GS → Prop) (k0 : Nat) (x2 : Int32) (t0 : Nat) (t1 : Int64) (S : GS) : Prop :=
  t0 < gN S ∧ gK S t0 = 9 ∧ wX9_literal S t0 t1 (fun S17 => gSh S17 S → k0 < gN S17 ∧ gK S17 k0 = 9 ∧ wX9_literal S17 k0 8232 (fun S23 => gSh S23 S17 → (¬ x2 = 0 → (¬ x2 = 1 → wX9_pauseElements_67 Q k0 k0 1433625970 S23) ∧ (x2 = 1 → wX9_pauseElements_67 Q k0 k0 1298494561 S23)) ∧ (x2 = 0 → wX9_pauseElements_67 Q k0 k0 280991919971 S23)))
def wX9_pauseElements (S : GS) (k0 : Nat) (x1 : Int32) (x2 : Int32) (Q : GS → Prop) : Prop :=
  k0 < gN S ∧ gK S k0 = 9 ∧ wX9_literal S k0 88379512546592 (fun S31 => gSh S31 S → (¬ x1 = 0 → (¬ x1 = 1 → wX9_pauseElements_32 Q k0 x2 k0 1182100588 S31) ∧ (x1 = 1 → wX9_pauseElements_32 Q k0 x2 k0 332481979748 S31)) ∧ (x1 = 0 → wX9_pauseElements_32 Q k0 x2 k0 384122056295 S31))
set_option maxHeartbeats 4000000 in
set_option maxRecDepth 100000 in
theorem tX9_pauseElements (l : Launch) (S : GS) (k0 : Nat) (x1 : Int32) (x2 : Int32) (Q : GS → Prop) (h : wX9_pauseElements S k0 x1 x2 Q) : CS l yX9_pauseElements wsX9_pauseElements 2 S [vR (some k0), vI x1, vI x2] (fun r S9 => r = none ∧ Q S9) := by
  refine CS.ofW (cc := cX9_pauseElements) (maxL := 3) (ret := none) RX9 (by decide) rfl rfl (fun _ _ => Nat.le_of_ble_eq_true rfl) ?_
  intro p e s m args below meth c D Y za ad A ls hAe hx hb hr hml hts hown hlocks hK hA hG hl
  obtain ⟨S0, hS0⟩ : ∃ z : GS, z = S := ⟨_, rfl⟩
  rw [← hS0] at hAe
  rw [← hS0]
  have lk_100 := hts (.constantLong RX9 100 (88379512546592)) (by decide +kernel)
  have lk_102 := hts (.constantLong RX9 102 (384122056295)) (by decide +kernel)
  have lk_104 := hts (.constantLong RX9 104 (332481979748)) (by decide +kernel)
  have lk_106 := hts (.constantLong RX9 106 (1182100588)) (by decide +kernel)
  have lk_108 := hts (.constantLong RX9 108 (8232)) (by decide +kernel)
  have lk_110 := hts (.constantLong RX9 110 (280991919971)) (by decide +kernel)
  have lk_112 := hts (.constantLong RX9 112 (1298494561)) (by decide +kernel)
  have lk_114 := hts (.constantLong RX9 114 (1433625970)) (by decide +kernel)
  have b_67 : ∀  (t0 : Nat) (t1 : Int64) (S : GS) (H : Heap) (locs : List Loc) (ls : Array Slot), wX9_pauseElements_67 Q k0 t0 t1 S → gSh S S0 → gS D Y ad A s.heap S H locs → lv_has ls 3 [(0, .ref (ad k0))] → W p l e (rmD 2) s m args below meth c H locs 0 0 (MQ below (gE D Y za ad S0 s.heap.size (fun r S9 => r = none ∧ Q S9)) args s 0 0 A) (F0 m 67 ls [.long t1, .ref (ad t0)]) := by
    intro  t0 t1 S H locs ls h hsh hG hl
    unfold wX9_pauseElements_67 at h
    obtain ⟨hk1, hq2, h⟩ := h
    refine r_callV (za := za) (k := t0) (ci := 9) (C := RX9) (T := TX9) (N := 36) (As := [vL t1]) (rest := []) (tX9_literal l S t0 t1 _ h) ⟨hx, hb, hml, hown, hts⟩ (cwV 1 hts gX9_pauseElements_X9_literal rfl rfl rfl (by decide +kernel) ⟨by decide, by decide⟩) hK hG hA hk1 (cell_9 hq2) rfl rfl hl.1 rfl (Nat.le_of_ble_eq_true rfl) ⟨Nat.le_refl _, Nat.le_refl _⟩ dX9_pauseElements_67 (fun r_9 S3 H locs hp hs_S3 hG => ?_)
    obtain ⟨rfl, h⟩ := hp
    have h := h hs_S3
    refine W.eq (g2 := F0 m 70 ls []) rfl ?_
    have hsh := hs_S3.tr hsh
    have hk5 := hs_S3.lt hk1
    have hq6 := hs_S3.kd hq2
    refine lv_aload_n hx hb dX9_pauseElements_70 rfl (lv_at hl 0 rfl) ?_
    refine lv_bipush (v := 41) hx hb dX9_pauseElements_71 (by decide) ?_
    obtain ⟨hk7, hq8, h⟩ := h
    refine r_callV (za := za) (k := k0) (ci := 9) (C := RX9) (T := TX9) (N := 36) (As := [vI 41]) (rest := []) (tX9_element l S3 k0 41 _ h) ⟨hx, hb, hml, hown, hts⟩ (cwV 1 hts gX9_pauseElements_X9_element rfl rfl rfl (by decide +kernel) ⟨by decide, by decide⟩) hK hG hA hk7 (cell_9 hq8) rfl rfl hl.1 rfl (Nat.le_of_ble_eq_true rfl) ⟨Nat.le_refl _, Nat.le_refl _⟩ dX9_pauseElements_73 (fun r_9 S9 H locs hp hs_S9 hG => ?_)
    obtain ⟨rfl, h⟩ := hp
    have h := h hs_S9
    refine W.eq (g2 := F0 m 76 ls []) rfl ?_
    have hsh := hs_S9.tr hsh
    have hk11 := hs_S9.lt hk5
    have hq12 := hs_S9.kd hq6
    have hk13 := hs_S9.lt hk7
    have hq14 := hs_S9.kd hq8
    exact W.vret hx hb hr (fun t ht hW => r_end (r := none) hAe hG hsh ⟨rfl, h⟩ rfl ht) hG.2.2.2.2 dX9_pauseElements_76
  have b_32 : ∀  (x2 : Int32) (t0 : Nat) (t1 : Int64) (S : GS) (H : Heap) (locs : List Loc) (ls : Array Slot), wX9_pauseElements_32 Q k0 x2 t0 t1 S → gSh S S0 → gS D Y ad A s.heap S H locs → lv_has ls 3 [(0, .ref (ad k0)), (2, .int x2)] → W p l e (rmD 2) s m args below meth c H locs 0 0 (MQ below (gE D Y za ad S0 s.heap.size (fun r S9 => r = none ∧ Q S9)) args s 0 0 A) (F0 m 32 ls [.long t1, .ref (ad t0)]) := by
    intro  x2 t0 t1 S H locs ls h hsh hG hl
    unfold wX9_pauseElements_32 at h
    obtain ⟨hk15, hq16, h⟩ := h
    refine r_callV (za := za) (k := t0) (ci := 9) (C := RX9) (T := TX9) (N := 36) (As := [vL t1]) (rest := []) (tX9_literal l S t0 t1 _ h) ⟨hx, hb, hml, hown, hts⟩ (cwV 1 hts gX9_pauseElements_X9_literal rfl rfl rfl (by decide +kernel) ⟨by decide, by decide⟩) hK hG hA hk15 (cell_9 hq16) rfl rfl hl.1 rfl (Nat.le_of_ble_eq_true rfl) ⟨Nat.le_refl _, Nat.le_refl _⟩ dX9_pauseElements_32 (fun r_9 S17 H locs hp hs_S17 hG => ?_)
    obtain ⟨rfl, h⟩ := hp
    have h := h hs_S17
    refine W.eq (g2 := F0 m 35 ls []) rfl ?_
    have hsh := hs_S17.tr hsh
    have hk19 := hs_S17.lt hk15
    have hq20 := hs_S17.kd hq16
    refine lv_aload_n hx hb dX9_pauseElements_35 rfl (lv_at hl 0 rfl) ?_
    refine lv_ldc2 hx hb hown lk_108 dX9_pauseElements_36 ?_
    obtain ⟨hk21, hq22, h⟩ := h
    refine r_callV (za := za) (k := k0) (ci := 9) (C := RX9) (T := TX9) (N := 36) (As := [vL 8232]) (rest := []) (tX9_literal l S17 k0 8232 _ h) ⟨hx, hb, hml, hown, hts⟩ (cwV 1 hts gX9_pauseElements_X9_literal rfl rfl rfl (by decide +kernel) ⟨by decide, by decide⟩) hK hG hA hk21 (cell_9 hq22) rfl rfl hl.1 rfl (Nat.le_of_ble_eq_true rfl) ⟨Nat.le_refl _, Nat.le_refl _⟩ dX9_pauseElements_39 (fun r_9 S23 H locs hp hs_S23 hG => ?_)
    obtain ⟨rfl, h⟩ := hp
    have h := h hs_S23
    refine W.eq (g2 := F0 m 42 ls []) rfl ?_
    have hsh := hs_S23.tr hsh
    have hk25 := hs_S23.lt hk19
    have hq26 := hs_S23.kd hq20
    have hk27 := hs_S23.lt hk21
    have hq28 := hs_S23.kd hq22
    refine lv_aload_n hx hb dX9_pauseElements_42 rfl (lv_at hl 0 rfl) ?_
    refine lv_iload_n hx hb dX9_pauseElements_43 rfl (lv_at hl 1 rfl) ?_
    refine lv_if_ne (tgt := 53) hx hb dX9_pauseElements_44 (by decide) (fun c_44 => ?_) (fun c_44 => ?_)
    · have h := h.1 c_44
      refine lv_iload_n hx hb dX9_pauseElements_53 rfl (lv_at hl 1 rfl) ?_
      refine lv_iconst (v := 1) hx hb dX9_pauseElements_54 (by decide) ?_
      refine lv_icmp_ne (tgt := 64) hx hb dX9_pauseElements_55 (by decide) (fun c_55 => ?_) (fun c_55 => ?_)
      · have h := h.1 c_55
        refine lv_ldc2 hx hb hown lk_114 dX9_pauseElements_64 ?_
        exact b_67 k0 1433625970 S23 H locs ls h hsh hG (lv_sub hl [0] rfl)
      · have h := h.2 c_55
        refine lv_ldc2 hx hb hown lk_112 dX9_pauseElements_58 ?_
        refine lv_goto (tgt := 67) hx hb dX9_pauseElements_61 (by decide) ?_
        exact b_67 k0 1298494561 S23 H locs ls h hsh hG (lv_sub hl [0] rfl)
    · have h := h.2 c_44
      refine lv_ldc2 hx hb hown lk_110 dX9_pauseElements_47 ?_
      refine lv_goto (tgt := 67) hx hb dX9_pauseElements_50 (by decide) ?_
      exact b_67 k0 280991919971 S23 H locs ls h hsh hG (lv_sub hl [0] rfl)
  have hl : lv_has ls 3 [(0, .ref (ad k0)), (1, .int x1), (2, .int x2)] := hl
  have hsh : gSh S S0 := by rw [hS0]; exact gSh.rf S
  obtain ⟨H, eH⟩ : ∃ z : Heap, z = s.heap := ⟨_, rfl⟩
  obtain ⟨locs, eL⟩ : ∃ z : List Loc, z = [] := ⟨_, rfl⟩
  have hG : gS D Y ad A s.heap S H locs := by rw [eH, eL]; exact hG
  suffices hgoal : W p l e (rmD 2) s m args below meth c H locs 0 0 (MQ below (gE D Y za ad S0 s.heap.size (fun r S9 => r = none ∧ Q S9)) args s 0 0 A) (F0 m 0 ls []) by rw [eH, eL] at hgoal; exact hgoal
  unfold wX9_pauseElements at h
  refine lv_aload_n hx hb dX9_pauseElements_0 rfl (lv_at hl 0 rfl) ?_
  refine lv_ldc2 hx hb hown lk_100 dX9_pauseElements_1 ?_
  obtain ⟨hk29, hq30, h⟩ := h
  refine r_callV (za := za) (k := k0) (ci := 9) (C := RX9) (T := TX9) (N := 36) (As := [vL 88379512546592]) (rest := []) (tX9_literal l S k0 88379512546592 _ h) ⟨hx, hb, hml, hown, hts⟩ (cwV 1 hts gX9_pauseElements_X9_literal rfl rfl rfl (by decide +kernel) ⟨by decide, by decide⟩) hK hG hA hk29 (cell_9 hq30) rfl rfl hl.1 rfl (Nat.le_of_ble_eq_true rfl) ⟨Nat.le_refl _, Nat.le_refl _⟩ dX9_pauseElements_4 (fun r_9 S31 H locs hp hs_S31 hG => ?_)
  obtain ⟨rfl, h⟩ := hp
  have h := h hs_S31
  refine W.eq (g2 := F0 m 7 ls []) rfl ?_
  have hsh := hs_S31.tr hsh
  have hk33 := hs_S31.lt hk29
  have hq34 := hs_S31.kd hq30
  refine lv_aload_n hx hb dX9_pauseElements_7 rfl (lv_at hl 0 rfl) ?_
  refine lv_iload_n hx hb dX9_pauseElements_8 rfl (lv_at hl 1 rfl) ?_
  refine lv_if_ne (tgt := 18) hx hb dX9_pauseElements_9 (by decide) (fun c_9 => ?_) (fun c_9 => ?_)
  · have h := h.1 c_9
    refine lv_iload_n hx hb dX9_pauseElements_18 rfl (lv_at hl 1 rfl) ?_
    refine lv_iconst (v := 1) hx hb dX9_pauseElements_19 (by decide) ?_
    refine lv_icmp_ne (tgt := 29) hx hb dX9_pauseElements_20 (by decide) (fun c_20 => ?_) (fun c_20 => ?_)
    · have h := h.1 c_20
      refine lv_ldc2 hx hb hown lk_106 dX9_pauseElements_29 ?_
      exact b_32 x2 k0 1182100588 S31 H locs ls h hsh hG (lv_sub hl [0, 2] rfl)
    · have h := h.2 c_20
      refine lv_ldc2 hx hb hown lk_104 dX9_pauseElements_23 ?_
      refine lv_goto (tgt := 32) hx hb dX9_pauseElements_26 (by decide) ?_
      exact b_32 x2 k0 332481979748 S31 H locs ls h hsh hG (lv_sub hl [0, 2] rfl)
  · have h := h.2 c_9
    refine lv_ldc2 hx hb hown lk_102 dX9_pauseElements_12 ?_
    refine lv_goto (tgt := 32) hx hb dX9_pauseElements_15 (by decide) ?_
    exact b_32 x2 k0 384122056295 S31 H locs ls h hsh hG (lv_sub hl [0, 2] rfl)
def wX9_arrow (S : GS) (k0 : Nat) (Q : GS → Prop) : Prop :=
  k0 < gN S ∧ gK S k0 = 9 ∧ wX9_sizeElements S k0  (fun S3 => gSh S3 S → wX9_literal S3 k0 11582 (fun S7 => gSh S7 S3 → wX9_sizeElements S7 k0  (fun S11 => gSh S11 S7 → Q S11)))
set_option maxHeartbeats 4000000 in
set_option maxRecDepth 100000 in
theorem tX9_arrow (l : Launch) (S : GS) (k0 : Nat) (Q : GS → Prop) (h : wX9_arrow S k0 Q) : CS l yX9_arrow wsX9_arrow 2 S [vR (some k0)] (fun r S9 => r = none ∧ Q S9) := by
  refine CS.ofW (cc := cX9_arrow) (maxL := 1) (ret := none) RX9 (by decide) rfl rfl (fun _ _ => Nat.le_of_ble_eq_true rfl) ?_
  intro p e s m args below meth c D Y za ad A ls hAe hx hb hr hml hts hown hlocks hK hA hG hl
  obtain ⟨S0, hS0⟩ : ∃ z : GS, z = S := ⟨_, rfl⟩
  rw [← hS0] at hAe
  rw [← hS0]
  have lk_119 := hts (.constantLong RX9 119 (11582)) (by decide +kernel)
  have hl : lv_has ls 1 [(0, .ref (ad k0))] := hl
  have hsh : gSh S S0 := by rw [hS0]; exact gSh.rf S
  obtain ⟨H, eH⟩ : ∃ z : Heap, z = s.heap := ⟨_, rfl⟩
  obtain ⟨locs, eL⟩ : ∃ z : List Loc, z = [] := ⟨_, rfl⟩
  have hG : gS D Y ad A s.heap S H locs := by rw [eH, eL]; exact hG
  suffices hgoal : W p l e (rmD 2) s m args below meth c H locs 0 0 (MQ below (gE D Y za ad S0 s.heap.size (fun r S9 => r = none ∧ Q S9)) args s 0 0 A) (F0 m 0 ls []) by rw [eH, eL] at hgoal; exact hgoal
  unfold wX9_arrow at h
  refine lv_aload_n hx hb dX9_arrow_0 rfl (lv_at hl 0 rfl) ?_
  obtain ⟨hk1, hq2, h⟩ := h
  refine r_callV (za := za) (k := k0) (ci := 9) (C := RX9) (T := TX9) (N := 36) (As := []) (rest := []) (tX9_sizeElements l S k0  _ h) ⟨hx, hb, hml, hown, hts⟩ (cwV 0 hts gX9_arrow_X9_sizeElements rfl rfl rfl (by decide +kernel) ⟨by decide, by decide⟩) hK hG hA hk1 (cell_9 hq2) rfl rfl hl.1 rfl (Nat.le_of_ble_eq_true rfl) ⟨Nat.le_refl _, Nat.le_refl _⟩ dX9_arrow_1 (fun r_9 S3 H locs hp hs_S3 hG => ?_)
  obtain ⟨rfl, h⟩ := hp
  have h := h hs_S3
  refine W.eq (g2 := F0 m 4 ls []) rfl ?_
  have hsh := hs_S3.tr hsh
  have hk5 := hs_S3.lt hk1
  have hq6 := hs_S3.kd hq2
  refine lv_aload_n hx hb dX9_arrow_4 rfl (lv_at hl 0 rfl) ?_
  refine lv_ldc2 hx hb hown lk_119 dX9_arrow_5 ?_
  refine r_callV (za := za) (k := k0) (ci := 9) (C := RX9) (T := TX9) (N := 36) (As := [vL 11582]) (rest := []) (tX9_literal l S3 k0 11582 _ h) ⟨hx, hb, hml, hown, hts⟩ (cwV 1 hts gX9_arrow_X9_literal rfl rfl rfl (by decide +kernel) ⟨by decide, by decide⟩) hK hG hA hk5 (cell_9 hq6) rfl rfl hl.1 rfl (Nat.le_of_ble_eq_true rfl) ⟨Nat.le_refl _, Nat.le_refl _⟩ dX9_arrow_8 (fun r_9 S7 H locs hp hs_S7 hG => ?_)
  obtain ⟨rfl, h⟩ := hp
  have h := h hs_S7
  refine W.eq (g2 := F0 m 11 ls []) rfl ?_
  have hsh := hs_S7.tr hsh
  have hk9 := hs_S7.lt hk5
  have hq10 := hs_S7.kd hq6
  refine lv_aload_n hx hb dX9_arrow_11 rfl (lv_at hl 0 rfl) ?_
  refine r_callV (za := za) (k := k0) (ci := 9) (C := RX9) (T := TX9) (N := 36) (As := []) (rest := []) (tX9_sizeElements l S7 k0  _ h) ⟨hx, hb, hml, hown, hts⟩ (cwV 0 hts gX9_arrow_X9_sizeElements rfl rfl rfl (by decide +kernel) ⟨by decide, by decide⟩) hK hG hA hk9 (cell_9 hq10) rfl rfl hl.1 rfl (Nat.le_of_ble_eq_true rfl) ⟨Nat.le_refl _, Nat.le_refl _⟩ dX9_arrow_12 (fun r_9 S11 H locs hp hs_S11 hG => ?_)
  obtain ⟨rfl, h⟩ := hp
  have h := h hs_S11
  refine W.eq (g2 := F0 m 15 ls []) rfl ?_
  have hsh := hs_S11.tr hsh
  have hk13 := hs_S11.lt hk9
  have hq14 := hs_S11.kd hq10
  exact W.vret hx hb hr (fun t ht hW => r_end (r := none) hAe hG hsh ⟨rfl, h⟩ rfl ht) hG.2.2.2.2 dX9_arrow_15
def wX9_makeMould_177 (Q : GS → Prop) (k0 : Nat)  (S : GS) : Prop :=
  Q S
def wX9_makeMould_164 (Q : GS → Prop) (k0 : Nat) (x1 : Int32) (S : GS) : Prop :=
  (¬ x1 = 6 → wX9_makeMould_177 Q k0  S) ∧ (x1 = 6 → k0 < gN S ∧ gK S k0 = 9 ∧ wX9_literal S k0 35465196434036 (fun S3 => gSh S3 S → wX9_makeMould_177 Q k0  S3))
def wX9_makeMould_149 (Q : GS → Prop) (k0 : Nat) (x1 : Int32) (S : GS) : Prop :=
  (¬ x1 = 5 → wX9_makeMould_164 Q k0 x1 S) ∧ (x1 = 5 → k0 < gN S ∧ gK S k0 = 9 ∧ wX9_element S k0 32 (fun S9 => gSh S9 S → wX9_tookElements S9 k0  (fun S13 => gSh S13 S9 → wX9_makeMould_164 Q k0 x1 S13)))
def wX9_makeMould_137 (Q : GS → Prop) (k0 : Nat) (x1 : Int32) (S : GS) : Prop :=
  (x1 < 4 → wX9_makeMould_149 Q k0 x1 S) ∧ (¬ x1 < 4 → k0 < gN S ∧ gK S k0 = 9 ∧ wX9_literal S k0 1298231915 (fun S19 => gSh S19 S → wX9_makeMould_149 Q k0 x1 S19))
def wX9_makeMould_133 (Q : GS → Prop) (k0 : Nat) (x1 : Int32) (S : GS) : Prop :=
  k0 < gN S ∧ gK S k0 = 9 ∧ wX9_arrow S k0  (fun S25 => gSh S25 S → wX9_makeMould_137 Q k0 x1 S25)
def wX9_makeMould_123 (Q : GS → Prop) (k0 : Nat) (x1 : Int32) (S : GS) : Prop :=
  (x1 = 2 → wX9_makeMould_133 Q k0 x1 S) ∧ (¬ x1 = 2 → (¬ x1 = 3 → wX9_makeMould_137 Q k0 x1 S) ∧ (x1 = 3 → wX9_makeMould_133 Q k0 x1 S))
def wX9_makeMould_111 (Q : GS → Prop) (k0 : Nat) (x1 : Int32) (S : GS) : Prop :=
  (¬ x1 = 3 → wX9_makeMould_123 Q k0 x1 S) ∧ (x1 = 3 → k0 < gN S ∧ gK S k0 = 9 ∧ wX9_literal S k0 1332503584 (fun S31 => gSh S31 S → wX9_makeMould_123 Q k0 x1 S31))
def wX9_makeMould_99 (Q : GS → Prop) (k0 : Nat) (x1 : Int32) (S : GS) : Prop :=
  (¬ x1 = 2 → wX9_makeMould_111 Q k0 x1 S) ∧ (x1 = 2 → k0 < gN S ∧ gK S k0 = 9 ∧ wX9_literal S k0 298037112352 (fun S37 => gSh S37 S → wX9_makeMould_111 Q k0 x1 S37))
def wX9_makeMould_63 (Q : GS → Prop) (k0 : Nat) (x1 : Int32) (S : GS) : Prop :=
  (¬ x1 = 1 → wX9_makeMould_99 Q k0 x1 S) ∧ (x1 = 1 → k0 < gN S ∧ gK S k0 = 9 ∧ wX9_element S k0 32 (fun S43 => gSh S43 S → wX9_arrow S43 k0  (fun S47 => gSh S47 S43 → wX9_element S47 k0 40 (fun S51 => gSh S51 S47 → wX9_sizeElements S51 k0  (fun S55 => gSh S55 S51 → wX9_literal S55 k0 10528 (fun S59 => gSh S59 S55 → wX9_tookElements S59 k0  (fun S63 => gSh S63 S59 → wX9_makeMould_99 Q k0 x1 S63)))))))
def wX9_makeMould (S : GS) (k0 : Nat) (x1 : Int32) (x2 : Int32) (x3 : Int32) (Q : GS → Prop) : Prop :=
  k0 < gN S ∧ gK S k0 = 9 ∧ ∀ S69 : GS, S69 = sX S k0 3 0 → wX9_element S69 k0 91 (fun S72 => gSh S72 S69 → wX9_element S72 k0 205 (fun S76 => gSh S76 S72 → wX9_element S76 k0 46 (fun S80 => gSh S80 S76 → wX9_element S80 k0 300 (fun S84 => gSh S84 S80 → wX9_literal S84 k0 495486190376 (fun S88 => gSh S88 S84 → wX9_element S88 k0 203 (fun S92 => gSh S92 S88 → wX9_literal S92 k0 10528 (fun S96 => gSh S96 S92 → ((1 : Int32) < x1 → wX9_makeMould_63 Q k0 x1 S96) ∧ (¬ (1 : Int32) < x1 → wX9_pauseElements S96 k0 x2 x3 (fun S100 => gSh S100 S96 → wX9_makeMould_63 Q k0 x1 S100)))))))))
set_option maxHeartbeats 4000000 in
set_option maxRecDepth 100000 in
theorem tX9_makeMould (l : Launch) (S : GS) (k0 : Nat) (x1 : Int32) (x2 : Int32) (x3 : Int32) (Q : GS → Prop) (h : wX9_makeMould S k0 x1 x2 x3 Q) : CS l yX9_makeMould wsX9_makeMould 3 S [vR (some k0), vI x1, vI x2, vI x3] (fun r S9 => r = none ∧ Q S9) := by
  refine CS.ofW (cc := cX9_makeMould) (maxL := 4) (ret := none) RX9 (by decide) rfl rfl (fun _ _ => Nat.le_of_ble_eq_true rfl) ?_
  intro p e s m args below meth c D Y za ad A ls hAe hx hb hr hml hts hown hlocks hK hA hG hl
  obtain ⟨S0, hS0⟩ : ∃ z : GS, z = S := ⟨_, rfl⟩
  rw [← hS0] at hAe
  rw [← hS0]
  have hin9 : ∀ w ∈ wsX90, w ∈ wsX9_makeMould := by decide +kernel
  have lk_87 := hts (.fieldLink RX9 87 "PauseLogModel" "mouldLong" "I") (by decide +kernel)
  have lk_121 := hts (.constantLong RX9 121 (495486190376)) (by decide +kernel)
  have lk_123 := hts (.constantLong RX9 123 (10528)) (by decide +kernel)
  have lk_135 := hts (.constantLong RX9 135 (298037112352)) (by decide +kernel)
  have lk_137 := hts (.constantLong RX9 137 (1332503584)) (by decide +kernel)
  have lk_139 := hts (.constantLong RX9 139 (1298231915)) (by decide +kernel)
  have lk_141 := hts (.constantLong RX9 141 (35465196434036)) (by decide +kernel)
  have b_177 : ∀   (S : GS) (H : Heap) (locs : List Loc) (ls : Array Slot), wX9_makeMould_177 Q k0  S → gSh S S0 → gS D Y ad A s.heap S H locs → lv_has ls 4 [] → W p l e (rmD 3) s m args below meth c H locs 0 0 (MQ below (gE D Y za ad S0 s.heap.size (fun r S9 => r = none ∧ Q S9)) args s 0 0 A) (F0 m 177 ls []) := by
    intro   S H locs ls h hsh hG hl
    unfold wX9_makeMould_177 at h
    exact W.vret hx hb hr (fun t ht hW => r_end (r := none) hAe hG hsh ⟨rfl, h⟩ rfl ht) hG.2.2.2.2 dX9_makeMould_177
  have b_164 : ∀  (x1 : Int32) (S : GS) (H : Heap) (locs : List Loc) (ls : Array Slot), wX9_makeMould_164 Q k0 x1 S → gSh S S0 → gS D Y ad A s.heap S H locs → lv_has ls 4 [(0, .ref (ad k0)), (1, .int x1)] → W p l e (rmD 3) s m args below meth c H locs 0 0 (MQ below (gE D Y za ad S0 s.heap.size (fun r S9 => r = none ∧ Q S9)) args s 0 0 A) (F0 m 164 ls []) := by
    intro  x1 S H locs ls h hsh hG hl
    unfold wX9_makeMould_164 at h
    refine lv_iload_n hx hb dX9_makeMould_164 rfl (lv_at hl 1 rfl) ?_
    refine lv_bipush (v := 6) hx hb dX9_makeMould_165 (by decide) ?_
    refine lv_icmp_ne (tgt := 177) hx hb dX9_makeMould_167 (by decide) (fun c_167 => ?_) (fun c_167 => ?_)
    · have h := h.1 c_167
      exact b_177  S H locs ls h hsh hG (lv_sub hl [] rfl)
    · have h := h.2 c_167
      refine lv_aload_n hx hb dX9_makeMould_170 rfl (lv_at hl 0 rfl) ?_
      refine lv_ldc2 hx hb hown lk_141 dX9_makeMould_171 ?_
      obtain ⟨hk1, hq2, h⟩ := h
      refine r_callV (za := za) (k := k0) (ci := 9) (C := RX9) (T := TX9) (N := 36) (As := [vL 35465196434036]) (rest := []) (tX9_literal l S k0 35465196434036 _ h) ⟨hx, hb, hml, hown, hts⟩ (cwV 1 hts gX9_makeMould_X9_literal rfl rfl rfl (by decide +kernel) ⟨by decide, by decide⟩) hK hG hA hk1 (cell_9 hq2) rfl rfl hl.1 rfl (Nat.le_of_ble_eq_true rfl) ⟨Nat.le_refl _, Nat.le_refl _⟩ dX9_makeMould_174 (fun r_9 S3 H locs hp hs_S3 hG => ?_)
      obtain ⟨rfl, h⟩ := hp
      have h := h hs_S3
      refine W.eq (g2 := F0 m 177 ls []) rfl ?_
      have hsh := hs_S3.tr hsh
      have hk5 := hs_S3.lt hk1
      have hq6 := hs_S3.kd hq2
      exact b_177  S3 H locs ls h hsh hG (lv_sub hl [] rfl)
  have b_149 : ∀  (x1 : Int32) (S : GS) (H : Heap) (locs : List Loc) (ls : Array Slot), wX9_makeMould_149 Q k0 x1 S → gSh S S0 → gS D Y ad A s.heap S H locs → lv_has ls 4 [(0, .ref (ad k0)), (1, .int x1)] → W p l e (rmD 3) s m args below meth c H locs 0 0 (MQ below (gE D Y za ad S0 s.heap.size (fun r S9 => r = none ∧ Q S9)) args s 0 0 A) (F0 m 149 ls []) := by
    intro  x1 S H locs ls h hsh hG hl
    unfold wX9_makeMould_149 at h
    refine lv_iload_n hx hb dX9_makeMould_149 rfl (lv_at hl 1 rfl) ?_
    refine lv_iconst (v := 5) hx hb dX9_makeMould_150 (by decide) ?_
    refine lv_icmp_ne (tgt := 164) hx hb dX9_makeMould_151 (by decide) (fun c_151 => ?_) (fun c_151 => ?_)
    · have h := h.1 c_151
      exact b_164 x1 S H locs ls h hsh hG (lv_sub hl [0, 1] rfl)
    · have h := h.2 c_151
      refine lv_aload_n hx hb dX9_makeMould_154 rfl (lv_at hl 0 rfl) ?_
      refine lv_bipush (v := 32) hx hb dX9_makeMould_155 (by decide) ?_
      obtain ⟨hk7, hq8, h⟩ := h
      refine r_callV (za := za) (k := k0) (ci := 9) (C := RX9) (T := TX9) (N := 36) (As := [vI 32]) (rest := []) (tX9_element l S k0 32 _ h) ⟨hx, hb, hml, hown, hts⟩ (cwV 1 hts gX9_makeMould_X9_element rfl rfl rfl (by decide +kernel) ⟨by decide, by decide⟩) hK hG hA hk7 (cell_9 hq8) rfl rfl hl.1 rfl (Nat.le_of_ble_eq_true rfl) ⟨Nat.le_refl _, Nat.le_refl _⟩ dX9_makeMould_157 (fun r_9 S9 H locs hp hs_S9 hG => ?_)
      obtain ⟨rfl, h⟩ := hp
      have h := h hs_S9
      refine W.eq (g2 := F0 m 160 ls []) rfl ?_
      have hsh := hs_S9.tr hsh
      have hk11 := hs_S9.lt hk7
      have hq12 := hs_S9.kd hq8
      refine lv_aload_n hx hb dX9_makeMould_160 rfl (lv_at hl 0 rfl) ?_
      refine r_callV (za := za) (k := k0) (ci := 9) (C := RX9) (T := TX9) (N := 36) (As := []) (rest := []) (tX9_tookElements l S9 k0  _ h) ⟨hx, hb, hml, hown, hts⟩ (cwV 0 hts gX9_makeMould_X9_tookElements rfl rfl rfl (by decide +kernel) ⟨by decide, by decide⟩) hK hG hA hk11 (cell_9 hq12) rfl rfl hl.1 rfl (Nat.le_of_ble_eq_true rfl) ⟨Nat.le_refl _, Nat.le_refl _⟩ dX9_makeMould_161 (fun r_9 S13 H locs hp hs_S13 hG => ?_)
      obtain ⟨rfl, h⟩ := hp
      have h := h hs_S13
      refine W.eq (g2 := F0 m 164 ls []) rfl ?_
      have hsh := hs_S13.tr hsh
      have hk15 := hs_S13.lt hk11
      have hq16 := hs_S13.kd hq12
      exact b_164 x1 S13 H locs ls h hsh hG (lv_sub hl [0, 1] rfl)
  have b_137 : ∀  (x1 : Int32) (S : GS) (H : Heap) (locs : List Loc) (ls : Array Slot), wX9_makeMould_137 Q k0 x1 S → gSh S S0 → gS D Y ad A s.heap S H locs → lv_has ls 4 [(0, .ref (ad k0)), (1, .int x1)] → W p l e (rmD 3) s m args below meth c H locs 0 0 (MQ below (gE D Y za ad S0 s.heap.size (fun r S9 => r = none ∧ Q S9)) args s 0 0 A) (F0 m 137 ls []) := by
    intro  x1 S H locs ls h hsh hG hl
    unfold wX9_makeMould_137 at h
    refine lv_iload_n hx hb dX9_makeMould_137 rfl (lv_at hl 1 rfl) ?_
    refine lv_iconst (v := 4) hx hb dX9_makeMould_138 (by decide) ?_
    refine lv_icmp_lt (tgt := 149) hx hb dX9_makeMould_139 (by decide) (fun c_139 => ?_) (fun c_139 => ?_)
    · have h := h.1 c_139
      exact b_149 x1 S H locs ls h hsh hG (lv_sub hl [0, 1] rfl)
    · have h := h.2 c_139
      refine lv_aload_n hx hb dX9_makeMould_142 rfl (lv_at hl 0 rfl) ?_
      refine lv_ldc2 hx hb hown lk_139 dX9_makeMould_143 ?_
      obtain ⟨hk17, hq18, h⟩ := h
      refine r_callV (za := za) (k := k0) (ci := 9) (C := RX9) (T := TX9) (N := 36) (As := [vL 1298231915]) (rest := []) (tX9_literal l S k0 1298231915 _ h) ⟨hx, hb, hml, hown, hts⟩ (cwV 1 hts gX9_makeMould_X9_literal rfl rfl rfl (by decide +kernel) ⟨by decide, by decide⟩) hK hG hA hk17 (cell_9 hq18) rfl rfl hl.1 rfl (Nat.le_of_ble_eq_true rfl) ⟨Nat.le_refl _, Nat.le_refl _⟩ dX9_makeMould_146 (fun r_9 S19 H locs hp hs_S19 hG => ?_)
      obtain ⟨rfl, h⟩ := hp
      have h := h hs_S19
      refine W.eq (g2 := F0 m 149 ls []) rfl ?_
      have hsh := hs_S19.tr hsh
      have hk21 := hs_S19.lt hk17
      have hq22 := hs_S19.kd hq18
      exact b_149 x1 S19 H locs ls h hsh hG (lv_sub hl [0, 1] rfl)
  have b_133 : ∀  (x1 : Int32) (S : GS) (H : Heap) (locs : List Loc) (ls : Array Slot), wX9_makeMould_133 Q k0 x1 S → gSh S S0 → gS D Y ad A s.heap S H locs → lv_has ls 4 [(0, .ref (ad k0)), (1, .int x1)] → W p l e (rmD 3) s m args below meth c H locs 0 0 (MQ below (gE D Y za ad S0 s.heap.size (fun r S9 => r = none ∧ Q S9)) args s 0 0 A) (F0 m 133 ls []) := by
    intro  x1 S H locs ls h hsh hG hl
    unfold wX9_makeMould_133 at h
    refine lv_aload_n hx hb dX9_makeMould_133 rfl (lv_at hl 0 rfl) ?_
    obtain ⟨hk23, hq24, h⟩ := h
    refine r_callV (za := za) (k := k0) (ci := 9) (C := RX9) (T := TX9) (N := 36) (As := []) (rest := []) (tX9_arrow l S k0  _ h) ⟨hx, hb, hml, hown, hts⟩ (cwV 0 hts gX9_makeMould_X9_arrow rfl rfl rfl (by decide +kernel) ⟨by decide, by decide⟩) hK hG hA hk23 (cell_9 hq24) rfl rfl hl.1 rfl (Nat.le_of_ble_eq_true rfl) ⟨Nat.le_refl _, Nat.le_refl _⟩ dX9_makeMould_134 (fun r_9 S25 H locs hp hs_S25 hG => ?_)
    obtain ⟨rfl, h⟩ := hp
    have h := h hs_S25
    refine W.eq (g2 := F0 m 137 ls []) rfl ?_
    have hsh := hs_S25.tr hsh
    have hk27 := hs_S25.lt hk23
    have hq28 := hs_S25.kd hq24
    exact b_137 x1 S25 H locs ls h hsh hG (lv_sub hl [0, 1] rfl)
  have b_123 : ∀  (x1 : Int32) (S : GS) (H : Heap) (locs : List Loc) (ls : Array Slot), wX9_makeMould_123 Q k0 x1 S → gSh S S0 → gS D Y ad A s.heap S H locs → lv_has ls 4 [(0, .ref (ad k0)), (1, .int x1)] → W p l e (rmD 3) s m args below meth c H locs 0 0 (MQ below (gE D Y za ad S0 s.heap.size (fun r S9 => r = none ∧ Q S9)) args s 0 0 A) (F0 m 123 ls []) := by
    intro  x1 S H locs ls h hsh hG hl
    unfold wX9_makeMould_123 at h
    refine lv_iload_n hx hb dX9_makeMould_123 rfl (lv_at hl 1 rfl) ?_
    refine lv_iconst (v := 2) hx hb dX9_makeMould_124 (by decide) ?_
    refine lv_icmp_eq (tgt := 133) hx hb dX9_makeMould_125 (by decide) (fun c_125 => ?_) (fun c_125 => ?_)
    · have h := h.1 c_125
      exact b_133 x1 S H locs ls h hsh hG (lv_sub hl [0, 1] rfl)
    · have h := h.2 c_125
      refine lv_iload_n hx hb dX9_makeMould_128 rfl (lv_at hl 1 rfl) ?_
      refine lv_iconst (v := 3) hx hb dX9_makeMould_129 (by decide) ?_
      refine lv_icmp_ne (tgt := 137) hx hb dX9_makeMould_130 (by decide) (fun c_130 => ?_) (fun c_130 => ?_)
      · have h := h.1 c_130
        exact b_137 x1 S H locs ls h hsh hG (lv_sub hl [0, 1] rfl)
      · have h := h.2 c_130
        exact b_133 x1 S H locs ls h hsh hG (lv_sub hl [0, 1] rfl)
  have b_111 : ∀  (x1 : Int32) (S : GS) (H : Heap) (locs : List Loc) (ls : Array Slot), wX9_makeMould_111 Q k0 x1 S → gSh S S0 → gS D Y ad A s.heap S H locs → lv_has ls 4 [(0, .ref (ad k0)), (1, .int x1)] → W p l e (rmD 3) s m args below meth c H locs 0 0 (MQ below (gE D Y za ad S0 s.heap.size (fun r S9 => r = none ∧ Q S9)) args s 0 0 A) (F0 m 111 ls []) := by
    intro  x1 S H locs ls h hsh hG hl
    unfold wX9_makeMould_111 at h
    refine lv_iload_n hx hb dX9_makeMould_111 rfl (lv_at hl 1 rfl) ?_
    refine lv_iconst (v := 3) hx hb dX9_makeMould_112 (by decide) ?_
    refine lv_icmp_ne (tgt := 123) hx hb dX9_makeMould_113 (by decide) (fun c_113 => ?_) (fun c_113 => ?_)
    · have h := h.1 c_113
      exact b_123 x1 S H locs ls h hsh hG (lv_sub hl [0, 1] rfl)
    · have h := h.2 c_113
      refine lv_aload_n hx hb dX9_makeMould_116 rfl (lv_at hl 0 rfl) ?_
      refine lv_ldc2 hx hb hown lk_137 dX9_makeMould_117 ?_
      obtain ⟨hk29, hq30, h⟩ := h
      refine r_callV (za := za) (k := k0) (ci := 9) (C := RX9) (T := TX9) (N := 36) (As := [vL 1332503584]) (rest := []) (tX9_literal l S k0 1332503584 _ h) ⟨hx, hb, hml, hown, hts⟩ (cwV 1 hts gX9_makeMould_X9_literal rfl rfl rfl (by decide +kernel) ⟨by decide, by decide⟩) hK hG hA hk29 (cell_9 hq30) rfl rfl hl.1 rfl (Nat.le_of_ble_eq_true rfl) ⟨Nat.le_refl _, Nat.le_refl _⟩ dX9_makeMould_120 (fun r_9 S31 H locs hp hs_S31 hG => ?_)
      obtain ⟨rfl, h⟩ := hp
      have h := h hs_S31
      refine W.eq (g2 := F0 m 123 ls []) rfl ?_
      have hsh := hs_S31.tr hsh
      have hk33 := hs_S31.lt hk29
      have hq34 := hs_S31.kd hq30
      exact b_123 x1 S31 H locs ls h hsh hG (lv_sub hl [0, 1] rfl)
  have b_99 : ∀  (x1 : Int32) (S : GS) (H : Heap) (locs : List Loc) (ls : Array Slot), wX9_makeMould_99 Q k0 x1 S → gSh S S0 → gS D Y ad A s.heap S H locs → lv_has ls 4 [(0, .ref (ad k0)), (1, .int x1)] → W p l e (rmD 3) s m args below meth c H locs 0 0 (MQ below (gE D Y za ad S0 s.heap.size (fun r S9 => r = none ∧ Q S9)) args s 0 0 A) (F0 m 99 ls []) := by
    intro  x1 S H locs ls h hsh hG hl
    unfold wX9_makeMould_99 at h
    refine lv_iload_n hx hb dX9_makeMould_99 rfl (lv_at hl 1 rfl) ?_
    refine lv_iconst (v := 2) hx hb dX9_makeMould_100 (by decide) ?_
    refine lv_icmp_ne (tgt := 111) hx hb dX9_makeMould_101 (by decide) (fun c_101 => ?_) (fun c_101 => ?_)
    · have h := h.1 c_101
      exact b_111 x1 S H locs ls h hsh hG (lv_sub hl [0, 1] rfl)
    · have h := h.2 c_101
      refine lv_aload_n hx hb dX9_makeMould_104 rfl (lv_at hl 0 rfl) ?_
      refine lv_ldc2 hx hb hown lk_135 dX9_makeMould_105 ?_
      obtain ⟨hk35, hq36, h⟩ := h
      refine r_callV (za := za) (k := k0) (ci := 9) (C := RX9) (T := TX9) (N := 36) (As := [vL 298037112352]) (rest := []) (tX9_literal l S k0 298037112352 _ h) ⟨hx, hb, hml, hown, hts⟩ (cwV 1 hts gX9_makeMould_X9_literal rfl rfl rfl (by decide +kernel) ⟨by decide, by decide⟩) hK hG hA hk35 (cell_9 hq36) rfl rfl hl.1 rfl (Nat.le_of_ble_eq_true rfl) ⟨Nat.le_refl _, Nat.le_refl _⟩ dX9_makeMould_108 (fun r_9 S37 H locs hp hs_S37 hG => ?_)
      obtain ⟨rfl, h⟩ := hp
      have h := h hs_S37
      refine W.eq (g2 := F0 m 111 ls []) rfl ?_
      have hsh := hs_S37.tr hsh
      have hk39 := hs_S37.lt hk35
      have hq40 := hs_S37.kd hq36
      exact b_111 x1 S37 H locs ls h hsh hG (lv_sub hl [0, 1] rfl)
  have b_63 : ∀  (x1 : Int32) (S : GS) (H : Heap) (locs : List Loc) (ls : Array Slot), wX9_makeMould_63 Q k0 x1 S → gSh S S0 → gS D Y ad A s.heap S H locs → lv_has ls 4 [(0, .ref (ad k0)), (1, .int x1)] → W p l e (rmD 3) s m args below meth c H locs 0 0 (MQ below (gE D Y za ad S0 s.heap.size (fun r S9 => r = none ∧ Q S9)) args s 0 0 A) (F0 m 63 ls []) := by
    intro  x1 S H locs ls h hsh hG hl
    unfold wX9_makeMould_63 at h
    refine lv_iload_n hx hb dX9_makeMould_63 rfl (lv_at hl 1 rfl) ?_
    refine lv_iconst (v := 1) hx hb dX9_makeMould_64 (by decide) ?_
    refine lv_icmp_ne (tgt := 99) hx hb dX9_makeMould_65 (by decide) (fun c_65 => ?_) (fun c_65 => ?_)
    · have h := h.1 c_65
      exact b_99 x1 S H locs ls h hsh hG (lv_sub hl [0, 1] rfl)
    · have h := h.2 c_65
      refine lv_aload_n hx hb dX9_makeMould_68 rfl (lv_at hl 0 rfl) ?_
      refine lv_bipush (v := 32) hx hb dX9_makeMould_69 (by decide) ?_
      obtain ⟨hk41, hq42, h⟩ := h
      refine r_callV (za := za) (k := k0) (ci := 9) (C := RX9) (T := TX9) (N := 36) (As := [vI 32]) (rest := []) (tX9_element l S k0 32 _ h) ⟨hx, hb, hml, hown, hts⟩ (cwV 1 hts gX9_makeMould_X9_element rfl rfl rfl (by decide +kernel) ⟨by decide, by decide⟩) hK hG hA hk41 (cell_9 hq42) rfl rfl hl.1 rfl (Nat.le_of_ble_eq_true rfl) ⟨Nat.le_refl _, Nat.le_refl _⟩ dX9_makeMould_71 (fun r_9 S43 H locs hp hs_S43 hG => ?_)
      obtain ⟨rfl, h⟩ := hp
      have h := h hs_S43
      refine W.eq (g2 := F0 m 74 ls []) rfl ?_
      have hsh := hs_S43.tr hsh
      have hk45 := hs_S43.lt hk41
      have hq46 := hs_S43.kd hq42
      refine lv_aload_n hx hb dX9_makeMould_74 rfl (lv_at hl 0 rfl) ?_
      refine r_callV (za := za) (k := k0) (ci := 9) (C := RX9) (T := TX9) (N := 36) (As := []) (rest := []) (tX9_arrow l S43 k0  _ h) ⟨hx, hb, hml, hown, hts⟩ (cwV 0 hts gX9_makeMould_X9_arrow rfl rfl rfl (by decide +kernel) ⟨by decide, by decide⟩) hK hG hA hk45 (cell_9 hq46) rfl rfl hl.1 rfl (Nat.le_of_ble_eq_true rfl) ⟨Nat.le_refl _, Nat.le_refl _⟩ dX9_makeMould_75 (fun r_9 S47 H locs hp hs_S47 hG => ?_)
      obtain ⟨rfl, h⟩ := hp
      have h := h hs_S47
      refine W.eq (g2 := F0 m 78 ls []) rfl ?_
      have hsh := hs_S47.tr hsh
      have hk49 := hs_S47.lt hk45
      have hq50 := hs_S47.kd hq46
      refine lv_aload_n hx hb dX9_makeMould_78 rfl (lv_at hl 0 rfl) ?_
      refine lv_bipush (v := 40) hx hb dX9_makeMould_79 (by decide) ?_
      refine r_callV (za := za) (k := k0) (ci := 9) (C := RX9) (T := TX9) (N := 36) (As := [vI 40]) (rest := []) (tX9_element l S47 k0 40 _ h) ⟨hx, hb, hml, hown, hts⟩ (cwV 1 hts gX9_makeMould_X9_element rfl rfl rfl (by decide +kernel) ⟨by decide, by decide⟩) hK hG hA hk49 (cell_9 hq50) rfl rfl hl.1 rfl (Nat.le_of_ble_eq_true rfl) ⟨Nat.le_refl _, Nat.le_refl _⟩ dX9_makeMould_81 (fun r_9 S51 H locs hp hs_S51 hG => ?_)
      obtain ⟨rfl, h⟩ := hp
      have h := h hs_S51
      refine W.eq (g2 := F0 m 84 ls []) rfl ?_
      have hsh := hs_S51.tr hsh
      have hk53 := hs_S51.lt hk49
      have hq54 := hs_S51.kd hq50
      refine lv_aload_n hx hb dX9_makeMould_84 rfl (lv_at hl 0 rfl) ?_
      refine r_callV (za := za) (k := k0) (ci := 9) (C := RX9) (T := TX9) (N := 36) (As := []) (rest := []) (tX9_sizeElements l S51 k0  _ h) ⟨hx, hb, hml, hown, hts⟩ (cwV 0 hts gX9_makeMould_X9_sizeElements rfl rfl rfl (by decide +kernel) ⟨by decide, by decide⟩) hK hG hA hk53 (cell_9 hq54) rfl rfl hl.1 rfl (Nat.le_of_ble_eq_true rfl) ⟨Nat.le_refl _, Nat.le_refl _⟩ dX9_makeMould_85 (fun r_9 S55 H locs hp hs_S55 hG => ?_)
      obtain ⟨rfl, h⟩ := hp
      have h := h hs_S55
      refine W.eq (g2 := F0 m 88 ls []) rfl ?_
      have hsh := hs_S55.tr hsh
      have hk57 := hs_S55.lt hk53
      have hq58 := hs_S55.kd hq54
      refine lv_aload_n hx hb dX9_makeMould_88 rfl (lv_at hl 0 rfl) ?_
      refine lv_ldc2 hx hb hown lk_123 dX9_makeMould_89 ?_
      refine r_callV (za := za) (k := k0) (ci := 9) (C := RX9) (T := TX9) (N := 36) (As := [vL 10528]) (rest := []) (tX9_literal l S55 k0 10528 _ h) ⟨hx, hb, hml, hown, hts⟩ (cwV 1 hts gX9_makeMould_X9_literal rfl rfl rfl (by decide +kernel) ⟨by decide, by decide⟩) hK hG hA hk57 (cell_9 hq58) rfl rfl hl.1 rfl (Nat.le_of_ble_eq_true rfl) ⟨Nat.le_refl _, Nat.le_refl _⟩ dX9_makeMould_92 (fun r_9 S59 H locs hp hs_S59 hG => ?_)
      obtain ⟨rfl, h⟩ := hp
      have h := h hs_S59
      refine W.eq (g2 := F0 m 95 ls []) rfl ?_
      have hsh := hs_S59.tr hsh
      have hk61 := hs_S59.lt hk57
      have hq62 := hs_S59.kd hq58
      refine lv_aload_n hx hb dX9_makeMould_95 rfl (lv_at hl 0 rfl) ?_
      refine r_callV (za := za) (k := k0) (ci := 9) (C := RX9) (T := TX9) (N := 36) (As := []) (rest := []) (tX9_tookElements l S59 k0  _ h) ⟨hx, hb, hml, hown, hts⟩ (cwV 0 hts gX9_makeMould_X9_tookElements rfl rfl rfl (by decide +kernel) ⟨by decide, by decide⟩) hK hG hA hk61 (cell_9 hq62) rfl rfl hl.1 rfl (Nat.le_of_ble_eq_true rfl) ⟨Nat.le_refl _, Nat.le_refl _⟩ dX9_makeMould_96 (fun r_9 S63 H locs hp hs_S63 hG => ?_)
      obtain ⟨rfl, h⟩ := hp
      have h := h hs_S63
      refine W.eq (g2 := F0 m 99 ls []) rfl ?_
      have hsh := hs_S63.tr hsh
      have hk65 := hs_S63.lt hk61
      have hq66 := hs_S63.kd hq62
      exact b_99 x1 S63 H locs ls h hsh hG (lv_sub hl [0, 1] rfl)
  have hl : lv_has ls 4 [(0, .ref (ad k0)), (1, .int x1), (2, .int x2), (3, .int x3)] := hl
  have hsh : gSh S S0 := by rw [hS0]; exact gSh.rf S
  obtain ⟨H, eH⟩ : ∃ z : Heap, z = s.heap := ⟨_, rfl⟩
  obtain ⟨locs, eL⟩ : ∃ z : List Loc, z = [] := ⟨_, rfl⟩
  have hG : gS D Y ad A s.heap S H locs := by rw [eH, eL]; exact hG
  suffices hgoal : W p l e (rmD 3) s m args below meth c H locs 0 0 (MQ below (gE D Y za ad S0 s.heap.size (fun r S9 => r = none ∧ Q S9)) args s 0 0 A) (F0 m 0 ls []) by rw [eH, eL] at hgoal; exact hgoal
  unfold wX9_makeMould at h
  refine lv_aload_n hx hb dX9_makeMould_0 rfl (lv_at hl 0 rfl) ?_
  refine lv_iconst (v := 0) hx hb dX9_makeMould_1 (by decide) ?_
  obtain ⟨hk67, hq68, h⟩ := h
  refine r_put (ci := 9) (C := RX9) (T := TX9) (N := 36) hx hb hts hin9 tyX9 tyX9_ok nmX9 hown hK hG hk67 (cell_9 hq68) rfl 3 (by decide) lk_87 (fun _ h9 => h9) rfl rfl rfl (Nat.le_of_ble_eq_true rfl) (S' := sX S k0 3 0) rfl (pu_9_3 hq68 0) dX9_makeMould_2 (fun H locs hG => ?_)
  obtain ⟨S69, eS_S69⟩ : ∃ z : GS, z = sX S k0 3 0 := ⟨_, rfl⟩
  have h := h S69 eS_S69
  rw [← eS_S69] at hG
  have hs_S69 : gSh S69 S := by rw [eS_S69]; exact gSh.x _ _ _ _
  have hsh := hs_S69.tr hsh
  have hk70 := hs_S69.lt hk67
  have hq71 := hs_S69.kd hq68
  refine lv_aload_n hx hb dX9_makeMould_5 rfl (lv_at hl 0 rfl) ?_
  refine lv_bipush (v := 91) hx hb dX9_makeMould_6 (by decide) ?_
  refine r_callV (za := za) (k := k0) (ci := 9) (C := RX9) (T := TX9) (N := 36) (As := [vI 91]) (rest := []) (tX9_element l S69 k0 91 _ h) ⟨hx, hb, hml, hown, hts⟩ (cwV 1 hts gX9_makeMould_X9_element rfl rfl rfl (by decide +kernel) ⟨by decide, by decide⟩) hK hG hA hk70 (cell_9 hq71) rfl rfl hl.1 rfl (Nat.le_of_ble_eq_true rfl) ⟨Nat.le_refl _, Nat.le_refl _⟩ dX9_makeMould_8 (fun r_9 S72 H locs hp hs_S72 hG => ?_)
  obtain ⟨rfl, h⟩ := hp
  have h := h hs_S72
  refine W.eq (g2 := F0 m 11 ls []) rfl ?_
  have hsh := hs_S72.tr hsh
  have hk74 := hs_S72.lt hk70
  have hq75 := hs_S72.kd hq71
  refine lv_aload_n hx hb dX9_makeMould_11 rfl (lv_at hl 0 rfl) ?_
  refine lv_sipush (v := 205) hx hb dX9_makeMould_12 (by decide) ?_
  refine r_callV (za := za) (k := k0) (ci := 9) (C := RX9) (T := TX9) (N := 36) (As := [vI 205]) (rest := []) (tX9_element l S72 k0 205 _ h) ⟨hx, hb, hml, hown, hts⟩ (cwV 1 hts gX9_makeMould_X9_element rfl rfl rfl (by decide +kernel) ⟨by decide, by decide⟩) hK hG hA hk74 (cell_9 hq75) rfl rfl hl.1 rfl (Nat.le_of_ble_eq_true rfl) ⟨Nat.le_refl _, Nat.le_refl _⟩ dX9_makeMould_15 (fun r_9 S76 H locs hp hs_S76 hG => ?_)
  obtain ⟨rfl, h⟩ := hp
  have h := h hs_S76
  refine W.eq (g2 := F0 m 18 ls []) rfl ?_
  have hsh := hs_S76.tr hsh
  have hk78 := hs_S76.lt hk74
  have hq79 := hs_S76.kd hq75
  refine lv_aload_n hx hb dX9_makeMould_18 rfl (lv_at hl 0 rfl) ?_
  refine lv_bipush (v := 46) hx hb dX9_makeMould_19 (by decide) ?_
  refine r_callV (za := za) (k := k0) (ci := 9) (C := RX9) (T := TX9) (N := 36) (As := [vI 46]) (rest := []) (tX9_element l S76 k0 46 _ h) ⟨hx, hb, hml, hown, hts⟩ (cwV 1 hts gX9_makeMould_X9_element rfl rfl rfl (by decide +kernel) ⟨by decide, by decide⟩) hK hG hA hk78 (cell_9 hq79) rfl rfl hl.1 rfl (Nat.le_of_ble_eq_true rfl) ⟨Nat.le_refl _, Nat.le_refl _⟩ dX9_makeMould_21 (fun r_9 S80 H locs hp hs_S80 hG => ?_)
  obtain ⟨rfl, h⟩ := hp
  have h := h hs_S80
  refine W.eq (g2 := F0 m 24 ls []) rfl ?_
  have hsh := hs_S80.tr hsh
  have hk82 := hs_S80.lt hk78
  have hq83 := hs_S80.kd hq79
  refine lv_aload_n hx hb dX9_makeMould_24 rfl (lv_at hl 0 rfl) ?_
  refine lv_sipush (v := 300) hx hb dX9_makeMould_25 (by decide) ?_
  refine r_callV (za := za) (k := k0) (ci := 9) (C := RX9) (T := TX9) (N := 36) (As := [vI 300]) (rest := []) (tX9_element l S80 k0 300 _ h) ⟨hx, hb, hml, hown, hts⟩ (cwV 1 hts gX9_makeMould_X9_element rfl rfl rfl (by decide +kernel) ⟨by decide, by decide⟩) hK hG hA hk82 (cell_9 hq83) rfl rfl hl.1 rfl (Nat.le_of_ble_eq_true rfl) ⟨Nat.le_refl _, Nat.le_refl _⟩ dX9_makeMould_28 (fun r_9 S84 H locs hp hs_S84 hG => ?_)
  obtain ⟨rfl, h⟩ := hp
  have h := h hs_S84
  refine W.eq (g2 := F0 m 31 ls []) rfl ?_
  have hsh := hs_S84.tr hsh
  have hk86 := hs_S84.lt hk82
  have hq87 := hs_S84.kd hq83
  refine lv_aload_n hx hb dX9_makeMould_31 rfl (lv_at hl 0 rfl) ?_
  refine lv_ldc2 hx hb hown lk_121 dX9_makeMould_32 ?_
  refine r_callV (za := za) (k := k0) (ci := 9) (C := RX9) (T := TX9) (N := 36) (As := [vL 495486190376]) (rest := []) (tX9_literal l S84 k0 495486190376 _ h) ⟨hx, hb, hml, hown, hts⟩ (cwV 1 hts gX9_makeMould_X9_literal rfl rfl rfl (by decide +kernel) ⟨by decide, by decide⟩) hK hG hA hk86 (cell_9 hq87) rfl rfl hl.1 rfl (Nat.le_of_ble_eq_true rfl) ⟨Nat.le_refl _, Nat.le_refl _⟩ dX9_makeMould_35 (fun r_9 S88 H locs hp hs_S88 hG => ?_)
  obtain ⟨rfl, h⟩ := hp
  have h := h hs_S88
  refine W.eq (g2 := F0 m 38 ls []) rfl ?_
  have hsh := hs_S88.tr hsh
  have hk90 := hs_S88.lt hk86
  have hq91 := hs_S88.kd hq87
  refine lv_aload_n hx hb dX9_makeMould_38 rfl (lv_at hl 0 rfl) ?_
  refine lv_sipush (v := 203) hx hb dX9_makeMould_39 (by decide) ?_
  refine r_callV (za := za) (k := k0) (ci := 9) (C := RX9) (T := TX9) (N := 36) (As := [vI 203]) (rest := []) (tX9_element l S88 k0 203 _ h) ⟨hx, hb, hml, hown, hts⟩ (cwV 1 hts gX9_makeMould_X9_element rfl rfl rfl (by decide +kernel) ⟨by decide, by decide⟩) hK hG hA hk90 (cell_9 hq91) rfl rfl hl.1 rfl (Nat.le_of_ble_eq_true rfl) ⟨Nat.le_refl _, Nat.le_refl _⟩ dX9_makeMould_42 (fun r_9 S92 H locs hp hs_S92 hG => ?_)
  obtain ⟨rfl, h⟩ := hp
  have h := h hs_S92
  refine W.eq (g2 := F0 m 45 ls []) rfl ?_
  have hsh := hs_S92.tr hsh
  have hk94 := hs_S92.lt hk90
  have hq95 := hs_S92.kd hq91
  refine lv_aload_n hx hb dX9_makeMould_45 rfl (lv_at hl 0 rfl) ?_
  refine lv_ldc2 hx hb hown lk_123 dX9_makeMould_46 ?_
  refine r_callV (za := za) (k := k0) (ci := 9) (C := RX9) (T := TX9) (N := 36) (As := [vL 10528]) (rest := []) (tX9_literal l S92 k0 10528 _ h) ⟨hx, hb, hml, hown, hts⟩ (cwV 1 hts gX9_makeMould_X9_literal rfl rfl rfl (by decide +kernel) ⟨by decide, by decide⟩) hK hG hA hk94 (cell_9 hq95) rfl rfl hl.1 rfl (Nat.le_of_ble_eq_true rfl) ⟨Nat.le_refl _, Nat.le_refl _⟩ dX9_makeMould_49 (fun r_9 S96 H locs hp hs_S96 hG => ?_)
  obtain ⟨rfl, h⟩ := hp
  have h := h hs_S96
  refine W.eq (g2 := F0 m 52 ls []) rfl ?_
  have hsh := hs_S96.tr hsh
  have hk98 := hs_S96.lt hk94
  have hq99 := hs_S96.kd hq95
  refine lv_iload_n hx hb dX9_makeMould_52 rfl (lv_at hl 1 rfl) ?_
  refine lv_iconst (v := 1) hx hb dX9_makeMould_53 (by decide) ?_
  refine lv_icmp_gt (tgt := 63) hx hb dX9_makeMould_54 (by decide) (fun c_54 => ?_) (fun c_54 => ?_)
  · have h := h.1 c_54
    exact b_63 x1 S96 H locs ls h hsh hG (lv_sub hl [0, 1] rfl)
  · have h := h.2 c_54
    refine lv_aload_n hx hb dX9_makeMould_57 rfl (lv_at hl 0 rfl) ?_
    refine lv_iload_n hx hb dX9_makeMould_58 rfl (lv_at hl 2 rfl) ?_
    refine lv_iload_n hx hb dX9_makeMould_59 rfl (lv_at hl 3 rfl) ?_
    refine r_callV (za := za) (k := k0) (ci := 9) (C := RX9) (T := TX9) (N := 36) (As := [vI x2, vI x3]) (rest := []) (tX9_pauseElements l S96 k0 x2 x3 _ h) ⟨hx, hb, hml, hown, hts⟩ (cwV 2 hts gX9_makeMould_X9_pauseElements rfl rfl rfl (by decide +kernel) ⟨by decide, by decide⟩) hK hG hA hk98 (cell_9 hq99) rfl rfl hl.1 rfl (Nat.le_of_ble_eq_true rfl) ⟨Nat.le_refl _, Nat.le_refl _⟩ dX9_makeMould_60 (fun r_9 S100 H locs hp hs_S100 hG => ?_)
    obtain ⟨rfl, h⟩ := hp
    have h := h hs_S100
    refine W.eq (g2 := F0 m 63 ls []) rfl ?_
    have hsh := hs_S100.tr hsh
    have hk102 := hs_S100.lt hk98
    have hq103 := hs_S100.kd hq99
    exact b_63 x1 S100 H locs ls h hsh hG (lv_sub hl [0, 1] rfl)
def wX9_reach_58 (Q : Int32 → GS → Prop) (k0 : Nat) (x3 : Int32) (S : GS) : Prop :=
  Q x3 S
def wX9_reach_60 (Q : Int32 → GS → Prop) (L_14 : Int32 → Int32 → GS → Prop) (k0 : Nat) (x2 : Int32) (x3 : Int32) (S : GS) : Prop :=
  L_14 x3 (x2 + 1) S
def wX9_reach_82 (Q : Int32 → GS → Prop) (k0 : Nat) (x1 : Int32) (t0 : Nat) (t1 : Int32) (S : GS) : Prop :=
  t0 < gN S ∧ gK S t0 = 9 ∧ (t1 = 0 ∨ t1 = 1) ∧ ∀ S4 : GS, S4 = sX S t0 35 t1 → Q x1 S4
def wX9_reach_14 (Q : Int32 → GS → Prop) (k0 : Nat) : Nat → Int32 → Int32 → GS → Prop
  | 0, _, _, _ => False
  | f9 + 1, x1, x2, S =>
  k0 < gN S ∧ gK S k0 = 9 ∧ ((gX S k0 3) ≤ x2 → (¬ x1 = (gX S k0 1) → wX9_reach_82 Q k0 x1 k0 0 S) ∧ (x1 = (gX S k0 1) → wX9_reach_82 Q k0 x1 k0 1 S)) ∧ (¬ (gX S k0 3) ≤ x2 → ∃ q9 : Nat, gR S k0 2 = some q9 ∧ q9 < gN S ∧ gK S q9 = 11 ∧ vp_in x2 (gL S q9) ∧ wX9_pass S k0 (gX S q9 (Int32.toNatClampNeg x2)) x1 (fun u15 S14 => gSh S14 S → (u15 = x1 → wX9_reach_58 Q k0 u15 S14) ∧ (¬ u15 = x1 → ∃ q20 : Nat, gR S14 k0 2 = some q20 ∧ q20 < gN S14 ∧ gK S14 q20 = 11 ∧ vp_in x2 (gL S14 q20) ∧ (¬ (gX S14 q20 (Int32.toNatClampNeg x2)) = 300 → wX9_reach_60 Q (wX9_reach_14 Q k0 f9) k0 x2 u15 S14) ∧ ((gX S14 q20 (Int32.toNatClampNeg x2)) = 300 → ((x1 + 3) ≤ u15 → wX9_reach_60 Q (wX9_reach_14 Q k0 f9) k0 x2 u15 S14) ∧ (¬ (x1 + 3) ≤ u15 → wX9_reach_58 Q k0 u15 S14)))))
def wX9_reach (S : GS) (k0 : Nat) (Q : Int32 → GS → Prop) : Prop :=
  k0 < gN S ∧ gK S k0 = 9 ∧ ∀ S27 : GS, S27 = sX S k0 7 0 → ∀ S30 : GS, S30 = sX S27 k0 35 0 → ∃ f33 : Nat, wX9_reach_14 Q k0 f33 0 0 S30
set_option maxHeartbeats 4000000 in
set_option maxRecDepth 100000 in
theorem tX9_reach (l : Launch) (S : GS) (k0 : Nat) (Q : Int32 → GS → Prop) (h : wX9_reach S k0 Q) : CS l yX9_reach wsX9_reach 2 S [vR (some k0)] (fun r S9 => ∃ x, r = some (vI x) ∧ Q x S9) := by
  refine CS.ofW (cc := cX9_reach) (maxL := 4) (ret := (some .int)) RX9 (by decide) rfl rfl (fun _ _ => Nat.le_of_ble_eq_true rfl) ?_
  intro p e s m args below meth c D Y za ad A ls hAe hx hb hr hml hts hown hlocks hK hA hG hl
  obtain ⟨S0, hS0⟩ : ∃ z : GS, z = S := ⟨_, rfl⟩
  rw [← hS0] at hAe
  rw [← hS0]
  have hin9 : ∀ w ∈ wsX90, w ∈ wsX9_reach := by decide +kernel
  have lk_146 := hts (.fieldLink RX9 146 "PauseLogModel" "numbers" "I") (by decide +kernel)
  have lk_156 := hts (.fieldLink RX9 156 "PauseLogModel" "fits" "Z") (by decide +kernel)
  have lk_87 := hts (.fieldLink RX9 87 "PauseLogModel" "mouldLong" "I") (by decide +kernel)
  have lk_13 := hts (.fieldLink RX9 13 "PauseLogModel" "mould" "[I") (by decide +kernel)
  have lk_143 := hts (.fieldLink RX9 143 "PauseLogModel" "padLong" "I") (by decide +kernel)
  have b_58 : ∀  (x3 : Int32) (S : GS) (H : Heap) (locs : List Loc) (ls : Array Slot), wX9_reach_58 Q k0 x3 S → gSh S S0 → gS D Y ad A s.heap S H locs → lv_has ls 4 [(3, .int x3)] → W p l e (rmD 2) s m args below meth c H locs 0 0 (MQ below (gE D Y za ad S0 s.heap.size (fun r S9 => ∃ x, r = some (vI x) ∧ Q x S9)) args s 0 0 A) (F0 m 58 ls []) := by
    intro  x3 S H locs ls h hsh hG hl
    unfold wX9_reach_58 at h
    refine lv_iload_n hx hb dX9_reach_58 rfl (lv_at hl 0 rfl) ?_
    exact W.iret (v := x3) hx hb hr (fun t ht hW => r_end (r := some (vI x3)) hAe hG hsh ⟨_, rfl, h⟩ rfl ht) hG.2.2.2.2 dX9_reach_59
  have b_60 : ∀ (L_14 : Int32 → Int32 → GS → Prop) (hL_14 : ∀ (x1 : Int32) (x2 : Int32) (S : GS) (H : Heap) (locs : List Loc) (ls : Array Slot), L_14 x1 x2 S → gSh S S0 → gS D Y ad A s.heap S H locs → lv_has ls 4 [(0, .ref (ad k0)), (1, .int x1), (2, .int x2)] → W p l e (rmD 2) s m args below meth c H locs 0 0 (MQ below (gE D Y za ad S0 s.heap.size (fun r S9 => ∃ x, r = some (vI x) ∧ Q x S9)) args s 0 0 A) (F0 m 14 ls [])) (x2 : Int32) (x3 : Int32) (S : GS) (H : Heap) (locs : List Loc) (ls : Array Slot), wX9_reach_60 Q L_14 k0 x2 x3 S → gSh S S0 → gS D Y ad A s.heap S H locs → lv_has ls 4 [(0, .ref (ad k0)), (2, .int x2), (3, .int x3)] → W p l e (rmD 2) s m args below meth c H locs 0 0 (MQ below (gE D Y za ad S0 s.heap.size (fun r S9 => ∃ x, r = some (vI x) ∧ Q x S9)) args s 0 0 A) (F0 m 60 ls []) := by
    intro L_14 hL_14 x2 x3 S H locs ls h hsh hG hl
    unfold wX9_reach_60 at h
    refine lv_iload_n hx hb dX9_reach_60 rfl (lv_at hl 2 rfl) ?_
    refine lv_istore_n (lv' := [(1, .int x3), (0, .ref (ad k0)), (2, .int x2), (3, .int x3)]) hx hb dX9_reach_61 rfl hl (by decide) rfl (fun ls hl => ?_)
    refine lv_iinc (v := x2 + 1) (lv' := [(2, .int (x2 + 1)), (1, .int x3), (0, .ref (ad k0)), (3, .int x3)]) hx hb dX9_reach_62 hl (k := 2) rfl rfl (by decide) rfl (fun ls hl => ?_)
    refine lv_goto (tgt := 14) hx hb dX9_reach_65 (by decide) ?_
    exact hL_14 x3 (x2 + 1) S H locs ls h hsh hG (lv_sub hl [2, 1, 0] rfl)
  have b_82 : ∀  (x1 : Int32) (t0 : Nat) (t1 : Int32) (S : GS) (H : Heap) (locs : List Loc) (ls : Array Slot), wX9_reach_82 Q k0 x1 t0 t1 S → gSh S S0 → gS D Y ad A s.heap S H locs → lv_has ls 4 [(1, .int x1)] → W p l e (rmD 2) s m args below meth c H locs 0 0 (MQ below (gE D Y za ad S0 s.heap.size (fun r S9 => ∃ x, r = some (vI x) ∧ Q x S9)) args s 0 0 A) (F0 m 82 ls [.int t1, .ref (ad t0)]) := by
    intro  x1 t0 t1 S H locs ls h hsh hG hl
    unfold wX9_reach_82 at h
    obtain ⟨hk1, hq2, h⟩ := h
    obtain ⟨hz3, h⟩ := h
    refine r_put (ci := 9) (C := RX9) (T := TX9) (N := 36) hx hb hts hin9 tyX9 tyX9_ok nmX9 hown hK hG hk1 (cell_9 hq2) rfl 35 (by decide) lk_156 (fun _ h9 => h9) rfl (nar01 hz3) (fit01 hz3) (Nat.le_of_ble_eq_true rfl) (S' := sX S t0 35 t1) rfl (pu_9_35 hq2 t1) dX9_reach_82 (fun H locs hG => ?_)
    obtain ⟨S4, eS_S4⟩ : ∃ z : GS, z = sX S t0 35 t1 := ⟨_, rfl⟩
    have h := h S4 eS_S4
    rw [← eS_S4] at hG
    have hs_S4 : gSh S4 S := by rw [eS_S4]; exact gSh.x _ _ _ _
    have hsh := hs_S4.tr hsh
    have hk5 := hs_S4.lt hk1
    have hq6 := hs_S4.kd hq2
    refine lv_iload_n hx hb dX9_reach_85 rfl (lv_at hl 0 rfl) ?_
    exact W.iret (v := x1) hx hb hr (fun t ht hW => r_end (r := some (vI x1)) hAe hG hsh ⟨_, rfl, h⟩ rfl ht) hG.2.2.2.2 dX9_reach_86
  have b_14 : ∀  (f9 : Nat) (x1 : Int32) (x2 : Int32) (S : GS) (H : Heap) (locs : List Loc) (ls : Array Slot), wX9_reach_14 Q k0 f9 x1 x2 S → gSh S S0 → gS D Y ad A s.heap S H locs → lv_has ls 4 [(0, .ref (ad k0)), (1, .int x1), (2, .int x2)] → W p l e (rmD 2) s m args below meth c H locs 0 0 (MQ below (gE D Y za ad S0 s.heap.size (fun r S9 => ∃ x, r = some (vI x) ∧ Q x S9)) args s 0 0 A) (F0 m 14 ls []) := by
    intro  f9
    induction f9 with
    | zero =>
      intro x1 x2 S H locs ls h
      exact False.elim (by unfold wX9_reach_14 at h; exact h)
    | succ f9 hL_14 =>
      intro x1 x2 S H locs ls h hsh hG hl
      unfold wX9_reach_14 at h
      refine lv_iload_n hx hb dX9_reach_14 rfl (lv_at hl 2 rfl) ?_
      refine lv_aload_n hx hb dX9_reach_15 rfl (lv_at hl 0 rfl) ?_
      obtain ⟨hk7, hq8, h⟩ := h
      refine g_get (ci := 9) (C := RX9) (T := TX9) (N := 36) hx hb hts hin9 hown hK hG hk7 (cell_9 hq8) rfl 3 (by decide) lk_87 (fun _ h9 => h9) (v := .int (gX S k0 3)) rfl dX9_reach_16 ?_
      refine lv_icmp_ge (tgt := 68) hx hb dX9_reach_19 (by decide) (fun c_19 => ?_) (fun c_19 => ?_)
      · have h := h.1 c_19
        refine lv_aload_n hx hb dX9_reach_68 rfl (lv_at hl 0 rfl) ?_
        refine lv_iload_n hx hb dX9_reach_69 rfl (lv_at hl 1 rfl) ?_
        refine lv_aload_n hx hb dX9_reach_70 rfl (lv_at hl 0 rfl) ?_
        refine g_get (ci := 9) (C := RX9) (T := TX9) (N := 36) hx hb hts hin9 hown hK hG hk7 (cell_9 hq8) rfl 1 (by decide) lk_143 (fun _ h9 => h9) (v := .int (gX S k0 1)) rfl dX9_reach_71 ?_
        refine lv_icmp_ne (tgt := 81) hx hb dX9_reach_74 (by decide) (fun c_74 => ?_) (fun c_74 => ?_)
        · have h := h.1 c_74
          refine lv_iconst (v := 0) hx hb dX9_reach_81 (by decide) ?_
          exact b_82 x1 k0 0 S H locs ls h hsh hG (lv_sub hl [1] rfl)
        · have h := h.2 c_74
          refine lv_iconst (v := 1) hx hb dX9_reach_77 (by decide) ?_
          refine lv_goto (tgt := 82) hx hb dX9_reach_78 (by decide) ?_
          exact b_82 x1 k0 1 S H locs ls h hsh hG (lv_sub hl [1] rfl)
      · have h := h.2 c_19
        refine lv_aload_n hx hb dX9_reach_22 rfl (lv_at hl 0 rfl) ?_
        refine lv_aload_n hx hb dX9_reach_23 rfl (lv_at hl 0 rfl) ?_
        refine g_get (ci := 9) (C := RX9) (T := TX9) (N := 36) hx hb hts hin9 hown hK hG hk7 (cell_9 hq8) rfl 2 (by decide) lk_13 (fun _ h9 => h9) (v := rv ad (gR S k0 2)) rfl dX9_reach_24 ?_
        refine lv_iload_n hx hb dX9_reach_27 rfl (lv_at hl 2 rfl) ?_
        obtain ⟨q9, e10, h⟩ := h
        refine W.eq (g2 := F0 m 28 ls [.int x2, .ref (ad q9), .ref (ad k0)]) (by rw [e10]; rfl) ?_
        obtain ⟨hk11, hq12, h⟩ := h
        obtain ⟨hi13, h⟩ := h
        refine r_iald hx hb hK hG hk11 hq12 hi13 dX9_reach_28 ?_
        refine lv_iload_n hx hb dX9_reach_29 rfl (lv_at hl 1 rfl) ?_
        refine r_callV (za := za) (k := k0) (ci := 9) (C := RX9) (T := TX9) (N := 36) (As := [vI (gX S q9 (Int32.toNatClampNeg x2)), vI x1]) (rest := []) (tX9_pass l S k0 (gX S q9 (Int32.toNatClampNeg x2)) x1 _ h) ⟨hx, hb, hml, hown, hts⟩ (cwV 2 hts gX9_reach_X9_pass rfl rfl rfl (by decide +kernel) ⟨by decide, by decide⟩) hK hG hA hk7 (cell_9 hq8) rfl rfl hl.1 rfl (Nat.le_of_ble_eq_true rfl) ⟨Nat.le_refl _, Nat.le_refl _⟩ dX9_reach_30 (fun r_9 S14 H locs hp hs_S14 hG => ?_)
        obtain ⟨u15, rfl, h⟩ := hp
        have h := h hs_S14
        refine W.eq (g2 := F0 m 33 ls [.int u15]) rfl ?_
        have hsh := hs_S14.tr hsh
        have hk16 := hs_S14.lt hk7
        have hq17 := hs_S14.kd hq8
        have hk18 := hs_S14.lt hk11
        have hq19 := hs_S14.kd hq12
        refine lv_istore_n (lv' := [(3, .int u15), (0, .ref (ad k0)), (1, .int x1), (2, .int x2)]) hx hb dX9_reach_33 rfl hl (by decide) rfl (fun ls hl => ?_)
        refine lv_iload_n hx hb dX9_reach_34 rfl (lv_at hl 0 rfl) ?_
        refine lv_iload_n hx hb dX9_reach_35 rfl (lv_at hl 2 rfl) ?_
        refine lv_icmp_eq (tgt := 58) hx hb dX9_reach_36 (by decide) (fun c_36 => ?_) (fun c_36 => ?_)
        · have h := h.1 c_36
          exact b_58 u15 S14 H locs ls h hsh hG (lv_sub hl [0] rfl)
        · have h := h.2 c_36
          refine lv_aload_n hx hb dX9_reach_39 rfl (lv_at hl 1 rfl) ?_
          refine g_get (ci := 9) (C := RX9) (T := TX9) (N := 36) hx hb hts hin9 hown hK hG hk16 (cell_9 hq17) rfl 2 (by decide) lk_13 (fun _ h9 => h9) (v := rv ad (gR S14 k0 2)) rfl dX9_reach_40 ?_
          refine lv_iload_n hx hb dX9_reach_43 rfl (lv_at hl 3 rfl) ?_
          obtain ⟨q20, e21, h⟩ := h
          refine W.eq (g2 := F0 m 44 ls [.int x2, .ref (ad q20)]) (by rw [e21]; rfl) ?_
          obtain ⟨hk22, hq23, h⟩ := h
          obtain ⟨hi24, h⟩ := h
          refine r_iald hx hb hK hG hk22 hq23 hi24 dX9_reach_44 ?_
          refine lv_sipush (v := 300) hx hb dX9_reach_45 (by decide) ?_
          refine lv_icmp_ne (tgt := 60) hx hb dX9_reach_48 (by decide) (fun c_48 => ?_) (fun c_48 => ?_)
          · have h := h.1 c_48
            exact b_60 (wX9_reach_14 Q k0 f9) hL_14 x2 u15 S14 H locs ls h hsh hG (lv_sub hl [1, 3, 0] rfl)
          · have h := h.2 c_48
            refine lv_iload_n hx hb dX9_reach_51 rfl (lv_at hl 0 rfl) ?_
            refine lv_iload_n hx hb dX9_reach_52 rfl (lv_at hl 2 rfl) ?_
            refine lv_iconst (v := 3) hx hb dX9_reach_53 (by decide) ?_
            refine lv_iadd hx hb dX9_reach_54 ?_
            refine lv_icmp_ge (tgt := 60) hx hb dX9_reach_55 (by decide) (fun c_55 => ?_) (fun c_55 => ?_)
            · have h := h.1 c_55
              exact b_60 (wX9_reach_14 Q k0 f9) hL_14 x2 u15 S14 H locs ls h hsh hG (lv_sub hl [1, 3, 0] rfl)
            · have h := h.2 c_55
              exact b_58 u15 S14 H locs ls h hsh hG (lv_sub hl [0] rfl)
  have hl : lv_has ls 4 [(0, .ref (ad k0))] := hl
  have hsh : gSh S S0 := by rw [hS0]; exact gSh.rf S
  obtain ⟨H, eH⟩ : ∃ z : Heap, z = s.heap := ⟨_, rfl⟩
  obtain ⟨locs, eL⟩ : ∃ z : List Loc, z = [] := ⟨_, rfl⟩
  have hG : gS D Y ad A s.heap S H locs := by rw [eH, eL]; exact hG
  suffices hgoal : W p l e (rmD 2) s m args below meth c H locs 0 0 (MQ below (gE D Y za ad S0 s.heap.size (fun r S9 => ∃ x, r = some (vI x) ∧ Q x S9)) args s 0 0 A) (F0 m 0 ls []) by rw [eH, eL] at hgoal; exact hgoal
  unfold wX9_reach at h
  refine lv_iconst (v := 0) hx hb dX9_reach_0 (by decide) ?_
  refine lv_istore_n (lv' := [(1, .int 0), (0, .ref (ad k0))]) hx hb dX9_reach_1 rfl hl (by decide) rfl (fun ls hl => ?_)
  refine lv_aload_n hx hb dX9_reach_2 rfl (lv_at hl 1 rfl) ?_
  refine lv_iconst (v := 0) hx hb dX9_reach_3 (by decide) ?_
  obtain ⟨hk25, hq26, h⟩ := h
  refine r_put (ci := 9) (C := RX9) (T := TX9) (N := 36) hx hb hts hin9 tyX9 tyX9_ok nmX9 hown hK hG hk25 (cell_9 hq26) rfl 7 (by decide) lk_146 (fun _ h9 => h9) rfl rfl rfl (Nat.le_of_ble_eq_true rfl) (S' := sX S k0 7 0) rfl (pu_9_7 hq26 0) dX9_reach_4 (fun H locs hG => ?_)
  obtain ⟨S27, eS_S27⟩ : ∃ z : GS, z = sX S k0 7 0 := ⟨_, rfl⟩
  have h := h S27 eS_S27
  rw [← eS_S27] at hG
  have hs_S27 : gSh S27 S := by rw [eS_S27]; exact gSh.x _ _ _ _
  have hsh := hs_S27.tr hsh
  have hk28 := hs_S27.lt hk25
  have hq29 := hs_S27.kd hq26
  refine lv_aload_n hx hb dX9_reach_7 rfl (lv_at hl 1 rfl) ?_
  refine lv_iconst (v := 0) hx hb dX9_reach_8 (by decide) ?_
  refine r_put (ci := 9) (C := RX9) (T := TX9) (N := 36) hx hb hts hin9 tyX9 tyX9_ok nmX9 hown hK hG hk28 (cell_9 hq29) rfl 35 (by decide) lk_156 (fun _ h9 => h9) rfl rfl rfl (Nat.le_of_ble_eq_true rfl) (S' := sX S27 k0 35 0) rfl (pu_9_35 hq29 0) dX9_reach_9 (fun H locs hG => ?_)
  obtain ⟨S30, eS_S30⟩ : ∃ z : GS, z = sX S27 k0 35 0 := ⟨_, rfl⟩
  have h := h S30 eS_S30
  rw [← eS_S30] at hG
  have hs_S30 : gSh S30 S27 := by rw [eS_S30]; exact gSh.x _ _ _ _
  have hsh := hs_S30.tr hsh
  have hk31 := hs_S30.lt hk28
  have hq32 := hs_S30.kd hq29
  refine lv_iconst (v := 0) hx hb dX9_reach_12 (by decide) ?_
  refine lv_istore_n (lv' := [(2, .int 0), (1, .int 0), (0, .ref (ad k0))]) hx hb dX9_reach_13 rfl hl (by decide) rfl (fun ls hl => ?_)
  obtain ⟨f33, h⟩ := h
  exact b_14 f33 0 0 S30 H locs ls h hsh hG (lv_sub hl [2, 1, 0] rfl)
def wX9_sizesOf_24 (Q : Int32 → GS → Prop) (t0 : Int32) (S : GS) : Prop :=
  Q t0 S
def wX9_sizesOf_19 (Q : Int32 → GS → Prop)  (S : GS) : Prop :=
  wX9_sizesOf_24 Q  2 S
def wX9_sizesOf (S : GS) (x0 : Int32) (Q : Int32 → GS → Prop) : Prop :=
  (¬ x0 = 1 → (x0 = 2 → wX9_sizesOf_19 Q   S) ∧ (¬ x0 = 2 → (¬ x0 = 3 → wX9_sizesOf_24 Q  0 S) ∧ (x0 = 3 → wX9_sizesOf_19 Q   S))) ∧ (x0 = 1 → wX9_sizesOf_24 Q  3 S)
set_option maxHeartbeats 4000000 in
set_option maxRecDepth 100000 in
theorem tX9_sizesOf (l : Launch) (S : GS) (x0 : Int32) (Q : Int32 → GS → Prop) (h : wX9_sizesOf S x0 Q) : CS l yX9_sizesOf wsX9_sizesOf 0 S [vI x0] (fun r S9 => ∃ x, r = some (vI x) ∧ Q x S9) := by
  refine CS.ofW (cc := cX9_sizesOf) (maxL := 1) (ret := (some .int)) RX9 (by decide) rfl rfl (fun _ _ => Nat.le_of_ble_eq_true rfl) ?_
  intro p e s m args below meth c D Y za ad A ls hAe hx hb hr hml hts hown hlocks hK hA hG hl
  obtain ⟨S0, hS0⟩ : ∃ z : GS, z = S := ⟨_, rfl⟩
  rw [← hS0] at hAe
  rw [← hS0]
  have b_24 : ∀  (t0 : Int32) (S : GS) (H : Heap) (locs : List Loc) (ls : Array Slot), wX9_sizesOf_24 Q  t0 S → gSh S S0 → gS D Y ad A s.heap S H locs → lv_has ls 1 [] → W p l e (rmD 0) s m args below meth c H locs 0 0 (MQ below (gE D Y za ad S0 s.heap.size (fun r S9 => ∃ x, r = some (vI x) ∧ Q x S9)) args s 0 0 A) (F0 m 24 ls [.int t0]) := by
    intro  t0 S H locs ls h hsh hG hl
    unfold wX9_sizesOf_24 at h
    exact W.iret (v := t0) hx hb hr (fun t ht hW => r_end (r := some (vI t0)) hAe hG hsh ⟨_, rfl, h⟩ rfl ht) hG.2.2.2.2 dX9_sizesOf_24
  have b_19 : ∀   (S : GS) (H : Heap) (locs : List Loc) (ls : Array Slot), wX9_sizesOf_19 Q   S → gSh S S0 → gS D Y ad A s.heap S H locs → lv_has ls 1 [] → W p l e (rmD 0) s m args below meth c H locs 0 0 (MQ below (gE D Y za ad S0 s.heap.size (fun r S9 => ∃ x, r = some (vI x) ∧ Q x S9)) args s 0 0 A) (F0 m 19 ls []) := by
    intro   S H locs ls h hsh hG hl
    unfold wX9_sizesOf_19 at h
    refine lv_iconst (v := 2) hx hb dX9_sizesOf_19 (by decide) ?_
    refine lv_goto (tgt := 24) hx hb dX9_sizesOf_20 (by decide) ?_
    exact b_24 2 S H locs ls h hsh hG (lv_sub hl [] rfl)
  have hl : lv_has ls 1 [(0, .int x0)] := hl
  have hsh : gSh S S0 := by rw [hS0]; exact gSh.rf S
  obtain ⟨H, eH⟩ : ∃ z : Heap, z = s.heap := ⟨_, rfl⟩
  obtain ⟨locs, eL⟩ : ∃ z : List Loc, z = [] := ⟨_, rfl⟩
  have hG : gS D Y ad A s.heap S H locs := by rw [eH, eL]; exact hG
  suffices hgoal : W p l e (rmD 0) s m args below meth c H locs 0 0 (MQ below (gE D Y za ad S0 s.heap.size (fun r S9 => ∃ x, r = some (vI x) ∧ Q x S9)) args s 0 0 A) (F0 m 0 ls []) by rw [eH, eL] at hgoal; exact hgoal
  unfold wX9_sizesOf at h
  refine lv_iload_n hx hb dX9_sizesOf_0 rfl (lv_at hl 0 rfl) ?_
  refine lv_iconst (v := 1) hx hb dX9_sizesOf_1 (by decide) ?_
  refine lv_icmp_ne (tgt := 9) hx hb dX9_sizesOf_2 (by decide) (fun c_2 => ?_) (fun c_2 => ?_)
  · have h := h.1 c_2
    refine lv_iload_n hx hb dX9_sizesOf_9 rfl (lv_at hl 0 rfl) ?_
    refine lv_iconst (v := 2) hx hb dX9_sizesOf_10 (by decide) ?_
    refine lv_icmp_eq (tgt := 19) hx hb dX9_sizesOf_11 (by decide) (fun c_11 => ?_) (fun c_11 => ?_)
    · have h := h.1 c_11
      exact b_19  S H locs ls h hsh hG (lv_sub hl [] rfl)
    · have h := h.2 c_11
      refine lv_iload_n hx hb dX9_sizesOf_14 rfl (lv_at hl 0 rfl) ?_
      refine lv_iconst (v := 3) hx hb dX9_sizesOf_15 (by decide) ?_
      refine lv_icmp_ne (tgt := 23) hx hb dX9_sizesOf_16 (by decide) (fun c_16 => ?_) (fun c_16 => ?_)
      · have h := h.1 c_16
        refine lv_iconst (v := 0) hx hb dX9_sizesOf_23 (by decide) ?_
        exact b_24 0 S H locs ls h hsh hG (lv_sub hl [] rfl)
      · have h := h.2 c_16
        exact b_19  S H locs ls h hsh hG (lv_sub hl [] rfl)
  · have h := h.2 c_2
    refine lv_iconst (v := 3) hx hb dX9_sizesOf_5 (by decide) ?_
    refine lv_goto (tgt := 24) hx hb dX9_sizesOf_6 (by decide) ?_
    exact b_24 3 S H locs ls h hsh hG (lv_sub hl [] rfl)
def wX9_note_137 (Q : GS → Prop) (L_83 : Int32 → Int32 → Int32 → Int32 → GS → Prop) (k0 : Nat) (x1 : Int32) (x4 : Int32) (x5 : Int32) (x6 : Int32) (t0 : Option Nat) (t1 : Int32) (t2 : Int32) (S : GS) : Prop :=
  ∃ q1 : Nat, t0 = some q1 ∧ q1 < gN S ∧ gK S q1 = 11 ∧ vp_in t1 (gL S q1) ∧ ∀ S6 : GS, S6 = sX S q1 (Int32.toNatClampNeg t1) t2 → L_83 x1 (x4 + 2) x5 (x6 + 1) S6
def wX9_note_190 (Q : GS → Prop) (k0 : Nat) (t0 : Option Nat) (t1 : Int32) (t2 : Int32) (S : GS) : Prop :=
  ∃ q9 : Nat, t0 = some q9 ∧ q9 < gN S ∧ gK S q9 = 11 ∧ vp_in t1 (gL S q9) ∧ ∀ S14 : GS, S14 = sX S q9 (Int32.toNatClampNeg t1) t2 → Q S14
def wX9_note_165 (Q : GS → Prop) (k0 : Nat) (x4 : Int32) (t0 : Option Nat) (t1 : Int32) (S : GS) : Prop :=
  k0 < gN S ∧ gK S k0 = 9 ∧ ∃ q19 : Nat, gR S k0 6 = some q19 ∧ q19 < gN S ∧ gK S q19 = 11 ∧ vp_in x4 (gL S q19) ∧ vp_in (x4 + 1) (gL S q19) ∧ wX9_note_190 Q k0 t0 t1 ((1000 * (gX S q19 (Int32.toNatClampNeg x4))) + (gX S q19 (Int32.toNatClampNeg (x4 + 1)))) S
def wX9_note_83 (Q : GS → Prop) (k0 : Nat) : Nat → Int32 → Int32 → Int32 → Int32 → GS → Prop
  | 0, _, _, _, _, _ => False
  | f9 + 1, x1, x4, x5, x6, S =>
  (x5 ≤ x6 → k0 < gN S ∧ gK S k0 = 9 ∧ (x1 = 1 → wX9_note_165 Q k0 x4 (gR S k0 18) (gX S k0 19) S) ∧ (¬ x1 = 1 → (¬ x1 = 5 → wX9_note_190 Q k0 (gR S k0 18) (gX S k0 19) 0 S) ∧ (x1 = 5 → wX9_note_165 Q k0 x4 (gR S k0 18) (gX S k0 19) S))) ∧ (¬ x5 ≤ x6 → k0 < gN S ∧ gK S k0 = 9 ∧ ∃ q29 : Nat, gR S k0 6 = some q29 ∧ q29 < gN S ∧ gK S q29 = 11 ∧ vp_in (x4 + 1) (gL S q29) ∧ (¬ (gX S q29 (Int32.toNatClampNeg (x4 + 1))) = 1 → vp_in x4 (gL S q29) ∧ wX9_note_137 Q (wX9_note_83 Q k0 f9) k0 x1 x4 x5 x6 (gR S k0 17) ((3 * (gX S k0 19)) + x6) (gX S q29 (Int32.toNatClampNeg x4)) S) ∧ ((gX S q29 (Int32.toNatClampNeg (x4 + 1))) = 1 → vp_in x4 (gL S q29) ∧ wX9_note_137 Q (wX9_note_83 Q k0 f9) k0 x1 x4 x5 x6 (gR S k0 17) ((3 * (gX S k0 19)) + x6) (1024 * (gX S q29 (Int32.toNatClampNeg x4))) S))
def wX9_note (S : GS) (k0 : Nat) (x1 : Int32) (x2 : Int32) (x3 : Int32) (Q : GS → Prop) : Prop :=
  k0 < gN S ∧ gK S k0 = 9 ∧ ∃ q38 : Nat, gR S k0 12 = some q38 ∧ q38 < gN S ∧ gK S q38 = 11 ∧ vp_in (gX S k0 19) (gL S q38) ∧ ∀ S43 : GS, S43 = sX S q38 (Int32.toNatClampNeg (gX S k0 19)) x1 → ∃ q48 : Nat, gR S43 k0 13 = some q48 ∧ q48 < gN S43 ∧ gK S43 q48 = 11 ∧ vp_in (gX S43 k0 19) (gL S43 q48) ∧ ∀ S53 : GS, S53 = sX S43 q48 (Int32.toNatClampNeg (gX S43 k0 19)) x2 → ∃ q60 : Nat, gR S53 k0 14 = some q60 ∧ q60 < gN S53 ∧ gK S53 q60 = 11 ∧ vp_in (gX S53 k0 19) (gL S53 q60) ∧ ∀ S65 : GS, S65 = sX S53 q60 (Int32.toNatClampNeg (gX S53 k0 19)) x3 → ∃ q74 : Nat, gR S65 k0 6 = some q74 ∧ q74 < gN S65 ∧ gK S65 q74 = 11 ∧ vp_in 0 (gL S65 q74) ∧ vp_in 1 (gL S65 q74) ∧ ∃ q80 : Nat, gR S65 k0 15 = some q80 ∧ q80 < gN S65 ∧ gK S65 q80 = 11 ∧ vp_in (gX S65 k0 19) (gL S65 q80) ∧ ∀ S85 : GS, S85 = sX S65 q80 (Int32.toNatClampNeg (gX S65 k0 19)) ((1000 * (gX S65 q74 (Int32.toNatClampNeg 0))) + (gX S65 q74 (Int32.toNatClampNeg 1))) → ∃ q98 : Nat, gR S85 k0 6 = some q98 ∧ q98 < gN S85 ∧ gK S85 q98 = 11 ∧ vp_in 2 (gL S85 q98) ∧ ∃ q103 : Nat, gR S85 k0 16 = some q103 ∧ q103 < gN S85 ∧ gK S85 q103 = 11 ∧ vp_in (gX S85 k0 19) (gL S85 q103) ∧ ∀ S108 : GS, S108 = sX S85 q103 (Int32.toNatClampNeg (gX S85 k0 19)) (gX S85 q98 (Int32.toNatClampNeg 2)) → wX9_sizesOf S108 x1 (fun u126 S125 => gSh S125 S108 → ∃ f143 : Nat, wX9_note_83 Q k0 f143 x1 3 u126 0 S125)
set_option maxHeartbeats 4000000 in
set_option maxRecDepth 100000 in
theorem tX9_note (l : Launch) (S : GS) (k0 : Nat) (x1 : Int32) (x2 : Int32) (x3 : Int32) (Q : GS → Prop) (h : wX9_note S k0 x1 x2 x3 Q) : CS l yX9_note wsX9_note 1 S [vR (some k0), vI x1, vI x2, vI x3] (fun r S9 => r = none ∧ Q S9) := by
  refine CS.ofW (cc := cX9_note) (maxL := 7) (ret := none) RX9 (by decide) rfl rfl (fun _ _ => Nat.le_of_ble_eq_true rfl) ?_
  intro p e s m args below meth c D Y za ad A ls hAe hx hb hr hml hts hown hlocks hK hA hG hl
  obtain ⟨S0, hS0⟩ : ∃ z : GS, z = S := ⟨_, rfl⟩
  rw [← hS0] at hAe
  rw [← hS0]
  have hin9 : ∀ w ∈ wsX90, w ∈ wsX9_note := by decide +kernel
  have lk_35 := hts (.fieldLink RX9 35 "PauseLogModel" "shape" "[I") (by decide +kernel)
  have lk_175 := hts (.fieldLink RX9 175 "PauseLogModel" "lines" "I") (by decide +kernel)
  have lk_38 := hts (.fieldLink RX9 38 "PauseLogModel" "kind" "[I") (by decide +kernel)
  have lk_41 := hts (.fieldLink RX9 41 "PauseLogModel" "cause" "[I") (by decide +kernel)
  have lk_44 := hts (.fieldLink RX9 44 "PauseLogModel" "time" "[I") (by decide +kernel)
  have lk_19 := hts (.fieldLink RX9 19 "PauseLogModel" "number" "[I") (by decide +kernel)
  have lk_47 := hts (.fieldLink RX9 47 "PauseLogModel" "id" "[I") (by decide +kernel)
  have lk_50 := hts (.fieldLink RX9 50 "PauseLogModel" "sizes" "[I") (by decide +kernel)
  have lk_53 := hts (.fieldLink RX9 53 "PauseLogModel" "took" "[I") (by decide +kernel)
  have b_137 : ∀ (L_83 : Int32 → Int32 → Int32 → Int32 → GS → Prop) (hL_83 : ∀ (x1 : Int32) (x4 : Int32) (x5 : Int32) (x6 : Int32) (S : GS) (H : Heap) (locs : List Loc) (ls : Array Slot), L_83 x1 x4 x5 x6 S → gSh S S0 → gS D Y ad A s.heap S H locs → lv_has ls 7 [(0, .ref (ad k0)), (1, .int x1), (4, .int x4), (5, .int x5), (6, .int x6)] → W p l e (rmD 1) s m args below meth c H locs 0 0 (MQ below (gE D Y za ad S0 s.heap.size (fun r S9 => r = none ∧ Q S9)) args s 0 0 A) (F0 m 83 ls [])) (x1 : Int32) (x4 : Int32) (x5 : Int32) (x6 : Int32) (t0 : Option Nat) (t1 : Int32) (t2 : Int32) (S : GS) (H : Heap) (locs : List Loc) (ls : Array Slot), wX9_note_137 Q L_83 k0 x1 x4 x5 x6 t0 t1 t2 S → gSh S S0 → gS D Y ad A s.heap S H locs → lv_has ls 7 [(0, .ref (ad k0)), (1, .int x1), (4, .int x4), (5, .int x5), (6, .int x6)] → W p l e (rmD 1) s m args below meth c H locs 0 0 (MQ below (gE D Y za ad S0 s.heap.size (fun r S9 => r = none ∧ Q S9)) args s 0 0 A) (F0 m 137 ls [.int t2, .int t1, rv ad t0]) := by
    intro L_83 hL_83 x1 x4 x5 x6 t0 t1 t2 S H locs ls h hsh hG hl
    unfold wX9_note_137 at h
    obtain ⟨q1, e2, h⟩ := h
    refine W.eq (g2 := F0 m 137 ls [.int t2, .int t1, .ref (ad q1)]) (by rw [e2]; rfl) ?_
    obtain ⟨hk3, hq4, h⟩ := h
    obtain ⟨hi5, h⟩ := h
    refine r_iast hx hb hK hG hk3 hq4 hi5 dX9_note_137 (fun H locs hG => ?_)
    obtain ⟨S6, eS_S6⟩ : ∃ z : GS, z = sX S q1 (Int32.toNatClampNeg t1) t2 := ⟨_, rfl⟩
    have h := h S6 eS_S6
    rw [← eS_S6] at hG
    have hs_S6 : gSh S6 S := by rw [eS_S6]; exact gSh.x _ _ _ _
    have hsh := hs_S6.tr hsh
    have hk7 := hs_S6.lt hk3
    have hq8 := hs_S6.kd hq4
    refine lv_iinc (v := x4 + 2) (lv' := [(4, .int (x4 + 2)), (0, .ref (ad k0)), (1, .int x1), (5, .int x5), (6, .int x6)]) hx hb dX9_note_138 hl (k := 2) rfl rfl (by decide) rfl (fun ls hl => ?_)
    refine lv_iinc (v := x6 + 1) (lv' := [(6, .int (x6 + 1)), (4, .int (x4 + 2)), (0, .ref (ad k0)), (1, .int x1), (5, .int x5)]) hx hb dX9_note_141 hl (k := 4) rfl rfl (by decide) rfl (fun ls hl => ?_)
    refine lv_goto (tgt := 83) hx hb dX9_note_144 (by decide) ?_
    exact hL_83 x1 (x4 + 2) x5 (x6 + 1) S6 H locs ls h hsh hG (lv_sub hl [2, 3, 1, 4, 0] rfl)
  have b_190 : ∀  (t0 : Option Nat) (t1 : Int32) (t2 : Int32) (S : GS) (H : Heap) (locs : List Loc) (ls : Array Slot), wX9_note_190 Q k0 t0 t1 t2 S → gSh S S0 → gS D Y ad A s.heap S H locs → lv_has ls 7 [] → W p l e (rmD 1) s m args below meth c H locs 0 0 (MQ below (gE D Y za ad S0 s.heap.size (fun r S9 => r = none ∧ Q S9)) args s 0 0 A) (F0 m 190 ls [.int t2, .int t1, rv ad t0]) := by
    intro  t0 t1 t2 S H locs ls h hsh hG hl
    unfold wX9_note_190 at h
    obtain ⟨q9, e10, h⟩ := h
    refine W.eq (g2 := F0 m 190 ls [.int t2, .int t1, .ref (ad q9)]) (by rw [e10]; rfl) ?_
    obtain ⟨hk11, hq12, h⟩ := h
    obtain ⟨hi13, h⟩ := h
    refine r_iast hx hb hK hG hk11 hq12 hi13 dX9_note_190 (fun H locs hG => ?_)
    obtain ⟨S14, eS_S14⟩ : ∃ z : GS, z = sX S q9 (Int32.toNatClampNeg t1) t2 := ⟨_, rfl⟩
    have h := h S14 eS_S14
    rw [← eS_S14] at hG
    have hs_S14 : gSh S14 S := by rw [eS_S14]; exact gSh.x _ _ _ _
    have hsh := hs_S14.tr hsh
    have hk15 := hs_S14.lt hk11
    have hq16 := hs_S14.kd hq12
    exact W.vret hx hb hr (fun t ht hW => r_end (r := none) hAe hG hsh ⟨rfl, h⟩ rfl ht) hG.2.2.2.2 dX9_note_191
  have b_165 : ∀  (x4 : Int32) (t0 : Option Nat) (t1 : Int32) (S : GS) (H : Heap) (locs : List Loc) (ls : Array Slot), wX9_note_165 Q k0 x4 t0 t1 S → gSh S S0 → gS D Y ad A s.heap S H locs → lv_has ls 7 [(0, .ref (ad k0)), (4, .int x4)] → W p l e (rmD 1) s m args below meth c H locs 0 0 (MQ below (gE D Y za ad S0 s.heap.size (fun r S9 => r = none ∧ Q S9)) args s 0 0 A) (F0 m 165 ls [.int t1, rv ad t0]) := by
    intro  x4 t0 t1 S H locs ls h hsh hG hl
    unfold wX9_note_165 at h
    refine lv_sipush (v := 1000) hx hb dX9_note_165 (by decide) ?_
    refine lv_aload_n hx hb dX9_note_168 rfl (lv_at hl 0 rfl) ?_
    obtain ⟨hk17, hq18, h⟩ := h
    refine g_get (ci := 9) (C := RX9) (T := TX9) (N := 36) hx hb hts hin9 hown hK hG hk17 (cell_9 hq18) rfl 6 (by decide) lk_19 (fun _ h9 => h9) (v := rv ad (gR S k0 6)) rfl dX9_note_169 ?_
    refine lv_iload hx hb dX9_note_172 (lv_at hl 1 rfl) ?_
    obtain ⟨q19, e20, h⟩ := h
    refine W.eq (g2 := F0 m 174 ls [.int x4, .ref (ad q19), .int 1000, .int t1, rv ad t0]) (by rw [e20]; rfl) ?_
    obtain ⟨hk21, hq22, h⟩ := h
    obtain ⟨hi23, h⟩ := h
    refine r_iald hx hb hK hG hk21 hq22 hi23 dX9_note_174 ?_
    refine lv_imul hx hb dX9_note_175 ?_
    refine lv_aload_n hx hb dX9_note_176 rfl (lv_at hl 0 rfl) ?_
    refine g_get (ci := 9) (C := RX9) (T := TX9) (N := 36) hx hb hts hin9 hown hK hG hk17 (cell_9 hq18) rfl 6 (by decide) lk_19 (fun _ h9 => h9) (v := rv ad (gR S k0 6)) rfl dX9_note_177 ?_
    refine lv_iload hx hb dX9_note_180 (lv_at hl 1 rfl) ?_
    refine lv_iconst (v := 1) hx hb dX9_note_182 (by decide) ?_
    refine lv_iadd hx hb dX9_note_183 ?_
    refine W.eq (g2 := F0 m 184 ls [.int (x4 + 1), .ref (ad q19), .int (1000 * (gX S q19 (Int32.toNatClampNeg x4))), .int t1, rv ad t0]) (by rw [e20]; rfl) ?_
    obtain ⟨hi24, h⟩ := h
    refine r_iald hx hb hK hG hk21 hq22 hi24 dX9_note_184 ?_
    refine lv_iadd hx hb dX9_note_185 ?_
    refine lv_goto (tgt := 190) hx hb dX9_note_186 (by decide) ?_
    exact b_190 t0 t1 ((1000 * (gX S q19 (Int32.toNatClampNeg x4))) + (gX S q19 (Int32.toNatClampNeg (x4 + 1)))) S H locs ls h hsh hG (lv_sub hl [] rfl)
  have b_83 : ∀  (f9 : Nat) (x1 : Int32) (x4 : Int32) (x5 : Int32) (x6 : Int32) (S : GS) (H : Heap) (locs : List Loc) (ls : Array Slot), wX9_note_83 Q k0 f9 x1 x4 x5 x6 S → gSh S S0 → gS D Y ad A s.heap S H locs → lv_has ls 7 [(0, .ref (ad k0)), (1, .int x1), (4, .int x4), (5, .int x5), (6, .int x6)] → W p l e (rmD 1) s m args below meth c H locs 0 0 (MQ below (gE D Y za ad S0 s.heap.size (fun r S9 => r = none ∧ Q S9)) args s 0 0 A) (F0 m 83 ls []) := by
    intro  f9
    induction f9 with
    | zero =>
      intro x1 x4 x5 x6 S H locs ls h
      exact False.elim (by unfold wX9_note_83 at h; exact h)
    | succ f9 hL_83 =>
      intro x1 x4 x5 x6 S H locs ls h hsh hG hl
      unfold wX9_note_83 at h
      refine lv_iload hx hb dX9_note_83 (lv_at hl 4 rfl) ?_
      refine lv_iload hx hb dX9_note_85 (lv_at hl 3 rfl) ?_
      refine lv_icmp_ge (tgt := 147) hx hb dX9_note_87 (by decide) (fun c_87 => ?_) (fun c_87 => ?_)
      · have h := h.1 c_87
        refine lv_aload_n hx hb dX9_note_147 rfl (lv_at hl 0 rfl) ?_
        obtain ⟨hk25, hq26, h⟩ := h
        refine g_get (ci := 9) (C := RX9) (T := TX9) (N := 36) hx hb hts hin9 hown hK hG hk25 (cell_9 hq26) rfl 18 (by decide) lk_53 (fun _ h9 => h9) (v := rv ad (gR S k0 18)) rfl dX9_note_148 ?_
        refine lv_aload_n hx hb dX9_note_151 rfl (lv_at hl 0 rfl) ?_
        refine g_get (ci := 9) (C := RX9) (T := TX9) (N := 36) hx hb hts hin9 hown hK hG hk25 (cell_9 hq26) rfl 19 (by decide) lk_175 (fun _ h9 => h9) (v := .int (gX S k0 19)) rfl dX9_note_152 ?_
        refine lv_iload_n hx hb dX9_note_155 rfl (lv_at hl 1 rfl) ?_
        refine lv_iconst (v := 1) hx hb dX9_note_156 (by decide) ?_
        refine lv_icmp_eq (tgt := 165) hx hb dX9_note_157 (by decide) (fun c_157 => ?_) (fun c_157 => ?_)
        · have h := h.1 c_157
          exact b_165 x4 (gR S k0 18) (gX S k0 19) S H locs ls h hsh hG (lv_sub hl [0, 2] rfl)
        · have h := h.2 c_157
          refine lv_iload_n hx hb dX9_note_160 rfl (lv_at hl 1 rfl) ?_
          refine lv_iconst (v := 5) hx hb dX9_note_161 (by decide) ?_
          refine lv_icmp_ne (tgt := 189) hx hb dX9_note_162 (by decide) (fun c_162 => ?_) (fun c_162 => ?_)
          · have h := h.1 c_162
            refine lv_iconst (v := 0) hx hb dX9_note_189 (by decide) ?_
            exact b_190 (gR S k0 18) (gX S k0 19) 0 S H locs ls h hsh hG (lv_sub hl [] rfl)
          · have h := h.2 c_162
            exact b_165 x4 (gR S k0 18) (gX S k0 19) S H locs ls h hsh hG (lv_sub hl [0, 2] rfl)
      · have h := h.2 c_87
        refine lv_aload_n hx hb dX9_note_90 rfl (lv_at hl 0 rfl) ?_
        obtain ⟨hk27, hq28, h⟩ := h
        refine g_get (ci := 9) (C := RX9) (T := TX9) (N := 36) hx hb hts hin9 hown hK hG hk27 (cell_9 hq28) rfl 17 (by decide) lk_50 (fun _ h9 => h9) (v := rv ad (gR S k0 17)) rfl dX9_note_91 ?_
        refine lv_iconst (v := 3) hx hb dX9_note_94 (by decide) ?_
        refine lv_aload_n hx hb dX9_note_95 rfl (lv_at hl 0 rfl) ?_
        refine g_get (ci := 9) (C := RX9) (T := TX9) (N := 36) hx hb hts hin9 hown hK hG hk27 (cell_9 hq28) rfl 19 (by decide) lk_175 (fun _ h9 => h9) (v := .int (gX S k0 19)) rfl dX9_note_96 ?_
        refine lv_imul hx hb dX9_note_99 ?_
        refine lv_iload hx hb dX9_note_100 (lv_at hl 4 rfl) ?_
        refine lv_iadd hx hb dX9_note_102 ?_
        refine lv_aload_n hx hb dX9_note_103 rfl (lv_at hl 0 rfl) ?_
        refine g_get (ci := 9) (C := RX9) (T := TX9) (N := 36) hx hb hts hin9 hown hK hG hk27 (cell_9 hq28) rfl 6 (by decide) lk_19 (fun _ h9 => h9) (v := rv ad (gR S k0 6)) rfl dX9_note_104 ?_
        refine lv_iload hx hb dX9_note_107 (lv_at hl 2 rfl) ?_
        refine lv_iconst (v := 1) hx hb dX9_note_109 (by decide) ?_
        refine lv_iadd hx hb dX9_note_110 ?_
        obtain ⟨q29, e30, h⟩ := h
        refine W.eq (g2 := F0 m 111 ls [.int (x4 + 1), .ref (ad q29), .int ((3 * (gX S k0 19)) + x6), rv ad (gR S k0 17)]) (by rw [e30]; rfl) ?_
        obtain ⟨hk31, hq32, h⟩ := h
        obtain ⟨hi33, h⟩ := h
        refine r_iald hx hb hK hG hk31 hq32 hi33 dX9_note_111 ?_
        refine lv_iconst (v := 1) hx hb dX9_note_112 (by decide) ?_
        refine lv_icmp_ne (tgt := 130) hx hb dX9_note_113 (by decide) (fun c_113 => ?_) (fun c_113 => ?_)
        · have h := h.1 c_113
          refine lv_aload_n hx hb dX9_note_130 rfl (lv_at hl 0 rfl) ?_
          refine g_get (ci := 9) (C := RX9) (T := TX9) (N := 36) hx hb hts hin9 hown hK hG hk27 (cell_9 hq28) rfl 6 (by decide) lk_19 (fun _ h9 => h9) (v := rv ad (gR S k0 6)) rfl dX9_note_131 ?_
          refine lv_iload hx hb dX9_note_134 (lv_at hl 2 rfl) ?_
          refine W.eq (g2 := F0 m 136 ls [.int x4, .ref (ad q29), .int ((3 * (gX S k0 19)) + x6), rv ad (gR S k0 17)]) (by rw [e30]; rfl) ?_
          obtain ⟨hi34, h⟩ := h
          refine r_iald hx hb hK hG hk31 hq32 hi34 dX9_note_136 ?_
          exact b_137 (wX9_note_83 Q k0 f9) hL_83 x1 x4 x5 x6 (gR S k0 17) ((3 * (gX S k0 19)) + x6) (gX S q29 (Int32.toNatClampNeg x4)) S H locs ls h hsh hG (lv_sub hl [0, 1, 2, 3, 4] rfl)
        · have h := h.2 c_113
          refine lv_sipush (v := 1024) hx hb dX9_note_116 (by decide) ?_
          refine lv_aload_n hx hb dX9_note_119 rfl (lv_at hl 0 rfl) ?_
          refine g_get (ci := 9) (C := RX9) (T := TX9) (N := 36) hx hb hts hin9 hown hK hG hk27 (cell_9 hq28) rfl 6 (by decide) lk_19 (fun _ h9 => h9) (v := rv ad (gR S k0 6)) rfl dX9_note_120 ?_
          refine lv_iload hx hb dX9_note_123 (lv_at hl 2 rfl) ?_
          refine W.eq (g2 := F0 m 125 ls [.int x4, .ref (ad q29), .int 1024, .int ((3 * (gX S k0 19)) + x6), rv ad (gR S k0 17)]) (by rw [e30]; rfl) ?_
          obtain ⟨hi35, h⟩ := h
          refine r_iald hx hb hK hG hk31 hq32 hi35 dX9_note_125 ?_
          refine lv_imul hx hb dX9_note_126 ?_
          refine lv_goto (tgt := 137) hx hb dX9_note_127 (by decide) ?_
          exact b_137 (wX9_note_83 Q k0 f9) hL_83 x1 x4 x5 x6 (gR S k0 17) ((3 * (gX S k0 19)) + x6) (1024 * (gX S q29 (Int32.toNatClampNeg x4))) S H locs ls h hsh hG (lv_sub hl [0, 1, 2, 3, 4] rfl)
  have hl : lv_has ls 7 [(0, .ref (ad k0)), (1, .int x1), (2, .int x2), (3, .int x3)] := hl
  have hsh : gSh S S0 := by rw [hS0]; exact gSh.rf S
  obtain ⟨H, eH⟩ : ∃ z : Heap, z = s.heap := ⟨_, rfl⟩
  obtain ⟨locs, eL⟩ : ∃ z : List Loc, z = [] := ⟨_, rfl⟩
  have hG : gS D Y ad A s.heap S H locs := by rw [eH, eL]; exact hG
  suffices hgoal : W p l e (rmD 1) s m args below meth c H locs 0 0 (MQ below (gE D Y za ad S0 s.heap.size (fun r S9 => r = none ∧ Q S9)) args s 0 0 A) (F0 m 0 ls []) by rw [eH, eL] at hgoal; exact hgoal
  unfold wX9_note at h
  refine lv_aload_n hx hb dX9_note_0 rfl (lv_at hl 0 rfl) ?_
  obtain ⟨hk36, hq37, h⟩ := h
  refine g_get (ci := 9) (C := RX9) (T := TX9) (N := 36) hx hb hts hin9 hown hK hG hk36 (cell_9 hq37) rfl 12 (by decide) lk_35 (fun _ h9 => h9) (v := rv ad (gR S k0 12)) rfl dX9_note_1 ?_
  refine lv_aload_n hx hb dX9_note_4 rfl (lv_at hl 0 rfl) ?_
  refine g_get (ci := 9) (C := RX9) (T := TX9) (N := 36) hx hb hts hin9 hown hK hG hk36 (cell_9 hq37) rfl 19 (by decide) lk_175 (fun _ h9 => h9) (v := .int (gX S k0 19)) rfl dX9_note_5 ?_
  refine lv_iload_n hx hb dX9_note_8 rfl (lv_at hl 1 rfl) ?_
  obtain ⟨q38, e39, h⟩ := h
  refine W.eq (g2 := F0 m 9 ls [.int x1, .int (gX S k0 19), .ref (ad q38)]) (by rw [e39]; rfl) ?_
  obtain ⟨hk40, hq41, h⟩ := h
  obtain ⟨hi42, h⟩ := h
  refine r_iast hx hb hK hG hk40 hq41 hi42 dX9_note_9 (fun H locs hG => ?_)
  obtain ⟨S43, eS_S43⟩ : ∃ z : GS, z = sX S q38 (Int32.toNatClampNeg (gX S k0 19)) x1 := ⟨_, rfl⟩
  have h := h S43 eS_S43
  rw [← eS_S43] at hG
  have hs_S43 : gSh S43 S := by rw [eS_S43]; exact gSh.x _ _ _ _
  have hsh := hs_S43.tr hsh
  have hk44 := hs_S43.lt hk36
  have hq45 := hs_S43.kd hq37
  have hk46 := hs_S43.lt hk40
  have hq47 := hs_S43.kd hq41
  refine lv_aload_n hx hb dX9_note_10 rfl (lv_at hl 0 rfl) ?_
  refine g_get (ci := 9) (C := RX9) (T := TX9) (N := 36) hx hb hts hin9 hown hK hG hk44 (cell_9 hq45) rfl 13 (by decide) lk_38 (fun _ h9 => h9) (v := rv ad (gR S43 k0 13)) rfl dX9_note_11 ?_
  refine lv_aload_n hx hb dX9_note_14 rfl (lv_at hl 0 rfl) ?_
  refine g_get (ci := 9) (C := RX9) (T := TX9) (N := 36) hx hb hts hin9 hown hK hG hk44 (cell_9 hq45) rfl 19 (by decide) lk_175 (fun _ h9 => h9) (v := .int (gX S43 k0 19)) rfl dX9_note_15 ?_
  refine lv_iload_n hx hb dX9_note_18 rfl (lv_at hl 2 rfl) ?_
  obtain ⟨q48, e49, h⟩ := h
  refine W.eq (g2 := F0 m 19 ls [.int x2, .int (gX S43 k0 19), .ref (ad q48)]) (by rw [e49]; rfl) ?_
  obtain ⟨hk50, hq51, h⟩ := h
  obtain ⟨hi52, h⟩ := h
  refine r_iast hx hb hK hG hk50 hq51 hi52 dX9_note_19 (fun H locs hG => ?_)
  obtain ⟨S53, eS_S53⟩ : ∃ z : GS, z = sX S43 q48 (Int32.toNatClampNeg (gX S43 k0 19)) x2 := ⟨_, rfl⟩
  have h := h S53 eS_S53
  rw [← eS_S53] at hG
  have hs_S53 : gSh S53 S43 := by rw [eS_S53]; exact gSh.x _ _ _ _
  have hsh := hs_S53.tr hsh
  have hk54 := hs_S53.lt hk44
  have hq55 := hs_S53.kd hq45
  have hk56 := hs_S53.lt hk46
  have hq57 := hs_S53.kd hq47
  have hk58 := hs_S53.lt hk50
  have hq59 := hs_S53.kd hq51
  refine lv_aload_n hx hb dX9_note_20 rfl (lv_at hl 0 rfl) ?_
  refine g_get (ci := 9) (C := RX9) (T := TX9) (N := 36) hx hb hts hin9 hown hK hG hk54 (cell_9 hq55) rfl 14 (by decide) lk_41 (fun _ h9 => h9) (v := rv ad (gR S53 k0 14)) rfl dX9_note_21 ?_
  refine lv_aload_n hx hb dX9_note_24 rfl (lv_at hl 0 rfl) ?_
  refine g_get (ci := 9) (C := RX9) (T := TX9) (N := 36) hx hb hts hin9 hown hK hG hk54 (cell_9 hq55) rfl 19 (by decide) lk_175 (fun _ h9 => h9) (v := .int (gX S53 k0 19)) rfl dX9_note_25 ?_
  refine lv_iload_n hx hb dX9_note_28 rfl (lv_at hl 3 rfl) ?_
  obtain ⟨q60, e61, h⟩ := h
  refine W.eq (g2 := F0 m 29 ls [.int x3, .int (gX S53 k0 19), .ref (ad q60)]) (by rw [e61]; rfl) ?_
  obtain ⟨hk62, hq63, h⟩ := h
  obtain ⟨hi64, h⟩ := h
  refine r_iast hx hb hK hG hk62 hq63 hi64 dX9_note_29 (fun H locs hG => ?_)
  obtain ⟨S65, eS_S65⟩ : ∃ z : GS, z = sX S53 q60 (Int32.toNatClampNeg (gX S53 k0 19)) x3 := ⟨_, rfl⟩
  have h := h S65 eS_S65
  rw [← eS_S65] at hG
  have hs_S65 : gSh S65 S53 := by rw [eS_S65]; exact gSh.x _ _ _ _
  have hsh := hs_S65.tr hsh
  have hk66 := hs_S65.lt hk54
  have hq67 := hs_S65.kd hq55
  have hk68 := hs_S65.lt hk56
  have hq69 := hs_S65.kd hq57
  have hk70 := hs_S65.lt hk58
  have hq71 := hs_S65.kd hq59
  have hk72 := hs_S65.lt hk62
  have hq73 := hs_S65.kd hq63
  refine lv_aload_n hx hb dX9_note_30 rfl (lv_at hl 0 rfl) ?_
  refine g_get (ci := 9) (C := RX9) (T := TX9) (N := 36) hx hb hts hin9 hown hK hG hk66 (cell_9 hq67) rfl 15 (by decide) lk_44 (fun _ h9 => h9) (v := rv ad (gR S65 k0 15)) rfl dX9_note_31 ?_
  refine lv_aload_n hx hb dX9_note_34 rfl (lv_at hl 0 rfl) ?_
  refine g_get (ci := 9) (C := RX9) (T := TX9) (N := 36) hx hb hts hin9 hown hK hG hk66 (cell_9 hq67) rfl 19 (by decide) lk_175 (fun _ h9 => h9) (v := .int (gX S65 k0 19)) rfl dX9_note_35 ?_
  refine lv_sipush (v := 1000) hx hb dX9_note_38 (by decide) ?_
  refine lv_aload_n hx hb dX9_note_41 rfl (lv_at hl 0 rfl) ?_
  refine g_get (ci := 9) (C := RX9) (T := TX9) (N := 36) hx hb hts hin9 hown hK hG hk66 (cell_9 hq67) rfl 6 (by decide) lk_19 (fun _ h9 => h9) (v := rv ad (gR S65 k0 6)) rfl dX9_note_42 ?_
  refine lv_iconst (v := 0) hx hb dX9_note_45 (by decide) ?_
  obtain ⟨q74, e75, h⟩ := h
  refine W.eq (g2 := F0 m 46 ls [.int 0, .ref (ad q74), .int 1000, .int (gX S65 k0 19), rv ad (gR S65 k0 15)]) (by rw [e75]; rfl) ?_
  obtain ⟨hk76, hq77, h⟩ := h
  obtain ⟨hi78, h⟩ := h
  refine r_iald hx hb hK hG hk76 hq77 hi78 dX9_note_46 ?_
  refine lv_imul hx hb dX9_note_47 ?_
  refine lv_aload_n hx hb dX9_note_48 rfl (lv_at hl 0 rfl) ?_
  refine g_get (ci := 9) (C := RX9) (T := TX9) (N := 36) hx hb hts hin9 hown hK hG hk66 (cell_9 hq67) rfl 6 (by decide) lk_19 (fun _ h9 => h9) (v := rv ad (gR S65 k0 6)) rfl dX9_note_49 ?_
  refine lv_iconst (v := 1) hx hb dX9_note_52 (by decide) ?_
  refine W.eq (g2 := F0 m 53 ls [.int 1, .ref (ad q74), .int (1000 * (gX S65 q74 (Int32.toNatClampNeg 0))), .int (gX S65 k0 19), rv ad (gR S65 k0 15)]) (by rw [e75]; rfl) ?_
  obtain ⟨hi79, h⟩ := h
  refine r_iald hx hb hK hG hk76 hq77 hi79 dX9_note_53 ?_
  refine lv_iadd hx hb dX9_note_54 ?_
  obtain ⟨q80, e81, h⟩ := h
  refine W.eq (g2 := F0 m 55 ls [.int ((1000 * (gX S65 q74 (Int32.toNatClampNeg 0))) + (gX S65 q74 (Int32.toNatClampNeg 1))), .int (gX S65 k0 19), .ref (ad q80)]) (by rw [e81]; rfl) ?_
  obtain ⟨hk82, hq83, h⟩ := h
  obtain ⟨hi84, h⟩ := h
  refine r_iast hx hb hK hG hk82 hq83 hi84 dX9_note_55 (fun H locs hG => ?_)
  obtain ⟨S85, eS_S85⟩ : ∃ z : GS, z = sX S65 q80 (Int32.toNatClampNeg (gX S65 k0 19)) ((1000 * (gX S65 q74 (Int32.toNatClampNeg 0))) + (gX S65 q74 (Int32.toNatClampNeg 1))) := ⟨_, rfl⟩
  have h := h S85 eS_S85
  rw [← eS_S85] at hG
  have hs_S85 : gSh S85 S65 := by rw [eS_S85]; exact gSh.x _ _ _ _
  have hsh := hs_S85.tr hsh
  have hk86 := hs_S85.lt hk66
  have hq87 := hs_S85.kd hq67
  have hk88 := hs_S85.lt hk68
  have hq89 := hs_S85.kd hq69
  have hk90 := hs_S85.lt hk70
  have hq91 := hs_S85.kd hq71
  have hk92 := hs_S85.lt hk72
  have hq93 := hs_S85.kd hq73
  have hk94 := hs_S85.lt hk76
  have hq95 := hs_S85.kd hq77
  have hk96 := hs_S85.lt hk82
  have hq97 := hs_S85.kd hq83
  refine lv_aload_n hx hb dX9_note_56 rfl (lv_at hl 0 rfl) ?_
  refine g_get (ci := 9) (C := RX9) (T := TX9) (N := 36) hx hb hts hin9 hown hK hG hk86 (cell_9 hq87) rfl 16 (by decide) lk_47 (fun _ h9 => h9) (v := rv ad (gR S85 k0 16)) rfl dX9_note_57 ?_
  refine lv_aload_n hx hb dX9_note_60 rfl (lv_at hl 0 rfl) ?_
  refine g_get (ci := 9) (C := RX9) (T := TX9) (N := 36) hx hb hts hin9 hown hK hG hk86 (cell_9 hq87) rfl 19 (by decide) lk_175 (fun _ h9 => h9) (v := .int (gX S85 k0 19)) rfl dX9_note_61 ?_
  refine lv_aload_n hx hb dX9_note_64 rfl (lv_at hl 0 rfl) ?_
  refine g_get (ci := 9) (C := RX9) (T := TX9) (N := 36) hx hb hts hin9 hown hK hG hk86 (cell_9 hq87) rfl 6 (by decide) lk_19 (fun _ h9 => h9) (v := rv ad (gR S85 k0 6)) rfl dX9_note_65 ?_
  refine lv_iconst (v := 2) hx hb dX9_note_68 (by decide) ?_
  obtain ⟨q98, e99, h⟩ := h
  refine W.eq (g2 := F0 m 69 ls [.int 2, .ref (ad q98), .int (gX S85 k0 19), rv ad (gR S85 k0 16)]) (by rw [e99]; rfl) ?_
  obtain ⟨hk100, hq101, h⟩ := h
  obtain ⟨hi102, h⟩ := h
  refine r_iald hx hb hK hG hk100 hq101 hi102 dX9_note_69 ?_
  obtain ⟨q103, e104, h⟩ := h
  refine W.eq (g2 := F0 m 70 ls [.int (gX S85 q98 (Int32.toNatClampNeg 2)), .int (gX S85 k0 19), .ref (ad q103)]) (by rw [e104]; rfl) ?_
  obtain ⟨hk105, hq106, h⟩ := h
  obtain ⟨hi107, h⟩ := h
  refine r_iast hx hb hK hG hk105 hq106 hi107 dX9_note_70 (fun H locs hG => ?_)
  obtain ⟨S108, eS_S108⟩ : ∃ z : GS, z = sX S85 q103 (Int32.toNatClampNeg (gX S85 k0 19)) (gX S85 q98 (Int32.toNatClampNeg 2)) := ⟨_, rfl⟩
  have h := h S108 eS_S108
  rw [← eS_S108] at hG
  have hs_S108 : gSh S108 S85 := by rw [eS_S108]; exact gSh.x _ _ _ _
  have hsh := hs_S108.tr hsh
  have hk109 := hs_S108.lt hk86
  have hq110 := hs_S108.kd hq87
  have hk111 := hs_S108.lt hk88
  have hq112 := hs_S108.kd hq89
  have hk113 := hs_S108.lt hk90
  have hq114 := hs_S108.kd hq91
  have hk115 := hs_S108.lt hk92
  have hq116 := hs_S108.kd hq93
  have hk117 := hs_S108.lt hk94
  have hq118 := hs_S108.kd hq95
  have hk119 := hs_S108.lt hk96
  have hq120 := hs_S108.kd hq97
  have hk121 := hs_S108.lt hk100
  have hq122 := hs_S108.kd hq101
  have hk123 := hs_S108.lt hk105
  have hq124 := hs_S108.kd hq106
  refine lv_iconst (v := 3) hx hb dX9_note_71 (by decide) ?_
  refine lv_istore (lv' := [(4, .int 3), (0, .ref (ad k0)), (1, .int x1), (2, .int x2), (3, .int x3)]) hx hb dX9_note_72 hl (by decide) rfl (fun ls hl => ?_)
  refine lv_iload_n hx hb dX9_note_74 rfl (lv_at hl 2 rfl) ?_
  refine r_callS (za := za) (As := [vI x1]) (rest := []) (tX9_sizesOf l S108 x1 _ h) ⟨hx, hb, hml, hown, hts⟩ (cwS 1 hts gX9_note_X9_sizesOf rfl rfl rfl (by decide +kernel) ⟨by decide, by decide⟩) hK hG hA rfl hl.1 rfl (Nat.le_of_ble_eq_true rfl) ⟨Nat.le_refl _, Nat.le_refl _⟩ dX9_note_75 (fun r_9 S125 H locs hp hs_S125 hG => ?_)
  obtain ⟨u126, rfl, h⟩ := hp
  have h := h hs_S125
  refine W.eq (g2 := F0 m 78 ls [.int u126]) rfl ?_
  have hsh := hs_S125.tr hsh
  have hk127 := hs_S125.lt hk109
  have hq128 := hs_S125.kd hq110
  have hk129 := hs_S125.lt hk111
  have hq130 := hs_S125.kd hq112
  have hk131 := hs_S125.lt hk113
  have hq132 := hs_S125.kd hq114
  have hk133 := hs_S125.lt hk115
  have hq134 := hs_S125.kd hq116
  have hk135 := hs_S125.lt hk117
  have hq136 := hs_S125.kd hq118
  have hk137 := hs_S125.lt hk119
  have hq138 := hs_S125.kd hq120
  have hk139 := hs_S125.lt hk121
  have hq140 := hs_S125.kd hq122
  have hk141 := hs_S125.lt hk123
  have hq142 := hs_S125.kd hq124
  refine lv_istore (lv' := [(5, .int u126), (4, .int 3), (0, .ref (ad k0)), (1, .int x1), (2, .int x2), (3, .int x3)]) hx hb dX9_note_78 hl (by decide) rfl (fun ls hl => ?_)
  refine lv_iconst (v := 0) hx hb dX9_note_80 (by decide) ?_
  refine lv_istore (lv' := [(6, .int 0), (5, .int u126), (4, .int 3), (0, .ref (ad k0)), (1, .int x1), (2, .int x2), (3, .int x3)]) hx hb dX9_note_81 hl (by decide) rfl (fun ls hl => ?_)
  obtain ⟨f143, h⟩ := h
  exact b_83 f143 x1 3 u126 0 S125 H locs ls h hsh hG (lv_sub hl [3, 4, 2, 1, 0] rfl)
def wX9_read_81 (Q : Int32 → GS → Prop) (L_4 : Int32 → Int32 → GS → Prop) (L_25 : Int32 → Int32 → Int32 → Int32 → GS → Prop) (k0 : Nat) (x1 : Int32) (x2 : Int32) (x3 : Int32) (x4 : Int32) (S : GS) : Prop :=
  L_25 x1 x2 x3 (x4 + 1) S
def wX9_read_25 (Q : Int32 → GS → Prop) (L_4 : Int32 → Int32 → GS → Prop) (k0 : Nat) : Nat → Int32 → Int32 → Int32 → Int32 → GS → Prop
  | 0, _, _, _, _, _ => False
  | f9 + 1, x1, x2, x3, x4, S =>
  (x3 ≤ x4 → L_4 x1 (x2 + 1) S) ∧ (¬ x3 ≤ x4 → k0 < gN S ∧ gK S k0 = 9 ∧ wX9_makeMould S k0 x2 (x4 / 3) (x4 - x4 / 3 * 3) (fun S3 => gSh S3 S → wX9_reach S3 k0  (fun u8 S7 => gSh S7 S3 → ((gX S7 k0 35) = 0 → (u8 ≤ x1 → wX9_read_81 Q L_4 (wX9_read_25 Q L_4 k0 f9) k0 x1 x2 x3 x4 S7) ∧ (¬ u8 ≤ x1 → wX9_read_81 Q L_4 (wX9_read_25 Q L_4 k0 f9) k0 u8 x2 x3 x4 S7)) ∧ (¬ (gX S7 k0 35) = 0 → wX9_note S7 k0 x2 (x4 / 3) (x4 - x4 / 3 * 3) (fun S11 => gSh S11 S7 → Q (-1) S11)))))
def wX9_read_21 (Q : Int32 → GS → Prop) (L_4 : Int32 → Int32 → GS → Prop) (k0 : Nat) (x1 : Int32) (x2 : Int32) (t0 : Int32) (S : GS) : Prop :=
  ∃ f15 : Nat, wX9_read_25 Q L_4 k0 f15 x1 x2 t0 0 S
def wX9_read_4 (Q : Int32 → GS → Prop) (k0 : Nat) : Nat → Int32 → Int32 → GS → Prop
  | 0, _, _, _ => False
  | f9 + 1, x1, x2, S =>
  ((6 : Int32) < x2 → Q x1 S) ∧ (¬ (6 : Int32) < x2 → ((1 : Int32) < x2 → wX9_read_21 Q (wX9_read_4 Q k0 f9) k0 x1 x2 1 S) ∧ (¬ (1 : Int32) < x2 → wX9_read_21 Q (wX9_read_4 Q k0 f9) k0 x1 x2 9 S))
def wX9_read (S : GS) (k0 : Nat) (Q : Int32 → GS → Prop) : Prop :=
  ∃ f16 : Nat, wX9_read_4 Q k0 f16 0 0 S
set_option maxHeartbeats 4000000 in
set_option maxRecDepth 100000 in
theorem tX9_read (l : Launch) (S : GS) (k0 : Nat) (Q : Int32 → GS → Prop) (h : wX9_read S k0 Q) : CS l yX9_read wsX9_read 4 S [vR (some k0)] (fun r S9 => ∃ x, r = some (vI x) ∧ Q x S9) := by
  refine CS.ofW (cc := cX9_read) (maxL := 6) (ret := (some .int)) RX9 (by decide) rfl rfl (fun _ _ => Nat.le_of_ble_eq_true rfl) ?_
  intro p e s m args below meth c D Y za ad A ls hAe hx hb hr hml hts hown hlocks hK hA hG hl
  obtain ⟨S0, hS0⟩ : ∃ z : GS, z = S := ⟨_, rfl⟩
  rw [← hS0] at hAe
  rw [← hS0]
  have hin9 : ∀ w ∈ wsX90, w ∈ wsX9_read := by decide +kernel
  have lk_156 := hts (.fieldLink RX9 156 "PauseLogModel" "fits" "Z") (by decide +kernel)
  have b_81 : ∀ (L_4 : Int32 → Int32 → GS → Prop) (hL_4 : ∀ (x1 : Int32) (x2 : Int32) (S : GS) (H : Heap) (locs : List Loc) (ls : Array Slot), L_4 x1 x2 S → gSh S S0 → gS D Y ad A s.heap S H locs → lv_has ls 6 [(0, .ref (ad k0)), (1, .int x1), (2, .int x2)] → W p l e (rmD 4) s m args below meth c H locs 0 0 (MQ below (gE D Y za ad S0 s.heap.size (fun r S9 => ∃ x, r = some (vI x) ∧ Q x S9)) args s 0 0 A) (F0 m 4 ls [])) (L_25 : Int32 → Int32 → Int32 → Int32 → GS → Prop) (hL_25 : ∀ (x1 : Int32) (x2 : Int32) (x3 : Int32) (x4 : Int32) (S : GS) (H : Heap) (locs : List Loc) (ls : Array Slot), L_25 x1 x2 x3 x4 S → gSh S S0 → gS D Y ad A s.heap S H locs → lv_has ls 6 [(0, .ref (ad k0)), (1, .int x1), (2, .int x2), (3, .int x3), (4, .int x4)] → W p l e (rmD 4) s m args below meth c H locs 0 0 (MQ below (gE D Y za ad S0 s.heap.size (fun r S9 => ∃ x, r = some (vI x) ∧ Q x S9)) args s 0 0 A) (F0 m 25 ls [])) (x1 : Int32) (x2 : Int32) (x3 : Int32) (x4 : Int32) (S : GS) (H : Heap) (locs : List Loc) (ls : Array Slot), wX9_read_81 Q L_4 L_25 k0 x1 x2 x3 x4 S → gSh S S0 → gS D Y ad A s.heap S H locs → lv_has ls 6 [(0, .ref (ad k0)), (1, .int x1), (2, .int x2), (3, .int x3), (4, .int x4)] → W p l e (rmD 4) s m args below meth c H locs 0 0 (MQ below (gE D Y za ad S0 s.heap.size (fun r S9 => ∃ x, r = some (vI x) ∧ Q x S9)) args s 0 0 A) (F0 m 81 ls []) := by
    intro L_4 hL_4 L_25 hL_25 x1 x2 x3 x4 S H locs ls h hsh hG hl
    unfold wX9_read_81 at h
    refine lv_iinc (v := x4 + 1) (lv' := [(4, .int (x4 + 1)), (0, .ref (ad k0)), (1, .int x1), (2, .int x2), (3, .int x3)]) hx hb dX9_read_81 hl (k := 4) rfl rfl (by decide) rfl (fun ls hl => ?_)
    refine lv_goto (tgt := 25) hx hb dX9_read_84 (by decide) ?_
    exact hL_25 x1 x2 x3 (x4 + 1) S H locs ls h hsh hG (lv_sub hl [1, 2, 3, 4, 0] rfl)
  have b_25 : ∀ (L_4 : Int32 → Int32 → GS → Prop) (hL_4 : ∀ (x1 : Int32) (x2 : Int32) (S : GS) (H : Heap) (locs : List Loc) (ls : Array Slot), L_4 x1 x2 S → gSh S S0 → gS D Y ad A s.heap S H locs → lv_has ls 6 [(0, .ref (ad k0)), (1, .int x1), (2, .int x2)] → W p l e (rmD 4) s m args below meth c H locs 0 0 (MQ below (gE D Y za ad S0 s.heap.size (fun r S9 => ∃ x, r = some (vI x) ∧ Q x S9)) args s 0 0 A) (F0 m 4 ls [])) (f9 : Nat) (x1 : Int32) (x2 : Int32) (x3 : Int32) (x4 : Int32) (S : GS) (H : Heap) (locs : List Loc) (ls : Array Slot), wX9_read_25 Q L_4 k0 f9 x1 x2 x3 x4 S → gSh S S0 → gS D Y ad A s.heap S H locs → lv_has ls 6 [(0, .ref (ad k0)), (1, .int x1), (2, .int x2), (3, .int x3), (4, .int x4)] → W p l e (rmD 4) s m args below meth c H locs 0 0 (MQ below (gE D Y za ad S0 s.heap.size (fun r S9 => ∃ x, r = some (vI x) ∧ Q x S9)) args s 0 0 A) (F0 m 25 ls []) := by
    intro L_4 hL_4 f9
    induction f9 with
    | zero =>
      intro x1 x2 x3 x4 S H locs ls h
      exact False.elim (by unfold wX9_read_25 at h; exact h)
    | succ f9 hL_25 =>
      intro x1 x2 x3 x4 S H locs ls h hsh hG hl
      unfold wX9_read_25 at h
      refine lv_iload hx hb dX9_read_25 (lv_at hl 4 rfl) ?_
      refine lv_iload_n hx hb dX9_read_27 rfl (lv_at hl 3 rfl) ?_
      refine lv_icmp_ge (tgt := 87) hx hb dX9_read_28 (by decide) (fun c_28 => ?_) (fun c_28 => ?_)
      · have h := h.1 c_28
        refine lv_iinc (v := x2 + 1) (lv' := [(2, .int (x2 + 1)), (0, .ref (ad k0)), (1, .int x1), (3, .int x3), (4, .int x4)]) hx hb dX9_read_87 hl (k := 2) rfl rfl (by decide) rfl (fun ls hl => ?_)
        refine lv_goto (tgt := 4) hx hb dX9_read_90 (by decide) ?_
        exact hL_4 x1 (x2 + 1) S H locs ls h hsh hG (lv_sub hl [1, 2, 0] rfl)
      · have h := h.2 c_28
        refine lv_aload_n hx hb dX9_read_31 rfl (lv_at hl 0 rfl) ?_
        refine lv_iload_n hx hb dX9_read_32 rfl (lv_at hl 2 rfl) ?_
        refine lv_iload hx hb dX9_read_33 (lv_at hl 4 rfl) ?_
        refine lv_iconst (v := 3) hx hb dX9_read_35 (by decide) ?_
        refine lv_idiv hx hb dX9_read_36 (by decide) ?_
        refine lv_iload hx hb dX9_read_37 (lv_at hl 4 rfl) ?_
        refine lv_iconst (v := 3) hx hb dX9_read_39 (by decide) ?_
        refine lv_irem hx hb dX9_read_40 (by decide) ?_
        obtain ⟨hk1, hq2, h⟩ := h
        refine r_callV (za := za) (k := k0) (ci := 9) (C := RX9) (T := TX9) (N := 36) (As := [vI x2, vI (x4 / 3), vI (x4 - x4 / 3 * 3)]) (rest := []) (tX9_makeMould l S k0 x2 (x4 / 3) (x4 - x4 / 3 * 3) _ h) ⟨hx, hb, hml, hown, hts⟩ (cwV 3 hts gX9_read_X9_makeMould rfl rfl rfl (by decide +kernel) ⟨by decide, by decide⟩) hK hG hA hk1 (cell_9 hq2) rfl rfl hl.1 rfl (Nat.le_of_ble_eq_true rfl) ⟨Nat.le_refl _, Nat.le_refl _⟩ dX9_read_41 (fun r_9 S3 H locs hp hs_S3 hG => ?_)
        obtain ⟨rfl, h⟩ := hp
        have h := h hs_S3
        refine W.eq (g2 := F0 m 44 ls []) rfl ?_
        have hsh := hs_S3.tr hsh
        have hk5 := hs_S3.lt hk1
        have hq6 := hs_S3.kd hq2
        refine lv_aload_n hx hb dX9_read_44 rfl (lv_at hl 0 rfl) ?_
        refine r_callV (za := za) (k := k0) (ci := 9) (C := RX9) (T := TX9) (N := 36) (As := []) (rest := []) (tX9_reach l S3 k0  _ h) ⟨hx, hb, hml, hown, hts⟩ (cwV 0 hts gX9_read_X9_reach rfl rfl rfl (by decide +kernel) ⟨by decide, by decide⟩) hK hG hA hk5 (cell_9 hq6) rfl rfl hl.1 rfl (Nat.le_of_ble_eq_true rfl) ⟨Nat.le_refl _, Nat.le_refl _⟩ dX9_read_45 (fun r_9 S7 H locs hp hs_S7 hG => ?_)
        obtain ⟨u8, rfl, h⟩ := hp
        have h := h hs_S7
        refine W.eq (g2 := F0 m 48 ls [.int u8]) rfl ?_
        have hsh := hs_S7.tr hsh
        have hk9 := hs_S7.lt hk5
        have hq10 := hs_S7.kd hq6
        refine lv_istore (lv' := [(5, .int u8), (0, .ref (ad k0)), (1, .int x1), (2, .int x2), (3, .int x3), (4, .int x4)]) hx hb dX9_read_48 hl (by decide) rfl (fun ls hl => ?_)
        refine lv_aload_n hx hb dX9_read_50 rfl (lv_at hl 1 rfl) ?_
        refine g_get (ci := 9) (C := RX9) (T := TX9) (N := 36) hx hb hts hin9 hown hK hG hk9 (cell_9 hq10) rfl 35 (by decide) lk_156 (fun _ h9 => h9) (v := .int (gX S7 k0 35)) rfl dX9_read_51 ?_
        refine lv_if_eq (tgt := 72) hx hb dX9_read_54 (by decide) (fun c_54 => ?_) (fun c_54 => ?_)
        · have h := h.1 c_54
          refine lv_iload hx hb dX9_read_72 (lv_at hl 0 rfl) ?_
          refine lv_iload_n hx hb dX9_read_74 rfl (lv_at hl 2 rfl) ?_
          refine lv_icmp_le (tgt := 81) hx hb dX9_read_75 (by decide) (fun c_75 => ?_) (fun c_75 => ?_)
          · have h := h.1 c_75
            exact b_81 L_4 hL_4 (wX9_read_25 Q L_4 k0 f9) hL_25 x1 x2 x3 x4 S7 H locs ls h hsh hG (lv_sub hl [1, 2, 3, 4, 5] rfl)
          · have h := h.2 c_75
            refine lv_iload hx hb dX9_read_78 (lv_at hl 0 rfl) ?_
            refine lv_istore_n (lv' := [(1, .int u8), (5, .int u8), (0, .ref (ad k0)), (2, .int x2), (3, .int x3), (4, .int x4)]) hx hb dX9_read_80 rfl hl (by decide) rfl (fun ls hl => ?_)
            exact b_81 L_4 hL_4 (wX9_read_25 Q L_4 k0 f9) hL_25 u8 x2 x3 x4 S7 H locs ls h hsh hG (lv_sub hl [2, 0, 3, 4, 5] rfl)
        · have h := h.2 c_54
          refine lv_aload_n hx hb dX9_read_57 rfl (lv_at hl 1 rfl) ?_
          refine lv_iload_n hx hb dX9_read_58 rfl (lv_at hl 3 rfl) ?_
          refine lv_iload hx hb dX9_read_59 (lv_at hl 5 rfl) ?_
          refine lv_iconst (v := 3) hx hb dX9_read_61 (by decide) ?_
          refine lv_idiv hx hb dX9_read_62 (by decide) ?_
          refine lv_iload hx hb dX9_read_63 (lv_at hl 5 rfl) ?_
          refine lv_iconst (v := 3) hx hb dX9_read_65 (by decide) ?_
          refine lv_irem hx hb dX9_read_66 (by decide) ?_
          refine r_callV (za := za) (k := k0) (ci := 9) (C := RX9) (T := TX9) (N := 36) (As := [vI x2, vI (x4 / 3), vI (x4 - x4 / 3 * 3)]) (rest := []) (tX9_note l S7 k0 x2 (x4 / 3) (x4 - x4 / 3 * 3) _ h) ⟨hx, hb, hml, hown, hts⟩ (cwV 3 hts gX9_read_X9_note rfl rfl rfl (by decide +kernel) ⟨by decide, by decide⟩) hK hG hA hk9 (cell_9 hq10) rfl rfl hl.1 rfl (Nat.le_of_ble_eq_true rfl) ⟨Nat.le_refl _, Nat.le_refl _⟩ dX9_read_67 (fun r_9 S11 H locs hp hs_S11 hG => ?_)
          obtain ⟨rfl, h⟩ := hp
          have h := h hs_S11
          refine W.eq (g2 := F0 m 70 ls []) rfl ?_
          have hsh := hs_S11.tr hsh
          have hk13 := hs_S11.lt hk9
          have hq14 := hs_S11.kd hq10
          refine lv_iconst (v := (-1)) hx hb dX9_read_70 (by decide) ?_
          exact W.iret (v := (-1)) hx hb hr (fun t ht hW => r_end (r := some (vI (-1))) hAe hG hsh ⟨_, rfl, h⟩ rfl ht) hG.2.2.2.2 dX9_read_71
  have b_21 : ∀ (L_4 : Int32 → Int32 → GS → Prop) (hL_4 : ∀ (x1 : Int32) (x2 : Int32) (S : GS) (H : Heap) (locs : List Loc) (ls : Array Slot), L_4 x1 x2 S → gSh S S0 → gS D Y ad A s.heap S H locs → lv_has ls 6 [(0, .ref (ad k0)), (1, .int x1), (2, .int x2)] → W p l e (rmD 4) s m args below meth c H locs 0 0 (MQ below (gE D Y za ad S0 s.heap.size (fun r S9 => ∃ x, r = some (vI x) ∧ Q x S9)) args s 0 0 A) (F0 m 4 ls [])) (x1 : Int32) (x2 : Int32) (t0 : Int32) (S : GS) (H : Heap) (locs : List Loc) (ls : Array Slot), wX9_read_21 Q L_4 k0 x1 x2 t0 S → gSh S S0 → gS D Y ad A s.heap S H locs → lv_has ls 6 [(0, .ref (ad k0)), (1, .int x1), (2, .int x2)] → W p l e (rmD 4) s m args below meth c H locs 0 0 (MQ below (gE D Y za ad S0 s.heap.size (fun r S9 => ∃ x, r = some (vI x) ∧ Q x S9)) args s 0 0 A) (F0 m 21 ls [.int t0]) := by
    intro L_4 hL_4 x1 x2 t0 S H locs ls h hsh hG hl
    unfold wX9_read_21 at h
    refine lv_istore_n (lv' := [(3, .int t0), (0, .ref (ad k0)), (1, .int x1), (2, .int x2)]) hx hb dX9_read_21 rfl hl (by decide) rfl (fun ls hl => ?_)
    refine lv_iconst (v := 0) hx hb dX9_read_22 (by decide) ?_
    refine lv_istore (lv' := [(4, .int 0), (3, .int t0), (0, .ref (ad k0)), (1, .int x1), (2, .int x2)]) hx hb dX9_read_23 hl (by decide) rfl (fun ls hl => ?_)
    obtain ⟨f15, h⟩ := h
    exact b_25 L_4 hL_4 f15 x1 x2 t0 0 S H locs ls h hsh hG (lv_sub hl [2, 3, 4, 1, 0] rfl)
  have b_4 : ∀  (f9 : Nat) (x1 : Int32) (x2 : Int32) (S : GS) (H : Heap) (locs : List Loc) (ls : Array Slot), wX9_read_4 Q k0 f9 x1 x2 S → gSh S S0 → gS D Y ad A s.heap S H locs → lv_has ls 6 [(0, .ref (ad k0)), (1, .int x1), (2, .int x2)] → W p l e (rmD 4) s m args below meth c H locs 0 0 (MQ below (gE D Y za ad S0 s.heap.size (fun r S9 => ∃ x, r = some (vI x) ∧ Q x S9)) args s 0 0 A) (F0 m 4 ls []) := by
    intro  f9
    induction f9 with
    | zero =>
      intro x1 x2 S H locs ls h
      exact False.elim (by unfold wX9_read_4 at h; exact h)
    | succ f9 hL_4 =>
      intro x1 x2 S H locs ls h hsh hG hl
      unfold wX9_read_4 at h
      refine lv_iload_n hx hb dX9_read_4 rfl (lv_at hl 2 rfl) ?_
      refine lv_bipush (v := 6) hx hb dX9_read_5 (by decide) ?_
      refine lv_icmp_gt (tgt := 93) hx hb dX9_read_7 (by decide) (fun c_7 => ?_) (fun c_7 => ?_)
      · have h := h.1 c_7
        refine lv_iload_n hx hb dX9_read_93 rfl (lv_at hl 1 rfl) ?_
        exact W.iret (v := x1) hx hb hr (fun t ht hW => r_end (r := some (vI x1)) hAe hG hsh ⟨_, rfl, h⟩ rfl ht) hG.2.2.2.2 dX9_read_94
      · have h := h.2 c_7
        refine lv_iload_n hx hb dX9_read_10 rfl (lv_at hl 2 rfl) ?_
        refine lv_iconst (v := 1) hx hb dX9_read_11 (by decide) ?_
        refine lv_icmp_gt (tgt := 20) hx hb dX9_read_12 (by decide) (fun c_12 => ?_) (fun c_12 => ?_)
        · have h := h.1 c_12
          refine lv_iconst (v := 1) hx hb dX9_read_20 (by decide) ?_
          exact b_21 (wX9_read_4 Q k0 f9) hL_4 x1 x2 1 S H locs ls h hsh hG (lv_sub hl [0, 1, 2] rfl)
        · have h := h.2 c_12
          refine lv_bipush (v := 9) hx hb dX9_read_15 (by decide) ?_
          refine lv_goto (tgt := 21) hx hb dX9_read_17 (by decide) ?_
          exact b_21 (wX9_read_4 Q k0 f9) hL_4 x1 x2 9 S H locs ls h hsh hG (lv_sub hl [0, 1, 2] rfl)
  have hl : lv_has ls 6 [(0, .ref (ad k0))] := hl
  have hsh : gSh S S0 := by rw [hS0]; exact gSh.rf S
  obtain ⟨H, eH⟩ : ∃ z : Heap, z = s.heap := ⟨_, rfl⟩
  obtain ⟨locs, eL⟩ : ∃ z : List Loc, z = [] := ⟨_, rfl⟩
  have hG : gS D Y ad A s.heap S H locs := by rw [eH, eL]; exact hG
  suffices hgoal : W p l e (rmD 4) s m args below meth c H locs 0 0 (MQ below (gE D Y za ad S0 s.heap.size (fun r S9 => ∃ x, r = some (vI x) ∧ Q x S9)) args s 0 0 A) (F0 m 0 ls []) by rw [eH, eL] at hgoal; exact hgoal
  unfold wX9_read at h
  refine lv_iconst (v := 0) hx hb dX9_read_0 (by decide) ?_
  refine lv_istore_n (lv' := [(1, .int 0), (0, .ref (ad k0))]) hx hb dX9_read_1 rfl hl (by decide) rfl (fun ls hl => ?_)
  refine lv_iconst (v := 0) hx hb dX9_read_2 (by decide) ?_
  refine lv_istore_n (lv' := [(2, .int 0), (1, .int 0), (0, .ref (ad k0))]) hx hb dX9_read_3 rfl hl (by decide) rfl (fun ls hl => ?_)
  obtain ⟨f16, h⟩ := h
  exact b_4 f16 0 0 S H locs ls h hsh hG (lv_sub hl [2, 1, 0] rfl)
