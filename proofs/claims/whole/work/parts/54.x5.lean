def wX5_addPause_102 (Q : GS → Prop) (k0 : Nat) (x1 : Nat) (S : GS) : Prop :=
  k0 < gN S ∧ gK S k0 = 5 ∧ ∀ S3 : GS, S3 = sR S k0 0 (some x1) → Q S3
def wX5_addPause_51 (Q : GS → Prop) (k0 : Nat) (x1 : Nat) (S : GS) : Prop :=
  k0 < gN S ∧ gK S k0 = 5 ∧ (gR S k0 0 = none → wX5_addPause_102 Q k0 x1 S) ∧ (∀ q8 : Nat, gR S k0 0 = some q8 → x1 < gN S ∧ gK S x1 = 2 ∧ q8 < gN S ∧ gK S q8 = 2 ∧ ∀ S14 : GS, S14 = sZ S k0 3 ((gZ S k0 3) + (Int32.toInt64 ((gX S x1 6) - (gX S q8 7)))) → ∃ q21 : Nat, gR S14 k0 0 = some q21 ∧ q21 < gN S14 ∧ gK S14 q21 = 2 ∧ ∀ S25 : GS, S25 = sZ S14 k0 4 ((gZ S14 k0 4) + (Int32.toInt64 ((gX S14 x1 3) - (gX S14 q21 5)))) → wX5_addPause_102 Q k0 x1 S25)
def wX5_addPause (S : GS) (k0 : Nat) (x1 : Nat) (Q : GS → Prop) : Prop :=
  k0 < gN S ∧ gK S k0 = 5 ∧ ∀ S36 : GS, S36 = sX S k0 1 ((gX S k0 1) + 1) → x1 < gN S36 ∧ gK S36 x1 = 2 ∧ ∀ S41 : GS, S41 = sZ S36 k0 2 ((gZ S36 k0 2) + (Int32.toInt64 (gX S36 x1 9))) → ((gX S41 x1 12) = (-1) → wX5_addPause_51 Q k0 x1 S41) ∧ (¬ (gX S41 x1 12) = (-1) → ∀ S46 : GS, S46 = sZ S41 k0 5 ((gZ S41 k0 5) + (Int32.toInt64 ((gX S41 x1 13) - (gX S41 x1 12)))) → wX5_addPause_51 Q k0 x1 S46)
set_option maxHeartbeats 4000000 in
set_option maxRecDepth 100000 in
theorem tX5_addPause (l : Launch) (S : GS) (k0 : Nat) (x1 : Nat) (Q : GS → Prop) (h : wX5_addPause S k0 x1 Q) : CS l yX5_addPause wsX5_addPause 0 S [vR (some k0), vR (some x1)] (fun r S9 => r = none ∧ Q S9) := by
  refine CS.ofW (cc := cX5_addPause) (maxL := 2) (ret := none) RX5 (by decide) rfl rfl (fun _ _ => Nat.le_of_ble_eq_true rfl) ?_
  intro p e s m args below meth c D Y za ad A ls hAe hx hb hr hml hts hown hlocks hK hA hG hl
  obtain ⟨S0, hS0⟩ : ∃ z : GS, z = S := ⟨_, rfl⟩
  rw [← hS0] at hAe
  rw [← hS0]
  have hin2 : ∀ w ∈ wsX20, w ∈ wsX5_addPause := by decide +kernel
  have hin5 : ∀ w ∈ wsX50, w ∈ wsX5_addPause := by decide +kernel
  have lk_9 := hts (.fieldLink RX5 9 "PauseLog$Sums" "pauses" "I") (by decide +kernel)
  have lk_15 := hts (.fieldLink RX5 15 "PauseLog$Sums" "took" "J") (by decide +kernel)
  have lk_19 := hts (.fieldLink RX5 19 "PauseLog$Event" "took" "I") (by decide +kernel)
  have lk_23 := hts (.fieldLink RX5 23 "PauseLog$Event" "oldBefore" "I") (by decide +kernel)
  have lk_26 := hts (.fieldLink RX5 26 "PauseLog$Sums" "promoted" "J") (by decide +kernel)
  have lk_29 := hts (.fieldLink RX5 29 "PauseLog$Event" "oldAfter" "I") (by decide +kernel)
  have lk_32 := hts (.fieldLink RX5 32 "PauseLog$Sums" "ahead" "LPauseLog$Event;") (by decide +kernel)
  have lk_36 := hts (.fieldLink RX5 36 "PauseLog$Sums" "allocated" "J") (by decide +kernel)
  have lk_39 := hts (.fieldLink RX5 39 "PauseLog$Event" "before" "I") (by decide +kernel)
  have lk_42 := hts (.fieldLink RX5 42 "PauseLog$Event" "after" "I") (by decide +kernel)
  have lk_45 := hts (.fieldLink RX5 45 "PauseLog$Sums" "between" "J") (by decide +kernel)
  have lk_48 := hts (.fieldLink RX5 48 "PauseLog$Event" "beginTime" "I") (by decide +kernel)
  have lk_51 := hts (.fieldLink RX5 51 "PauseLog$Event" "endTime" "I") (by decide +kernel)
  have b_102 : ∀  (x1 : Nat) (S : GS) (H : Heap) (locs : List Loc) (ls : Array Slot), wX5_addPause_102 Q k0 x1 S → gSh S S0 → gS D Y ad A s.heap S H locs → lv_has ls 2 [(0, .ref (ad k0)), (1, .ref (ad x1))] → W p l e (rmD 0) s m args below meth c H locs 0 0 (MQ below (gE D Y za ad S0 s.heap.size (fun r S9 => r = none ∧ Q S9)) args s 0 0 A) (F0 m 102 ls []) := by
    intro  x1 S H locs ls h hsh hG hl
    unfold wX5_addPause_102 at h
    refine lv_aload_n hx hb dX5_addPause_102 rfl (lv_at hl 0 rfl) ?_
    refine lv_aload_n hx hb dX5_addPause_103 rfl (lv_at hl 1 rfl) ?_
    obtain ⟨hk1, hq2, h⟩ := h
    refine r_put (ci := 5) (C := RX5) (T := TX5) (N := 6) hx hb hts hin5 tyX5 tyX5_ok nmX5 hown hK hG hk1 (cell_5 hq2) rfl 0 (by decide) lk_32 (fun _ h9 => h9) rfl rfl rfl (Nat.le_of_ble_eq_true rfl) (S' := sR S k0 0 (some x1)) rfl (pu_5_0 hq2 (some x1)) dX5_addPause_104 (fun H locs hG => ?_)
    obtain ⟨S3, eS_S3⟩ : ∃ z : GS, z = sR S k0 0 (some x1) := ⟨_, rfl⟩
    have h := h S3 eS_S3
    rw [← eS_S3] at hG
    have hs_S3 : gSh S3 S := by rw [eS_S3]; exact gSh.r _ _ _ _
    have hsh := hs_S3.tr hsh
    have hk4 := hs_S3.lt hk1
    have hq5 := hs_S3.kd hq2
    exact W.vret hx hb hr (fun t ht hW => r_end (r := none) hAe hG hsh ⟨rfl, h⟩ rfl ht) hG.2.2.2.2 dX5_addPause_107
  have b_51 : ∀  (x1 : Nat) (S : GS) (H : Heap) (locs : List Loc) (ls : Array Slot), wX5_addPause_51 Q k0 x1 S → gSh S S0 → gS D Y ad A s.heap S H locs → lv_has ls 2 [(0, .ref (ad k0)), (1, .ref (ad x1))] → W p l e (rmD 0) s m args below meth c H locs 0 0 (MQ below (gE D Y za ad S0 s.heap.size (fun r S9 => r = none ∧ Q S9)) args s 0 0 A) (F0 m 51 ls []) := by
    intro  x1 S H locs ls h hsh hG hl
    unfold wX5_addPause_51 at h
    refine lv_aload_n hx hb dX5_addPause_51 rfl (lv_at hl 0 rfl) ?_
    obtain ⟨hk6, hq7, h⟩ := h
    refine g_get (ci := 5) (C := RX5) (T := TX5) (N := 6) hx hb hts hin5 hown hK hG hk6 (cell_5 hq7) rfl 0 (by decide) lk_32 (fun _ h9 => h9) (v := rv ad (gR S k0 0)) rfl dX5_addPause_52 ?_
    cases e9 : gR S k0 0 with
    | none =>
      have h := h.1 e9
      refine W.eq (g2 := F0 m 55 ls [.null]) (by first | rfl | rw [e9]; rfl) ?_
      refine lv_ifnullN (tgt := 102) hx hb dX5_addPause_55 (by decide) ?_
      exact b_102 x1 S H locs ls h hsh hG (lv_sub hl [0, 1] rfl)
    | some q8 =>
      have h := h.2 q8 e9
      refine W.eq (g2 := F0 m 55 ls [.ref (ad q8)]) (by first | rfl | rw [e9]; rfl) ?_
      refine lv_ifnull hx hb dX5_addPause_55 ?_
      refine lv_aload_n hx hb dX5_addPause_58 rfl (lv_at hl 0 rfl) ?_
      refine lv_dup hx hb dX5_addPause_59 rfl ?_
      refine g_get (ci := 5) (C := RX5) (T := TX5) (N := 6) hx hb hts hin5 hown hK hG hk6 (cell_5 hq7) rfl 3 (by decide) lk_36 (fun _ h9 => h9) (v := .long (gZ S k0 3)) rfl dX5_addPause_60 ?_
      refine lv_aload_n hx hb dX5_addPause_63 rfl (lv_at hl 1 rfl) ?_
      obtain ⟨hk10, hq11, h⟩ := h
      refine g_get (ci := 2) (C := RX2) (T := TX2) (N := 15) hx hb hts hin2 hown hK hG hk10 (cell_2 hq11) rfl 6 (by decide) lk_39 (fun _ h9 => h9) (v := .int (gX S x1 6)) rfl dX5_addPause_64 ?_
      refine lv_aload_n hx hb dX5_addPause_67 rfl (lv_at hl 0 rfl) ?_
      refine g_get (ci := 5) (C := RX5) (T := TX5) (N := 6) hx hb hts hin5 hown hK hG hk6 (cell_5 hq7) rfl 0 (by decide) lk_32 (fun _ h9 => h9) (v := rv ad (gR S k0 0)) rfl dX5_addPause_68 ?_
      refine W.eq (g2 := F0 m 71 ls [.ref (ad q8), .int (gX S x1 6), .long (gZ S k0 3), .ref (ad k0)]) (by rw [e9]; rfl) ?_
      obtain ⟨hk12, hq13, h⟩ := h
      refine g_get (ci := 2) (C := RX2) (T := TX2) (N := 15) hx hb hts hin2 hown hK hG hk12 (cell_2 hq13) rfl 7 (by decide) lk_42 (fun _ h9 => h9) (v := .int (gX S q8 7)) rfl dX5_addPause_71 ?_
      refine lv_isub hx hb dX5_addPause_74 ?_
      refine lv_i2l hx hb dX5_addPause_75 rfl ?_
      refine lv_ladd hx hb dX5_addPause_76 ?_
      refine r_put (ci := 5) (C := RX5) (T := TX5) (N := 6) hx hb hts hin5 tyX5 tyX5_ok nmX5 hown hK hG hk6 (cell_5 hq7) rfl 3 (by decide) lk_36 (fun _ h9 => h9) rfl rfl rfl (Nat.le_of_ble_eq_true rfl) (S' := sZ S k0 3 ((gZ S k0 3) + (Int32.toInt64 ((gX S x1 6) - (gX S q8 7))))) rfl (pu_5_3 hq7 ((gZ S k0 3) + (Int32.toInt64 ((gX S x1 6) - (gX S q8 7))))) dX5_addPause_77 (fun H locs hG => ?_)
      obtain ⟨S14, eS_S14⟩ : ∃ z : GS, z = sZ S k0 3 ((gZ S k0 3) + (Int32.toInt64 ((gX S x1 6) - (gX S q8 7)))) := ⟨_, rfl⟩
      have h := h S14 eS_S14
      rw [← eS_S14] at hG
      have hs_S14 : gSh S14 S := by rw [eS_S14]; exact gSh.z _ _ _ _
      have hsh := hs_S14.tr hsh
      have hk15 := hs_S14.lt hk6
      have hq16 := hs_S14.kd hq7
      have hk17 := hs_S14.lt hk10
      have hq18 := hs_S14.kd hq11
      have hk19 := hs_S14.lt hk12
      have hq20 := hs_S14.kd hq13
      refine lv_aload_n hx hb dX5_addPause_80 rfl (lv_at hl 0 rfl) ?_
      refine lv_dup hx hb dX5_addPause_81 rfl ?_
      refine g_get (ci := 5) (C := RX5) (T := TX5) (N := 6) hx hb hts hin5 hown hK hG hk15 (cell_5 hq16) rfl 4 (by decide) lk_45 (fun _ h9 => h9) (v := .long (gZ S14 k0 4)) rfl dX5_addPause_82 ?_
      refine lv_aload_n hx hb dX5_addPause_85 rfl (lv_at hl 1 rfl) ?_
      refine g_get (ci := 2) (C := RX2) (T := TX2) (N := 15) hx hb hts hin2 hown hK hG hk17 (cell_2 hq18) rfl 3 (by decide) lk_48 (fun _ h9 => h9) (v := .int (gX S14 x1 3)) rfl dX5_addPause_86 ?_
      refine lv_aload_n hx hb dX5_addPause_89 rfl (lv_at hl 0 rfl) ?_
      refine g_get (ci := 5) (C := RX5) (T := TX5) (N := 6) hx hb hts hin5 hown hK hG hk15 (cell_5 hq16) rfl 0 (by decide) lk_32 (fun _ h9 => h9) (v := rv ad (gR S14 k0 0)) rfl dX5_addPause_90 ?_
      obtain ⟨q21, e22, h⟩ := h
      refine W.eq (g2 := F0 m 93 ls [.ref (ad q21), .int (gX S14 x1 3), .long (gZ S14 k0 4), .ref (ad k0)]) (by rw [e22]; rfl) ?_
      obtain ⟨hk23, hq24, h⟩ := h
      refine g_get (ci := 2) (C := RX2) (T := TX2) (N := 15) hx hb hts hin2 hown hK hG hk23 (cell_2 hq24) rfl 5 (by decide) lk_51 (fun _ h9 => h9) (v := .int (gX S14 q21 5)) rfl dX5_addPause_93 ?_
      refine lv_isub hx hb dX5_addPause_96 ?_
      refine lv_i2l hx hb dX5_addPause_97 rfl ?_
      refine lv_ladd hx hb dX5_addPause_98 ?_
      refine r_put (ci := 5) (C := RX5) (T := TX5) (N := 6) hx hb hts hin5 tyX5 tyX5_ok nmX5 hown hK hG hk15 (cell_5 hq16) rfl 4 (by decide) lk_45 (fun _ h9 => h9) rfl rfl rfl (Nat.le_of_ble_eq_true rfl) (S' := sZ S14 k0 4 ((gZ S14 k0 4) + (Int32.toInt64 ((gX S14 x1 3) - (gX S14 q21 5))))) rfl (pu_5_4 hq16 ((gZ S14 k0 4) + (Int32.toInt64 ((gX S14 x1 3) - (gX S14 q21 5))))) dX5_addPause_99 (fun H locs hG => ?_)
      obtain ⟨S25, eS_S25⟩ : ∃ z : GS, z = sZ S14 k0 4 ((gZ S14 k0 4) + (Int32.toInt64 ((gX S14 x1 3) - (gX S14 q21 5)))) := ⟨_, rfl⟩
      have h := h S25 eS_S25
      rw [← eS_S25] at hG
      have hs_S25 : gSh S25 S14 := by rw [eS_S25]; exact gSh.z _ _ _ _
      have hsh := hs_S25.tr hsh
      have hk26 := hs_S25.lt hk15
      have hq27 := hs_S25.kd hq16
      have hk28 := hs_S25.lt hk17
      have hq29 := hs_S25.kd hq18
      have hk30 := hs_S25.lt hk19
      have hq31 := hs_S25.kd hq20
      have hk32 := hs_S25.lt hk23
      have hq33 := hs_S25.kd hq24
      exact b_102 x1 S25 H locs ls h hsh hG (lv_sub hl [0, 1] rfl)
  have hl : lv_has ls 2 [(0, .ref (ad k0)), (1, .ref (ad x1))] := hl
  have hsh : gSh S S0 := by rw [hS0]; exact gSh.rf S
  obtain ⟨H, eH⟩ : ∃ z : Heap, z = s.heap := ⟨_, rfl⟩
  obtain ⟨locs, eL⟩ : ∃ z : List Loc, z = [] := ⟨_, rfl⟩
  have hG : gS D Y ad A s.heap S H locs := by rw [eH, eL]; exact hG
  suffices hgoal : W p l e (rmD 0) s m args below meth c H locs 0 0 (MQ below (gE D Y za ad S0 s.heap.size (fun r S9 => r = none ∧ Q S9)) args s 0 0 A) (F0 m 0 ls []) by rw [eH, eL] at hgoal; exact hgoal
  unfold wX5_addPause at h
  refine lv_aload_n hx hb dX5_addPause_0 rfl (lv_at hl 0 rfl) ?_
  refine lv_dup hx hb dX5_addPause_1 rfl ?_
  obtain ⟨hk34, hq35, h⟩ := h
  refine g_get (ci := 5) (C := RX5) (T := TX5) (N := 6) hx hb hts hin5 hown hK hG hk34 (cell_5 hq35) rfl 1 (by decide) lk_9 (fun _ h9 => h9) (v := .int (gX S k0 1)) rfl dX5_addPause_2 ?_
  refine lv_iconst (v := 1) hx hb dX5_addPause_5 (by decide) ?_
  refine lv_iadd hx hb dX5_addPause_6 ?_
  refine r_put (ci := 5) (C := RX5) (T := TX5) (N := 6) hx hb hts hin5 tyX5 tyX5_ok nmX5 hown hK hG hk34 (cell_5 hq35) rfl 1 (by decide) lk_9 (fun _ h9 => h9) rfl rfl rfl (Nat.le_of_ble_eq_true rfl) (S' := sX S k0 1 ((gX S k0 1) + 1)) rfl (pu_5_1 hq35 ((gX S k0 1) + 1)) dX5_addPause_7 (fun H locs hG => ?_)
  obtain ⟨S36, eS_S36⟩ : ∃ z : GS, z = sX S k0 1 ((gX S k0 1) + 1) := ⟨_, rfl⟩
  have h := h S36 eS_S36
  rw [← eS_S36] at hG
  have hs_S36 : gSh S36 S := by rw [eS_S36]; exact gSh.x _ _ _ _
  have hsh := hs_S36.tr hsh
  have hk37 := hs_S36.lt hk34
  have hq38 := hs_S36.kd hq35
  refine lv_aload_n hx hb dX5_addPause_10 rfl (lv_at hl 0 rfl) ?_
  refine lv_dup hx hb dX5_addPause_11 rfl ?_
  refine g_get (ci := 5) (C := RX5) (T := TX5) (N := 6) hx hb hts hin5 hown hK hG hk37 (cell_5 hq38) rfl 2 (by decide) lk_15 (fun _ h9 => h9) (v := .long (gZ S36 k0 2)) rfl dX5_addPause_12 ?_
  refine lv_aload_n hx hb dX5_addPause_15 rfl (lv_at hl 1 rfl) ?_
  obtain ⟨hk39, hq40, h⟩ := h
  refine g_get (ci := 2) (C := RX2) (T := TX2) (N := 15) hx hb hts hin2 hown hK hG hk39 (cell_2 hq40) rfl 9 (by decide) lk_19 (fun _ h9 => h9) (v := .int (gX S36 x1 9)) rfl dX5_addPause_16 ?_
  refine lv_i2l hx hb dX5_addPause_19 rfl ?_
  refine lv_ladd hx hb dX5_addPause_20 ?_
  refine r_put (ci := 5) (C := RX5) (T := TX5) (N := 6) hx hb hts hin5 tyX5 tyX5_ok nmX5 hown hK hG hk37 (cell_5 hq38) rfl 2 (by decide) lk_15 (fun _ h9 => h9) rfl rfl rfl (Nat.le_of_ble_eq_true rfl) (S' := sZ S36 k0 2 ((gZ S36 k0 2) + (Int32.toInt64 (gX S36 x1 9)))) rfl (pu_5_2 hq38 ((gZ S36 k0 2) + (Int32.toInt64 (gX S36 x1 9)))) dX5_addPause_21 (fun H locs hG => ?_)
  obtain ⟨S41, eS_S41⟩ : ∃ z : GS, z = sZ S36 k0 2 ((gZ S36 k0 2) + (Int32.toInt64 (gX S36 x1 9))) := ⟨_, rfl⟩
  have h := h S41 eS_S41
  rw [← eS_S41] at hG
  have hs_S41 : gSh S41 S36 := by rw [eS_S41]; exact gSh.z _ _ _ _
  have hsh := hs_S41.tr hsh
  have hk42 := hs_S41.lt hk37
  have hq43 := hs_S41.kd hq38
  have hk44 := hs_S41.lt hk39
  have hq45 := hs_S41.kd hq40
  refine lv_aload_n hx hb dX5_addPause_24 rfl (lv_at hl 1 rfl) ?_
  refine g_get (ci := 2) (C := RX2) (T := TX2) (N := 15) hx hb hts hin2 hown hK hG hk44 (cell_2 hq45) rfl 12 (by decide) lk_23 (fun _ h9 => h9) (v := .int (gX S41 x1 12)) rfl dX5_addPause_25 ?_
  refine lv_iconst (v := (-1)) hx hb dX5_addPause_28 (by decide) ?_
  refine lv_icmp_eq (tgt := 51) hx hb dX5_addPause_29 (by decide) (fun c_29 => ?_) (fun c_29 => ?_)
  · have h := h.1 c_29
    exact b_51 x1 S41 H locs ls h hsh hG (lv_sub hl [0, 1] rfl)
  · have h := h.2 c_29
    refine lv_aload_n hx hb dX5_addPause_32 rfl (lv_at hl 0 rfl) ?_
    refine lv_dup hx hb dX5_addPause_33 rfl ?_
    refine g_get (ci := 5) (C := RX5) (T := TX5) (N := 6) hx hb hts hin5 hown hK hG hk42 (cell_5 hq43) rfl 5 (by decide) lk_26 (fun _ h9 => h9) (v := .long (gZ S41 k0 5)) rfl dX5_addPause_34 ?_
    refine lv_aload_n hx hb dX5_addPause_37 rfl (lv_at hl 1 rfl) ?_
    refine g_get (ci := 2) (C := RX2) (T := TX2) (N := 15) hx hb hts hin2 hown hK hG hk44 (cell_2 hq45) rfl 13 (by decide) lk_29 (fun _ h9 => h9) (v := .int (gX S41 x1 13)) rfl dX5_addPause_38 ?_
    refine lv_aload_n hx hb dX5_addPause_41 rfl (lv_at hl 1 rfl) ?_
    refine g_get (ci := 2) (C := RX2) (T := TX2) (N := 15) hx hb hts hin2 hown hK hG hk44 (cell_2 hq45) rfl 12 (by decide) lk_23 (fun _ h9 => h9) (v := .int (gX S41 x1 12)) rfl dX5_addPause_42 ?_
    refine lv_isub hx hb dX5_addPause_45 ?_
    refine lv_i2l hx hb dX5_addPause_46 rfl ?_
    refine lv_ladd hx hb dX5_addPause_47 ?_
    refine r_put (ci := 5) (C := RX5) (T := TX5) (N := 6) hx hb hts hin5 tyX5 tyX5_ok nmX5 hown hK hG hk42 (cell_5 hq43) rfl 5 (by decide) lk_26 (fun _ h9 => h9) rfl rfl rfl (Nat.le_of_ble_eq_true rfl) (S' := sZ S41 k0 5 ((gZ S41 k0 5) + (Int32.toInt64 ((gX S41 x1 13) - (gX S41 x1 12))))) rfl (pu_5_5 hq43 ((gZ S41 k0 5) + (Int32.toInt64 ((gX S41 x1 13) - (gX S41 x1 12))))) dX5_addPause_48 (fun H locs hG => ?_)
    obtain ⟨S46, eS_S46⟩ : ∃ z : GS, z = sZ S41 k0 5 ((gZ S41 k0 5) + (Int32.toInt64 ((gX S41 x1 13) - (gX S41 x1 12)))) := ⟨_, rfl⟩
    have h := h S46 eS_S46
    rw [← eS_S46] at hG
    have hs_S46 : gSh S46 S41 := by rw [eS_S46]; exact gSh.z _ _ _ _
    have hsh := hs_S46.tr hsh
    have hk47 := hs_S46.lt hk42
    have hq48 := hs_S46.kd hq43
    have hk49 := hs_S46.lt hk44
    have hq50 := hs_S46.kd hq45
    exact b_51 x1 S46 H locs ls h hsh hG (lv_sub hl [0, 1] rfl)
def wX5_endLog (S : GS) (k0 : Nat) (Q : GS → Prop) : Prop :=
  k0 < gN S ∧ gK S k0 = 5 ∧ ∀ S3 : GS, S3 = sR S k0 0 none → Q S3
set_option maxHeartbeats 4000000 in
set_option maxRecDepth 100000 in
theorem tX5_endLog (l : Launch) (S : GS) (k0 : Nat) (Q : GS → Prop) (h : wX5_endLog S k0 Q) : CS l yX5_endLog wsX5_endLog 0 S [vR (some k0)] (fun r S9 => r = none ∧ Q S9) := by
  refine CS.ofW (cc := cX5_endLog) (maxL := 1) (ret := none) RX5 (by decide) rfl rfl (fun _ _ => Nat.le_of_ble_eq_true rfl) ?_
  intro p e s m args below meth c D Y za ad A ls hAe hx hb hr hml hts hown hlocks hK hA hG hl
  obtain ⟨S0, hS0⟩ : ∃ z : GS, z = S := ⟨_, rfl⟩
  rw [← hS0] at hAe
  rw [← hS0]
  have hin5 : ∀ w ∈ wsX50, w ∈ wsX5_endLog := by decide +kernel
  have lk_32 := hts (.fieldLink RX5 32 "PauseLog$Sums" "ahead" "LPauseLog$Event;") (by decide +kernel)
  have hl : lv_has ls 1 [(0, .ref (ad k0))] := hl
  have hsh : gSh S S0 := by rw [hS0]; exact gSh.rf S
  obtain ⟨H, eH⟩ : ∃ z : Heap, z = s.heap := ⟨_, rfl⟩
  obtain ⟨locs, eL⟩ : ∃ z : List Loc, z = [] := ⟨_, rfl⟩
  have hG : gS D Y ad A s.heap S H locs := by rw [eH, eL]; exact hG
  suffices hgoal : W p l e (rmD 0) s m args below meth c H locs 0 0 (MQ below (gE D Y za ad S0 s.heap.size (fun r S9 => r = none ∧ Q S9)) args s 0 0 A) (F0 m 0 ls []) by rw [eH, eL] at hgoal; exact hgoal
  unfold wX5_endLog at h
  refine lv_aload_n hx hb dX5_endLog_0 rfl (lv_at hl 0 rfl) ?_
  refine lv_null hx hb dX5_endLog_1 ?_
  obtain ⟨hk1, hq2, h⟩ := h
  refine r_put (ci := 5) (C := RX5) (T := TX5) (N := 6) hx hb hts hin5 tyX5 tyX5_ok nmX5 hown hK hG hk1 (cell_5 hq2) rfl 0 (by decide) lk_32 (fun _ h9 => h9) rfl rfl rfl (Nat.le_of_ble_eq_true rfl) (S' := sR S k0 0 none) rfl (pu_5_0 hq2 none) dX5_endLog_2 (fun H locs hG => ?_)
  obtain ⟨S3, eS_S3⟩ : ∃ z : GS, z = sR S k0 0 none := ⟨_, rfl⟩
  have h := h S3 eS_S3
  rw [← eS_S3] at hG
  have hs_S3 : gSh S3 S := by rw [eS_S3]; exact gSh.r _ _ _ _
  have hsh := hs_S3.tr hsh
  have hk4 := hs_S3.lt hk1
  have hq5 := hs_S3.kd hq2
  exact W.vret hx hb hr (fun t ht hW => r_end (r := none) hAe hG hsh ⟨rfl, h⟩ rfl ht) hG.2.2.2.2 dX5_endLog_5
