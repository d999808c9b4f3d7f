def wX6_clear (S : GS) (k0 : Nat) (Q : GS → Prop) : Prop :=
  k0 < gN S ∧ gK S k0 = 6 ∧ ∀ S3 : GS, S3 = sX S k0 1 0 → Q S3
set_option maxHeartbeats 4000000 in
set_option maxRecDepth 100000 in
theorem tX6_clear (l : Launch) (S : GS) (k0 : Nat) (Q : GS → Prop) (h : wX6_clear S k0 Q) : CS l yX6_clear wsX6_clear 0 S [vR (some k0)] (fun r S9 => r = none ∧ Q S9) := by
  refine CS.ofW (cc := cX6_clear) (maxL := 1) (ret := none) RX6 (by decide) rfl rfl (fun _ _ => Nat.le_of_ble_eq_true rfl) ?_
  intro p e s m args below meth c D Y za ad A ls hAe hx hb hr hml hts hown hlocks hK hA hG hl
  obtain ⟨S0, hS0⟩ : ∃ z : GS, z = S := ⟨_, rfl⟩
  rw [← hS0] at hAe
  rw [← hS0]
  have hin6 : ∀ w ∈ wsX60, w ∈ wsX6_clear := by decide +kernel
  have lk_15 := hts (.fieldLink RX6 15 "PauseLog$Text" "length" "I") (by decide +kernel)
  have hl : lv_has ls 1 [(0, .ref (ad k0))] := hl
  have hsh : gSh S S0 := by rw [hS0]; exact gSh.rf S
  obtain ⟨H, eH⟩ : ∃ z : Heap, z = s.heap := ⟨_, rfl⟩
  obtain ⟨locs, eL⟩ : ∃ z : List Loc, z = [] := ⟨_, rfl⟩
  have hG : gS D Y ad A s.heap S H locs := by rw [eH, eL]; exact hG
  suffices hgoal : W p l e (rmD 0) s m args below meth c H locs 0 0 (MQ below (gE D Y za ad S0 s.heap.size (fun r S9 => r = none ∧ Q S9)) args s 0 0 A) (F0 m 0 ls []) by rw [eH, eL] at hgoal; exact hgoal
  unfold wX6_clear at h
  refine lv_aload_n hx hb dX6_clear_0 rfl (lv_at hl 0 rfl) ?_
  refine lv_iconst (v := 0) hx hb dX6_clear_1 (by decide) ?_
  obtain ⟨hk1, hq2, h⟩ := h
  refine r_put (ci := 6) (C := RX6) (T := TX6) (N := 2) hx hb hts hin6 tyX6 tyX6_ok nmX6 hown hK hG hk1 (cell_6 hq2) rfl 1 (by decide) lk_15 (fun _ h9 => h9) rfl rfl rfl (Nat.le_of_ble_eq_true rfl) (S' := sX S k0 1 0) rfl (pu_6_1 hq2 0) dX6_clear_2 (fun H locs hG => ?_)
  obtain ⟨S3, eS_S3⟩ : ∃ z : GS, z = sX S k0 1 0 := ⟨_, rfl⟩
  have h := h S3 eS_S3
  rw [← eS_S3] at hG
  have hs_S3 : gSh S3 S := by rw [eS_S3]; exact gSh.x _ _ _ _
  have hsh := hs_S3.tr hsh
  have hk4 := hs_S3.lt hk1
  have hq5 := hs_S3.kd hq2
  exact W.vret hx hb hr (fun t ht hW => r_end (r := none) hAe hG hsh ⟨rfl, h⟩ rfl ht) hG.2.2.2.2 dX6_clear_5
def wX6_add_19 (Q : Int32 → GS → Prop) (k0 : Nat)  (S : GS) : Prop :=
  Q 0 S
def wX6_add (S : GS) (k0 : Nat) (x1 : Int32) (Q : Int32 → GS → Prop) : Prop :=
  k0 < gN S ∧ gK S k0 = 6 ∧ ((gX S k0 1) < 0 → wX6_add_19 Q k0  S) ∧ (¬ (gX S k0 1) < 0 → ∃ q3 : Nat, gR S k0 0 = some q3 ∧ q3 < gN S ∧ gK S q3 = 10 ∧ ((gX S k0 1) < (nI (gL S q3)) → vp_in (gX S k0 1) (gL S q3) ∧ ∀ S8 : GS, S8 = sX S q3 (Int32.toNatClampNeg (gX S k0 1)) (vp_nar .char x1) → ∀ S13 : GS, S13 = sX S8 k0 1 ((gX S8 k0 1) + 1) → Q 1 S13) ∧ (¬ (gX S k0 1) < (nI (gL S q3)) → wX6_add_19 Q k0  S))
set_option maxHeartbeats 4000000 in
set_option maxRecDepth 100000 in
theorem tX6_add (l : Launch) (S : GS) (k0 : Nat) (x1 : Int32) (Q : Int32 → GS → Prop) (h : wX6_add S k0 x1 Q) : CS l yX6_add wsX6_add 0 S [vR (some k0), vI x1] (fun r S9 => ∃ x, r = some (vI x) ∧ Q x S9) := by
  refine CS.ofW (cc := cX6_add) (maxL := 2) (ret := (some .boolean)) RX6 (by decide) rfl rfl (fun _ _ => Nat.le_of_ble_eq_true rfl) ?_
  intro p e s m args below meth c D Y za ad A ls hAe hx hb hr hml hts hown hlocks hK hA hG hl
  obtain ⟨S0, hS0⟩ : ∃ z : GS, z = S := ⟨_, rfl⟩
  rw [← hS0] at hAe
  rw [← hS0]
  have hin6 : ∀ w ∈ wsX60, w ∈ wsX6_add := by decide +kernel
  have lk_15 := hts (.fieldLink RX6 15 "PauseLog$Text" "length" "I") (by decide +kernel)
  have lk_9 := hts (.fieldLink RX6 9 "PauseLog$Text" "row" "[C") (by decide +kernel)
  have b_19 : ∀   (S : GS) (H : Heap) (locs : List Loc) (ls : Array Slot), wX6_add_19 Q k0  S → gSh S S0 → gS D Y ad A s.heap S H locs → lv_has ls 2 [] → W p l e (rmD 0) s m args below meth c H locs 0 0 (MQ below (gE D Y za ad S0 s.heap.size (fun r S9 => ∃ x, r = some (vI x) ∧ Q x S9)) args s 0 0 A) (F0 m 19 ls []) := by
    intro   S H locs ls h hsh hG hl
    unfold wX6_add_19 at h
    refine lv_iconst (v := 0) hx hb dX6_add_19 (by decide) ?_
    exact W.zret (v := 0) hx hb hr rfl (fun t ht hW => r_end (r := some (vI 0)) hAe hG hsh ⟨_, rfl, h⟩ rfl ht) hG.2.2.2.2 dX6_add_20
  have hl : lv_has ls 2 [(0, .ref (ad k0)), (1, .int x1)] := hl
  have hsh : gSh S S0 := by rw [hS0]; exact gSh.rf S
  obtain ⟨H, eH⟩ : ∃ z : Heap, z = s.heap := ⟨_, rfl⟩
  obtain ⟨locs, eL⟩ : ∃ z : List Loc, z = [] := ⟨_, rfl⟩
  have hG : gS D Y ad A s.heap S H locs := by rw [eH, eL]; exact hG
  suffices hgoal : W p l e (rmD 0) s m args below meth c H locs 0 0 (MQ below (gE D Y za ad S0 s.heap.size (fun r S9 => ∃ x, r = some (vI x) ∧ Q x S9)) args s 0 0 A) (F0 m 0 ls []) by rw [eH, eL] at hgoal; exact hgoal
  unfold wX6_add at h
  refine lv_aload_n hx hb dX6_add_0 rfl (lv_at hl 0 rfl) ?_
  obtain ⟨hk1, hq2, h⟩ := h
  refine g_get (ci := 6) (C := RX6) (T := TX6) (N := 2) hx hb hts hin6 hown hK hG hk1 (cell_6 hq2) rfl 1 (by decide) lk_15 (fun _ h9 => h9) (v := .int (gX S k0 1)) rfl dX6_add_1 ?_
  refine lv_if_lt (tgt := 19) hx hb dX6_add_4 (by decide) (fun c_4 => ?_) (fun c_4 => ?_)
  · have h := h.1 c_4
    exact b_19  S H locs ls h hsh hG (lv_sub hl [] rfl)
  · have h := h.2 c_4
    refine lv_aload_n hx hb dX6_add_7 rfl (lv_at hl 0 rfl) ?_
    refine g_get (ci := 6) (C := RX6) (T := TX6) (N := 2) hx hb hts hin6 hown hK hG hk1 (cell_6 hq2) rfl 1 (by decide) lk_15 (fun _ h9 => h9) (v := .int (gX S k0 1)) rfl dX6_add_8 ?_
    refine lv_aload_n hx hb dX6_add_11 rfl (lv_at hl 0 rfl) ?_
    refine g_get (ci := 6) (C := RX6) (T := TX6) (N := 2) hx hb hts hin6 hown hK hG hk1 (cell_6 hq2) rfl 0 (by decide) lk_9 (fun _ h9 => h9) (v := rv ad (gR S k0 0)) rfl dX6_add_12 ?_
    obtain ⟨q3, e4, h⟩ := h
    refine W.eq (g2 := F0 m 15 ls [.ref (ad q3), .int (gX S k0 1)]) (by rw [e4]; rfl) ?_
    obtain ⟨hk5, hq6, h⟩ := h
    refine r_alen hx hb hK hG hk5 (by first | exact Or.inl hq6 | exact Or.inr (Or.inl hq6) | exact Or.inr (Or.inr hq6)) dX6_add_15 ?_
    refine lv_icmp_lt (tgt := 21) hx hb dX6_add_16 (by decide) (fun c_16 => ?_) (fun c_16 => ?_)
    · have h := h.1 c_16
      refine lv_aload_n hx hb dX6_add_21 rfl (lv_at hl 0 rfl) ?_
      refine g_get (ci := 6) (C := RX6) (T := TX6) (N := 2) hx hb hts hin6 hown hK hG hk1 (cell_6 hq2) rfl 0 (by decide) lk_9 (fun _ h9 => h9) (v := rv ad (gR S k0 0)) rfl dX6_add_22 ?_
      refine lv_aload_n hx hb dX6_add_25 rfl (lv_at hl 0 rfl) ?_
      refine g_get (ci := 6) (C := RX6) (T := TX6) (N := 2) hx hb hts hin6 hown hK hG hk1 (cell_6 hq2) rfl 1 (by decide) lk_15 (fun _ h9 => h9) (v := .int (gX S k0 1)) rfl dX6_add_26 ?_
      refine lv_iload_n hx hb dX6_add_29 rfl (lv_at hl 1 rfl) ?_
      refine W.eq (g2 := F0 m 30 ls [.int x1, .int (gX S k0 1), .ref (ad q3)]) (by rw [e4]; rfl) ?_
      obtain ⟨hi7, h⟩ := h
      refine r_cast hx hb hK hG hk5 hq6 hi7 dX6_add_30 (fun H locs hG => ?_)
      obtain ⟨S8, eS_S8⟩ : ∃ z : GS, z = sX S q3 (Int32.toNatClampNeg (gX S k0 1)) (vp_nar .char x1) := ⟨_, rfl⟩
      have h := h S8 eS_S8
      rw [← eS_S8] at hG
      have hs_S8 : gSh S8 S := by rw [eS_S8]; exact gSh.x _ _ _ _
      have hsh := hs_S8.tr hsh
      have hk9 := hs_S8.lt hk1
      have hq10 := hs_S8.kd hq2
      have hk11 := hs_S8.lt hk5
      have hq12 := hs_S8.kd hq6
      refine lv_aload_n hx hb dX6_add_31 rfl (lv_at hl 0 rfl) ?_
      refine lv_dup hx hb dX6_add_32 rfl ?_
      refine g_get (ci := 6) (C := RX6) (T := TX6) (N := 2) hx hb hts hin6 hown hK hG hk9 (cell_6 hq10) rfl 1 (by decide) lk_15 (fun _ h9 => h9) (v := .int (gX S8 k0 1)) rfl dX6_add_33 ?_
      refine lv_iconst (v := 1) hx hb dX6_add_36 (by decide) ?_
      refine lv_iadd hx hb dX6_add_37 ?_
      refine r_put (ci := 6) (C := RX6) (T := TX6) (N := 2) hx hb hts hin6 tyX6 tyX6_ok nmX6 hown hK hG hk9 (cell_6 hq10) rfl 1 (by decide) lk_15 (fun _ h9 => h9) rfl rfl rfl (Nat.le_of_ble_eq_true rfl) (S' := sX S8 k0 1 ((gX S8 k0 1) + 1)) rfl (pu_6_1 hq10 ((gX S8 k0 1) + 1)) dX6_add_38 (fun H locs hG => ?_)
      obtain ⟨S13, eS_S13⟩ : ∃ z : GS, z = sX S8 k0 1 ((gX S8 k0 1) + 1) := ⟨_, rfl⟩
      have h := h S13 eS_S13
      rw [← eS_S13] at hG
      have hs_S13 : gSh S13 S8 := by rw [eS_S13]; exact gSh.x _ _ _ _
      have hsh := hs_S13.tr hsh
      have hk14 := hs_S13.lt hk9
      have hq15 := hs_S13.kd hq10
      have hk16 := hs_S13.lt hk11
      have hq17 := hs_S13.kd hq12
      refine lv_iconst (v := 1) hx hb dX6_add_41 (by decide) ?_
      exact W.zret (v := 1) hx hb hr rfl (fun t ht hW => r_end (r := some (vI 1)) hAe hG hsh ⟨_, rfl, h⟩ rfl ht) hG.2.2.2.2 dX6_add_42
    · have h := h.2 c_16
      exact b_19  S H locs ls h hsh hG (lv_sub hl [] rfl)
def wX6_cut (S : GS) (k0 : Nat) (x1 : Int32) (Q : Int32 → GS → Prop) : Prop :=
  k0 < gN S ∧ gK S k0 = 6 ∧ ∀ S3 : GS, S3 = sX S k0 1 ((gX S k0 1) - (if (gX S k0 1) < x1 then (gX S k0 1) else x1)) → Q (if (gX S k0 1) < x1 then (gX S k0 1) else x1) S3
set_option maxHeartbeats 4000000 in
set_option maxRecDepth 100000 in
theorem tX6_cut (l : Launch) (S : GS) (k0 : Nat) (x1 : Int32) (Q : Int32 → GS → Prop) (h : wX6_cut S k0 x1 Q) : CS l yX6_cut wsX6_cut 1 S [vR (some k0), vI x1] (fun r S9 => ∃ x, r = some (vI x) ∧ Q x S9) := by
  refine CS.ofW (cc := cX6_cut) (maxL := 3) (ret := (some .int)) RX6 (by decide) rfl rfl (fun _ _ => Nat.le_of_ble_eq_true rfl) ?_
  intro p e s m args below meth c D Y za ad A ls hAe hx hb hr hml hts hown hlocks hK hA hG hl
  obtain ⟨S0, hS0⟩ : ∃ z : GS, z = S := ⟨_, rfl⟩
  rw [← hS0] at hAe
  rw [← hS0]
  have hin6 : ∀ w ∈ wsX60, w ∈ wsX6_cut := by decide +kernel
  have lk_15 := hts (.fieldLink RX6 15 "PauseLog$Text" "length" "I") (by decide +kernel)
  have hl : lv_has ls 3 [(0, .ref (ad k0)), (1, .int x1)] := hl
  have hsh : gSh S S0 := by rw [hS0]; exact gSh.rf S
  obtain ⟨H, eH⟩ : ∃ z : Heap, z = s.heap := ⟨_, rfl⟩
  obtain ⟨locs, eL⟩ : ∃ z : List Loc, z = [] := ⟨_, rfl⟩
  have hG : gS D Y ad A s.heap S H locs := by rw [eH, eL]; exact hG
  suffices hgoal : W p l e (rmD 1) s m args below meth c H locs 0 0 (MQ below (gE D Y za ad S0 s.heap.size (fun r S9 => ∃ x, r = some (vI x) ∧ Q x S9)) args s 0 0 A) (F0 m 0 ls []) by rw [eH, eL] at hgoal; exact hgoal
  unfold wX6_cut at h
  refine lv_iload_n hx hb dX6_cut_0 rfl (lv_at hl 1 rfl) ?_
  refine lv_aload_n hx hb dX6_cut_1 rfl (lv_at hl 0 rfl) ?_
  obtain ⟨hk1, hq2, h⟩ := h
  refine g_get (ci := 6) (C := RX6) (T := TX6) (N := 2) hx hb hts hin6 hown hK hG hk1 (cell_6 hq2) rfl 1 (by decide) lk_15 (fun _ h9 => h9) (v := .int (gX S k0 1)) rfl dX6_cut_2 ?_
  refine va_mmin hx hb (hml.trans hl.1.symm) hown (hts (.methodLink RX6 19 Lib.Math.min.name) (by decide +kernel)) (hts (.static Lib.Math.min.name) (by decide +kernel)) (hts (.initialized "java/lang/Math") (by decide +kernel)) (hts (.code Lib.Math.min.name Lib.Math.min.code 2 (some .int)) (by decide +kernel)) (by decide) (Nat.le_of_ble_eq_true rfl) (Nat.le_refl _) (Nat.le_refl _) dX6_cut_5 ?_
  refine lv_istore_n (lv' := [(2, .int (if (gX S k0 1) < x1 then (gX S k0 1) else x1)), (0, .ref (ad k0)), (1, .int x1)]) hx hb dX6_cut_8 rfl hl (by decide) rfl (fun ls hl => ?_)
  refine lv_aload_n hx hb dX6_cut_9 rfl (lv_at hl 1 rfl) ?_
  refine lv_dup hx hb dX6_cut_10 rfl ?_
  refine g_get (ci := 6) (C := RX6) (T := TX6) (N := 2) hx hb hts hin6 hown hK hG hk1 (cell_6 hq2) rfl 1 (by decide) lk_15 (fun _ h9 => h9) (v := .int (gX S k0 1)) rfl dX6_cut_11 ?_
  refine lv_iload_n hx hb dX6_cut_14 rfl (lv_at hl 0 rfl) ?_
  refine lv_isub hx hb dX6_cut_15 ?_
  refine r_put (ci := 6) (C := RX6) (T := TX6) (N := 2) hx hb hts hin6 tyX6 tyX6_ok nmX6 hown hK hG hk1 (cell_6 hq2) rfl 1 (by decide) lk_15 (fun _ h9 => h9) rfl rfl rfl (Nat.le_of_ble_eq_true rfl) (S' := sX S k0 1 ((gX S k0 1) - (if (gX S k0 1) < x1 then (gX S k0 1) else x1))) rfl (pu_6_1 hq2 ((gX S k0 1) - (if (gX S k0 1) < x1 then (gX S k0 1) else x1))) dX6_cut_16 (fun H locs hG => ?_)
  obtain ⟨S3, eS_S3⟩ : ∃ z : GS, z = sX S k0 1 ((gX S k0 1) - (if (gX S k0 1) < x1 then (gX S k0 1) else x1)) := ⟨_, rfl⟩
  have h := h S3 eS_S3
  rw [← eS_S3] at hG
  have hs_S3 : gSh S3 S := by rw [eS_S3]; exact gSh.x _ _ _ _
  have hsh := hs_S3.tr hsh
  have hk4 := hs_S3.lt hk1
  have hq5 := hs_S3.kd hq2
  refine lv_iload_n hx hb dX6_cut_19 rfl (lv_at hl 0 rfl) ?_
  exact W.iret (v := if (gX S k0 1) < x1 then (gX S k0 1) else x1) hx hb hr (fun t ht hW => r_end (r := some (vI (if (gX S k0 1) < x1 then (gX S k0 1) else x1))) hAe hG hsh ⟨_, rfl, h⟩ rfl ht) hG.2.2.2.2 dX6_cut_20
def wX6_get_21 (Q : Int32 → GS → Prop) (k0 : Nat)  (S : GS) : Prop :=
  Q (-1) S
def wX6_get (S : GS) (k0 : Nat) (x1 : Int32) (Q : Int32 → GS → Prop) : Prop :=
  (x1 < 0 → wX6_get_21 Q k0  S) ∧ (¬ x1 < 0 → k0 < gN S ∧ gK S k0 = 6 ∧ ((gX S k0 1) ≤ x1 → wX6_get_21 Q k0  S) ∧ (¬ (gX S k0 1) ≤ x1 → ∃ q3 : Nat, gR S k0 0 = some q3 ∧ q3 < gN S ∧ gK S q3 = 10 ∧ (x1 < (nI (gL S q3)) → vp_in x1 (gL S q3) ∧ Q (gX S q3 (Int32.toNatClampNeg x1)) S) ∧ (¬ x1 < (nI (gL S q3)) → wX6_get_21 Q k0  S)))
set_option maxHeartbeats 4000000 in
set_option maxRecDepth 100000 in
theorem tX6_get (l : Launch) (S : GS) (k0 : Nat) (x1 : Int32) (Q : Int32 → GS → Prop) (h : wX6_get S k0 x1 Q) : CS l yX6_get wsX6_get 0 S [vR (some k0), vI x1] (fun r S9 => ∃ x, r = some (vI x) ∧ Q x S9) := by
  refine CS.ofW (cc := cX6_get) (maxL := 2) (ret := (some .int)) RX6 (by decide) rfl rfl (fun _ _ => Nat.le_of_ble_eq_true rfl) ?_
  intro p e s m args below meth c D Y za ad A ls hAe hx hb hr hml hts hown hlocks hK hA hG hl
  obtain ⟨S0, hS0⟩ : ∃ z : GS, z = S := ⟨_, rfl⟩
  rw [← hS0] at hAe
  rw [← hS0]
  have hin6 : ∀ w ∈ wsX60, w ∈ wsX6_get := by decide +kernel
  have lk_15 := hts (.fieldLink RX6 15 "PauseLog$Text" "length" "I") (by decide +kernel)
  have lk_9 := hts (.fieldLink RX6 9 "PauseLog$Text" "row" "[C") (by decide +kernel)
  have b_21 : ∀   (S : GS) (H : Heap) (locs : List Loc) (ls : Array Slot), wX6_get_21 Q k0  S → gSh S S0 → gS D Y ad A s.heap S H locs → lv_has ls 2 [] → W p l e (rmD 0) s m args below meth c H locs 0 0 (MQ below (gE D Y za ad S0 s.heap.size (fun r S9 => ∃ x, r = some (vI x) ∧ Q x S9)) args s 0 0 A) (F0 m 21 ls []) := by
    intro   S H locs ls h hsh hG hl
    unfold wX6_get_21 at h
    refine lv_iconst (v := (-1)) hx hb dX6_get_21 (by decide) ?_
    exact W.iret (v := (-1)) hx hb hr (fun t ht hW => r_end (r := some (vI (-1))) hAe hG hsh ⟨_, rfl, h⟩ rfl ht) hG.2.2.2.2 dX6_get_22
  have hl : lv_has ls 2 [(0, .ref (ad k0)), (1, .int x1)] := hl
  have hsh : gSh S S0 := by rw [hS0]; exact gSh.rf S
  obtain ⟨H, eH⟩ : ∃ z : Heap, z = s.heap := ⟨_, rfl⟩
  obtain ⟨locs, eL⟩ : ∃ z : List Loc, z = [] := ⟨_, rfl⟩
  have hG : gS D Y ad A s.heap S H locs := by rw [eH, eL]; exact hG
  suffices hgoal : W p l e (rmD 0) s m args below meth c H locs 0 0 (MQ below (gE D Y za ad S0 s.heap.size (fun r S9 => ∃ x, r = some (vI x) ∧ Q x S9)) args s 0 0 A) (F0 m 0 ls []) by rw [eH, eL] at hgoal; exact hgoal
  unfold wX6_get at h
  refine lv_iload_n hx hb dX6_get_0 rfl (lv_at hl 1 rfl) ?_
  refine lv_if_lt (tgt := 21) hx hb dX6_get_1 (by decide) (fun c_1 => ?_) (fun c_1 => ?_)
  · have h := h.1 c_1
    exact b_21  S H locs ls h hsh hG (lv_sub hl [] rfl)
  · have h := h.2 c_1
    refine lv_iload_n hx hb dX6_get_4 rfl (lv_at hl 1 rfl) ?_
    refine lv_aload_n hx hb dX6_get_5 rfl (lv_at hl 0 rfl) ?_
    obtain ⟨hk1, hq2, h⟩ := h
    refine g_get (ci := 6) (C := RX6) (T := TX6) (N := 2) hx hb hts hin6 hown hK hG hk1 (cell_6 hq2) rfl 1 (by decide) lk_15 (fun _ h9 => h9) (v := .int (gX S k0 1)) rfl dX6_get_6 ?_
    refine lv_icmp_ge (tgt := 21) hx hb dX6_get_9 (by decide) (fun c_9 => ?_) (fun c_9 => ?_)
    · have h := h.1 c_9
      exact b_21  S H locs ls h hsh hG (lv_sub hl [] rfl)
    · have h := h.2 c_9
      refine lv_iload_n hx hb dX6_get_12 rfl (lv_at hl 1 rfl) ?_
      refine lv_aload_n hx hb dX6_get_13 rfl (lv_at hl 0 rfl) ?_
      refine g_get (ci := 6) (C := RX6) (T := TX6) (N := 2) hx hb hts hin6 hown hK hG hk1 (cell_6 hq2) rfl 0 (by decide) lk_9 (fun _ h9 => h9) (v := rv ad (gR S k0 0)) rfl dX6_get_14 ?_
      obtain ⟨q3, e4, h⟩ := h
      refine W.eq (g2 := F0 m 17 ls [.ref (ad q3), .int x1]) (by rw [e4]; rfl) ?_
      obtain ⟨hk5, hq6, h⟩ := h
      refine r_alen hx hb hK hG hk5 (by first | exact Or.inl hq6 | exact Or.inr (Or.inl hq6) | exact Or.inr (Or.inr hq6)) dX6_get_17 ?_
      refine lv_icmp_lt (tgt := 23) hx hb dX6_get_18 (by decide) (fun c_18 => ?_) (fun c_18 => ?_)
      · have h := h.1 c_18
        refine lv_aload_n hx hb dX6_get_23 rfl (lv_at hl 0 rfl) ?_
        refine g_get (ci := 6) (C := RX6) (T := TX6) (N := 2) hx hb hts hin6 hown hK hG hk1 (cell_6 hq2) rfl 0 (by decide) lk_9 (fun _ h9 => h9) (v := rv ad (gR S k0 0)) rfl dX6_get_24 ?_
        refine lv_iload_n hx hb dX6_get_27 rfl (lv_at hl 1 rfl) ?_
        refine W.eq (g2 := F0 m 28 ls [.int x1, .ref (ad q3)]) (by rw [e4]; rfl) ?_
        obtain ⟨hi7, h⟩ := h
        refine r_cald hx hb hK hG hk5 hq6 hi7 dX6_get_28 ?_
        exact W.iret (v := gX S q3 (Int32.toNatClampNeg x1)) hx hb hr (fun t ht hW => r_end (r := some (vI (gX S q3 (Int32.toNatClampNeg x1)))) hAe hG hsh ⟨_, rfl, h⟩ rfl ht) hG.2.2.2.2 dX6_get_29
      · have h := h.2 c_18
        exact b_21  S H locs ls h hsh hG (lv_sub hl [] rfl)
def wX6_addNumber_33 (Q : GS → Prop) (L_4 : Int32 → Int32 → GS → Prop) (k0 : Nat) (x1 : Int32) (x2 : Int32) (S : GS) : Prop :=
  L_4 x1 (x2 / 10) S
def wX6_addNumber_18 (Q : GS → Prop) (L_4 : Int32 → Int32 → GS → Prop) (k0 : Nat) (x1 : Int32) (x2 : Int32) (S : GS) : Prop :=
  ¬ x2 = 0 ∧ k0 < gN S ∧ gK S k0 = 6 ∧ wX6_add S k0 (UInt32.toInt32 ((Int32.toUInt32 (48 + ((x1 / x2) - (x1 / x2) / 10 * 10))) % 65536)) (fun u5 S4 => gSh S4 S → wX6_addNumber_33 Q L_4 k0 x1 x2 S4)
def wX6_addNumber_4 (Q : GS → Prop) (k0 : Nat) : Nat → Int32 → Int32 → GS → Prop
  | 0, _, _, _ => False
  | f9 + 1, x1, x2, S =>
  (x2 ≤ 0 → Q S) ∧ (¬ x2 ≤ 0 → (x2 ≤ x1 → wX6_addNumber_18 Q (wX6_addNumber_4 Q k0 f9) k0 x1 x2 S) ∧ (¬ x2 ≤ x1 → (¬ x2 = 1 → wX6_addNumber_33 Q (wX6_addNumber_4 Q k0 f9) k0 x1 x2 S) ∧ (x2 = 1 → wX6_addNumber_18 Q (wX6_addNumber_4 Q k0 f9) k0 x1 x2 S)))
def wX6_addNumber (S : GS) (k0 : Nat) (x1 : Int32) (Q : GS → Prop) : Prop :=
  ∃ f8 : Nat, wX6_addNumber_4 Q k0 f8 x1 10000 S
set_option maxHeartbeats 4000000 in
set_option maxRecDepth 100000 in
theorem tX6_addNumber (l : Launch) (S : GS) (k0 : Nat) (x1 : Int32) (Q : GS → Prop) (h : wX6_addNumber S k0 x1 Q) : CS l yX6_addNumber wsX6_addNumber 1 S [vR (some k0), vI x1] (fun r S9 => r = none ∧ Q S9) := by
  refine CS.ofW (cc := cX6_addNumber) (maxL := 3) (ret := none) RX6 (by decide) rfl rfl (fun _ _ => Nat.le_of_ble_eq_true rfl) ?_
  intro p e s m args below meth c D Y za ad A ls hAe hx hb hr hml hts hown hlocks hK hA hG hl
  obtain ⟨S0, hS0⟩ : ∃ z : GS, z = S := ⟨_, rfl⟩
  rw [← hS0] at hAe
  rw [← hS0]
  have b_33 : ∀ (L_4 : Int32 → Int32 → GS → Prop) (hL_4 : ∀ (x1 : Int32) (x2 : Int32) (S : GS) (H : Heap) (locs : List Loc) (ls : Array Slot), L_4 x1 x2 S → gSh S S0 → gS D Y ad A s.heap S H locs → lv_has ls 3 [(0, .ref (ad k0)), (1, .int x1), (2, .int x2)] → W p l e (rmD 1) s m args below meth c H locs 0 0 (MQ below (gE D Y za ad S0 s.heap.size (fun r S9 => r = none ∧ Q S9)) args s 0 0 A) (F0 m 4 ls [])) (x1 : Int32) (x2 : Int32) (S : GS) (H : Heap) (locs : List Loc) (ls : Array Slot), wX6_addNumber_33 Q L_4 k0 x1 x2 S → gSh S S0 → gS D Y ad A s.heap S H locs → lv_has ls 3 [(0, .ref (ad k0)), (1, .int x1), (2, .int x2)] → W p l e (rmD 1) s m args below meth c H locs 0 0 (MQ below (gE D Y za ad S0 s.heap.size (fun r S9 => r = none ∧ Q S9)) args s 0 0 A) (F0 m 33 ls []) := by
    intro L_4 hL_4 x1 x2 S H locs ls h hsh hG hl
    unfold wX6_addNumber_33 at h
    refine lv_iload_n hx hb dX6_addNumber_33 rfl (lv_at hl 2 rfl) ?_
    refine lv_bipush (v := 10) hx hb dX6_addNumber_34 (by decide) ?_
    refine lv_idiv hx hb dX6_addNumber_36 (by decide) ?_
    refine lv_istore_n (lv' := [(2, .int (x2 / 10)), (0, .ref (ad k0)), (1, .int x1)]) hx hb dX6_addNumber_37 rfl hl (by decide) rfl (fun ls hl => ?_)
    refine lv_goto (tgt := 4) hx hb dX6_addNumber_38 (by decide) ?_
    exact hL_4 x1 (x2 / 10) S H locs ls h hsh hG (lv_sub hl [1, 2, 0] rfl)
  have b_18 : ∀ (L_4 : Int32 → Int32 → GS → Prop) (hL_4 : ∀ (x1 : Int32) (x2 : Int32) (S : GS) (H : Heap) (locs : List Loc) (ls : Array Slot), L_4 x1 x2 S → gSh S S0 → gS D Y ad A s.heap S H locs → lv_has ls 3 [(0, .ref (ad k0)), (1, .int x1), (2, .int x2)] → W p l e (rmD 1) s m args below meth c H locs 0 0 (MQ below (gE D Y za ad S0 s.heap.size (fun r S9 => r = none ∧ Q S9)) args s 0 0 A) (F0 m 4 ls [])) (x1 : Int32) (x2 : Int32) (S : GS) (H : Heap) (locs : List Loc) (ls : Array Slot), wX6_addNumber_18 Q L_4 k0 x1 x2 S → gSh S S0 → gS D Y ad A s.heap S H locs → lv_has ls 3 [(0, .ref (ad k0)), (1, .int x1), (2, .int x2)] → W p l e (rmD 1) s m args below meth c H locs 0 0 (MQ below (gE D Y za ad S0 s.heap.size (fun r S9 => r = none ∧ Q S9)) args s 0 0 A) (F0 m 18 ls []) := by
    intro L_4 hL_4 x1 x2 S H locs ls h hsh hG hl
    unfold wX6_addNumber_18 at h
    refine lv_aload_n hx hb dX6_addNumber_18 rfl (lv_at hl 0 rfl) ?_
    refine lv_bipush (v := 48) hx hb dX6_addNumber_19 (by decide) ?_
    refine lv_iload_n hx hb dX6_addNumber_21 rfl (lv_at hl 1 rfl) ?_
    refine lv_iload_n hx hb dX6_addNumber_22 rfl (lv_at hl 2 rfl) ?_
    obtain ⟨hd1, h⟩ := h
    refine lv_idiv hx hb dX6_addNumber_23 hd1 ?_
    refine lv_bipush (v := 10) hx hb dX6_addNumber_24 (by decide) ?_
    refine lv_irem hx hb dX6_addNumber_26 (by decide) ?_
    refine lv_iadd hx hb dX6_addNumber_27 ?_
    refine lv_i2c hx hb dX6_addNumber_28 rfl ?_
    obtain ⟨hk2, hq3, h⟩ := h
    refine r_callV (za := za) (k := k0) (ci := 6) (C := RX6) (T := TX6) (N := 2) (As := [vI (UInt32.toInt32 ((Int32.toUInt32 (48 + ((x1 / x2) - (x1 / x2) / 10 * 10))) % 65536))]) (rest := []) (tX6_add l S k0 (UInt32.toInt32 ((Int32.toUInt32 (48 + ((x1 / x2) - (x1 / x2) / 10 * 10))) % 65536)) _ h) ⟨hx, hb, hml, hown, hts⟩ (cwV 1 hts gX6_addNumber_X6_add rfl rfl rfl (by decide +kernel) ⟨by decide, by decide⟩) hK hG hA hk2 (cell_6 hq3) rfl rfl hl.1 rfl (Nat.le_of_ble_eq_true rfl) ⟨Nat.zero_le _, Nat.zero_le _⟩ dX6_addNumber_29 (fun r_9 S4 H locs hp hs_S4 hG => ?_)
    obtain ⟨u5, rfl, h⟩ := hp
    have h := h hs_S4
    refine W.eq (g2 := F0 m 32 ls [.int u5]) rfl ?_
    have hsh := hs_S4.tr hsh
    have hk6 := hs_S4.lt hk2
    have hq7 := hs_S4.kd hq3
    refine lv_pop hx hb dX6_addNumber_32 rfl ?_
    exact b_33 L_4 hL_4 x1 x2 S4 H locs ls h hsh hG (lv_sub hl [0, 1, 2] rfl)
  have b_4 : ∀  (f9 : Nat) (x1 : Int32) (x2 : Int32) (S : GS) (H : Heap) (locs : List Loc) (ls : Array Slot), wX6_addNumber_4 Q k0 f9 x1 x2 S → gSh S S0 → gS D Y ad A s.heap S H locs → lv_has ls 3 [(0, .ref (ad k0)), (1, .int x1), (2, .int x2)] → W p l e (rmD 1) s m args below meth c H locs 0 0 (MQ below (gE D Y za ad S0 s.heap.size (fun r S9 => r = none ∧ Q S9)) args s 0 0 A) (F0 m 4 ls []) := by
    intro  f9
    induction f9 with
    | zero =>
      intro x1 x2 S H locs ls h
      exact False.elim (by unfold wX6_addNumber_4 at h; exact h)
    | succ f9 hL_4 =>
      intro x1 x2 S H locs ls h hsh hG hl
      unfold wX6_addNumber_4 at h
      refine lv_iload_n hx hb dX6_addNumber_4 rfl (lv_at hl 2 rfl) ?_
      refine lv_if_le (tgt := 41) hx hb dX6_addNumber_5 (by decide) (fun c_5 => ?_) (fun c_5 => ?_)
      · have h := h.1 c_5
        exact W.vret hx hb hr (fun t ht hW => r_end (r := none) hAe hG hsh ⟨rfl, h⟩ rfl ht) hG.2.2.2.2 dX6_addNumber_41
      · have h := h.2 c_5
        refine lv_iload_n hx hb dX6_addNumber_8 rfl (lv_at hl 1 rfl) ?_
        refine lv_iload_n hx hb dX6_addNumber_9 rfl (lv_at hl 2 rfl) ?_
        refine lv_icmp_ge (tgt := 18) hx hb dX6_addNumber_10 (by decide) (fun c_10 => ?_) (fun c_10 => ?_)
        · have h := h.1 c_10
          exact b_18 (wX6_addNumber_4 Q k0 f9) hL_4 x1 x2 S H locs ls h hsh hG (lv_sub hl [0, 1, 2] rfl)
        · have h := h.2 c_10
          refine lv_iload_n hx hb dX6_addNumber_13 rfl (lv_at hl 2 rfl) ?_
          refine lv_iconst (v := 1) hx hb dX6_addNumber_14 (by decide) ?_
          refine lv_icmp_ne (tgt := 33) hx hb dX6_addNumber_15 (by decide) (fun c_15 => ?_) (fun c_15 => ?_)
          · have h := h.1 c_15
            exact b_33 (wX6_addNumber_4 Q k0 f9) hL_4 x1 x2 S H locs ls h hsh hG (lv_sub hl [0, 1, 2] rfl)
          · have h := h.2 c_15
            exact b_18 (wX6_addNumber_4 Q k0 f9) hL_4 x1 x2 S H locs ls h hsh hG (lv_sub hl [0, 1, 2] rfl)
  have hl : lv_has ls 3 [(0, .ref (ad k0)), (1, .int x1)] := hl
  have hsh : gSh S S0 := by rw [hS0]; exact gSh.rf S
  obtain ⟨H, eH⟩ : ∃ z : Heap, z = s.heap := ⟨_, rfl⟩
  obtain ⟨locs, eL⟩ : ∃ z : List Loc, z = [] := ⟨_, rfl⟩
  have hG : gS D Y ad A s.heap S H locs := by rw [eH, eL]; exact hG
  suffices hgoal : W p l e (rmD 1) s m args below meth c H locs 0 0 (MQ below (gE D Y za ad S0 s.heap.size (fun r S9 => r = none ∧ Q S9)) args s 0 0 A) (F0 m 0 ls []) by rw [eH, eL] at hgoal; exact hgoal
  unfold wX6_addNumber at h
  refine lv_sipush (v := 10000) hx hb dX6_addNumber_0 (by decide) ?_
  refine lv_istore_n (lv' := [(2, .int 10000), (0, .ref (ad k0)), (1, .int x1)]) hx hb dX6_addNumber_3 rfl hl (by decide) rfl (fun ls hl => ?_)
  obtain ⟨f8, h⟩ := h
  exact b_4 f8 x1 10000 S H locs ls h hsh hG (lv_sub hl [1, 2, 0] rfl)
def wX6_addDecimal (S : GS) (k0 : Nat) (x1 : Int32) (Q : GS → Prop) : Prop :=
  k0 < gN S ∧ gK S k0 = 6 ∧ wX6_addNumber S k0 (x1 / 1000) (fun S3 => gSh S3 S → wX6_add S3 k0 46 (fun u8 S7 => gSh S7 S3 → wX6_add S7 k0 (UInt32.toInt32 ((Int32.toUInt32 (48 + ((x1 / 100) - (x1 / 100) / 10 * 10))) % 65536)) (fun u12 S11 => gSh S11 S7 → wX6_add S11 k0 (UInt32.toInt32 ((Int32.toUInt32 (48 + ((x1 / 10) - (x1 / 10) / 10 * 10))) % 65536)) (fun u16 S15 => gSh S15 S11 → wX6_add S15 k0 (UInt32.toInt32 ((Int32.toUInt32 (48 + (x1 - x1 / 10 * 10))) % 65536)) (fun u20 S19 => gSh S19 S15 → Q S19)))))
set_option maxHeartbeats 4000000 in
set_option maxRecDepth 100000 in
theorem tX6_addDecimal (l : Launch) (S : GS) (k0 : Nat) (x1 : Int32) (Q : GS → Prop) (h : wX6_addDecimal S k0 x1 Q) : CS l yX6_addDecimal wsX6_addDecimal 2 S [vR (some k0), vI x1] (fun r S9 => r = none ∧ Q S9) := by
  refine CS.ofW (cc := cX6_addDecimal) (maxL := 2) (ret := none) RX6 (by decide) rfl rfl (fun _ _ => Nat.le_of_ble_eq_true rfl) ?_
  intro p e s m args below meth c D Y za ad A ls hAe hx hb hr hml hts hown hlocks hK hA hG hl
  obtain ⟨S0, hS0⟩ : ∃ z : GS, z = S := ⟨_, rfl⟩
  rw [← hS0] at hAe
  rw [← hS0]
  have hl : lv_has ls 2 [(0, .ref (ad k0)), (1, .int x1)] := hl
  have hsh : gSh S S0 := by rw [hS0]; exact gSh.rf S
  obtain ⟨H, eH⟩ : ∃ z : Heap, z = s.heap := ⟨_, rfl⟩
  obtain ⟨locs, eL⟩ : ∃ z : List Loc, z = [] := ⟨_, rfl⟩
  have hG : gS D Y ad A s.heap S H locs := by rw [eH, eL]; exact hG
  suffices hgoal : W p l e (rmD 2) s m args below meth c H locs 0 0 (MQ below (gE D Y za ad S0 s.heap.size (fun r S9 => r = none ∧ Q S9)) args s 0 0 A) (F0 m 0 ls []) by rw [eH, eL] at hgoal; exact hgoal
  unfold wX6_addDecimal at h
  refine lv_aload_n hx hb dX6_addDecimal_0 rfl (lv_at hl 0 rfl) ?_
  refine lv_iload_n hx hb dX6_addDecimal_1 rfl (lv_at hl 1 rfl) ?_
  refine lv_sipush (v := 1000) hx hb dX6_addDecimal_2 (by decide) ?_
  refine lv_idiv hx hb dX6_addDecimal_5 (by decide) ?_
  obtain ⟨hk1, hq2, h⟩ := h
  refine r_callV (za := za) (k := k0) (ci := 6) (C := RX6) (T := TX6) (N := 2) (As := [vI (x1 / 1000)]) (rest := []) (tX6_addNumber l S k0 (x1 / 1000) _ h) ⟨hx, hb, hml, hown, hts⟩ (cwV 1 hts gX6_addDecimal_X6_addNumber rfl rfl rfl (by decide +kernel) ⟨by decide, by decide⟩) hK hG hA hk1 (cell_6 hq2) rfl rfl hl.1 rfl (Nat.le_of_ble_eq_true rfl) ⟨Nat.zero_le _, Nat.zero_le _⟩ dX6_addDecimal_6 (fun r_9 S3 H locs hp hs_S3 hG => ?_)
  obtain ⟨rfl, h⟩ := hp
  have h := h hs_S3
  refine W.eq (g2 := F0 m 9 ls []) rfl ?_
  have hsh := hs_S3.tr hsh
  have hk5 := hs_S3.lt hk1
  have hq6 := hs_S3.kd hq2
  refine lv_aload_n hx hb dX6_addDecimal_9 rfl (lv_at hl 0 rfl) ?_
  refine lv_bipush (v := 46) hx hb dX6_addDecimal_10 (by decide) ?_
  refine r_callV (za := za) (k := k0) (ci := 6) (C := RX6) (T := TX6) (N := 2) (As := [vI 46]) (rest := []) (tX6_add l S3 k0 46 _ h) ⟨hx, hb, hml, hown, hts⟩ (cwV 1 hts gX6_addDecimal_X6_add rfl rfl rfl (by decide +kernel) ⟨by decide, by decide⟩) hK hG hA hk5 (cell_6 hq6) rfl rfl hl.1 rfl (Nat.le_of_ble_eq_true rfl) ⟨Nat.zero_le _, Nat.zero_le _⟩ dX6_addDecimal_12 (fun r_9 S7 H locs hp hs_S7 hG => ?_)
  obtain ⟨u8, rfl, h⟩ := hp
  have h := h hs_S7
  refine W.eq (g2 := F0 m 15 ls [.int u8]) rfl ?_
  have hsh := hs_S7.tr hsh
  have hk9 := hs_S7.lt hk5
  have hq10 := hs_S7.kd hq6
  refine lv_pop hx hb dX6_addDecimal_15 rfl ?_
  refine lv_aload_n hx hb dX6_addDecimal_16 rfl (lv_at hl 0 rfl) ?_
  refine lv_bipush (v := 48) hx hb dX6_addDecimal_17 (by decide) ?_
  refine lv_iload_n hx hb dX6_addDecimal_19 rfl (lv_at hl 1 rfl) ?_
  refine lv_bipush (v := 100) hx hb dX6_addDecimal_20 (by decide) ?_
  refine lv_idiv hx hb dX6_addDecimal_22 (by decide) ?_
  refine lv_bipush (v := 10) hx hb dX6_addDecimal_23 (by decide) ?_
  refine lv_irem hx hb dX6_addDecimal_25 (by decide) ?_
  refine lv_iadd hx hb dX6_addDecimal_26 ?_
  refine lv_i2c hx hb dX6_addDecimal_27 rfl ?_
  refine r_callV (za := za) (k := k0) (ci := 6) (C := RX6) (T := TX6) (N := 2) (As := [vI (UInt32.toInt32 ((Int32.toUInt32 (48 + ((x1 / 100) - (x1 / 100) / 10 * 10))) % 65536))]) (rest := []) (tX6_add l S7 k0 (UInt32.toInt32 ((Int32.toUInt32 (48 + ((x1 / 100) - (x1 / 100) / 10 * 10))) % 65536)) _ h) ⟨hx, hb, hml, hown, hts⟩ (cwV 1 hts gX6_addDecimal_X6_add rfl rfl rfl (by decide +kernel) ⟨by decide, by decide⟩) hK hG hA hk9 (cell_6 hq10) rfl rfl hl.1 rfl (Nat.le_of_ble_eq_true rfl) ⟨Nat.zero_le _, Nat.zero_le _⟩ dX6_addDecimal_28 (fun r_9 S11 H locs hp hs_S11 hG => ?_)
  obtain ⟨u12, rfl, h⟩ := hp
  have h := h hs_S11
  refine W.eq (g2 := F0 m 31 ls [.int u12]) rfl ?_
  have hsh := hs_S11.tr hsh
  have hk13 := hs_S11.lt hk9
  have hq14 := hs_S11.kd hq10
  refine lv_pop hx hb dX6_addDecimal_31 rfl ?_
  refine lv_aload_n hx hb dX6_addDecimal_32 rfl (lv_at hl 0 rfl) ?_
  refine lv_bipush (v := 48) hx hb dX6_addDecimal_33 (by decide) ?_
  refine lv_iload_n hx hb dX6_addDecimal_35 rfl (lv_at hl 1 rfl) ?_
  refine lv_bipush (v := 10) hx hb dX6_addDecimal_36 (by decide) ?_
  refine lv_idiv hx hb dX6_addDecimal_38 (by decide) ?_
  refine lv_bipush (v := 10) hx hb dX6_addDecimal_39 (by decide) ?_
  refine lv_irem hx hb dX6_addDecimal_41 (by decide) ?_
  refine lv_iadd hx hb dX6_addDecimal_42 ?_
  refine lv_i2c hx hb dX6_addDecimal_43 rfl ?_
  refine r_callV (za := za) (k := k0) (ci := 6) (C := RX6) (T := TX6) (N := 2) (As := [vI (UInt32.toInt32 ((Int32.toUInt32 (48 + ((x1 / 10) - (x1 / 10) / 10 * 10))) % 65536))]) (rest := []) (tX6_add l S11 k0 (UInt32.toInt32 ((Int32.toUInt32 (48 + ((x1 / 10) - (x1 / 10) / 10 * 10))) % 65536)) _ h) ⟨hx, hb, hml, hown, hts⟩ (cwV 1 hts gX6_addDecimal_X6_add rfl rfl rfl (by decide +kernel) ⟨by decide, by decide⟩) hK hG hA hk13 (cell_6 hq14) rfl rfl hl.1 rfl (Nat.le_of_ble_eq_true rfl) ⟨Nat.zero_le _, Nat.zero_le _⟩ dX6_addDecimal_44 (fun r_9 S15 H locs hp hs_S15 hG => ?_)
  obtain ⟨u16, rfl, h⟩ := hp
  have h := h hs_S15
  refine W.eq (g2 := F0 m 47 ls [.int u16]) rfl ?_
  have hsh := hs_S15.tr hsh
  have hk17 := hs_S15.lt hk13
  have hq18 := hs_S15.kd hq14
  refine lv_pop hx hb dX6_addDecimal_47 rfl ?_
  refine lv_aload_n hx hb dX6_addDecimal_48 rfl (lv_at hl 0 rfl) ?_
  refine lv_bipush (v := 48) hx hb dX6_addDecimal_49 (by decide) ?_
  refine lv_iload_n hx hb dX6_addDecimal_51 rfl (lv_at hl 1 rfl) ?_
  refine lv_bipush (v := 10) hx hb dX6_addDecimal_52 (by decide) ?_
  refine lv_irem hx hb dX6_addDecimal_54 (by decide) ?_
  refine lv_iadd hx hb dX6_addDecimal_55 ?_
  refine lv_i2c hx hb dX6_addDecimal_56 rfl ?_
  refine r_callV (za := za) (k := k0) (ci := 6) (C := RX6) (T := TX6) (N := 2) (As := [vI (UInt32.toInt32 ((Int32.toUInt32 (48 + (x1 - x1 / 10 * 10))) % 65536))]) (rest := []) (tX6_add l S15 k0 (UInt32.toInt32 ((Int32.toUInt32 (48 + (x1 - x1 / 10 * 10))) % 65536)) _ h) ⟨hx, hb, hml, hown, hts⟩ (cwV 1 hts gX6_addDecimal_X6_add rfl rfl rfl (by decide +kernel) ⟨by decide, by decide⟩) hK hG hA hk17 (cell_6 hq18) rfl rfl hl.1 rfl (Nat.le_of_ble_eq_true rfl) ⟨Nat.zero_le _, Nat.zero_le _⟩ dX6_addDecimal_57 (fun r_9 S19 H locs hp hs_S19 hG => ?_)
  obtain ⟨u20, rfl, h⟩ := hp
  have h := h hs_S19
  refine W.eq (g2 := F0 m 60 ls [.int u20]) rfl ?_
  have hsh := hs_S19.tr hsh
  have hk21 := hs_S19.lt hk17
  have hq22 := hs_S19.kd hq18
  refine lv_pop hx hb dX6_addDecimal_60 rfl ?_
  exact W.vret hx hb hr (fun t ht hW => r_end (r := none) hAe hG hsh ⟨rfl, h⟩ rfl ht) hG.2.2.2.2 dX6_addDecimal_61
def wX6_addSize_47 (Q : GS → Prop) (k0 : Nat) (t0 : Nat) (t1 : Int32) (S : GS) : Prop :=
  t0 < gN S ∧ gK S t0 = 6 ∧ wX6_add S t0 t1 (fun u4 S3 => gSh S3 S → Q S3)
def wX6_addSize_32 (Q : GS → Prop) (k0 : Nat) (x2 : Int32) (t0 : Nat) (t1 : Int32) (S : GS) : Prop :=
  t0 < gN S ∧ gK S t0 = 6 ∧ wX6_addNumber S t0 t1 (fun S9 => gSh S9 S → (x2 = 0 → wX6_addSize_47 Q k0 k0 75 S9) ∧ (¬ x2 = 0 → wX6_addSize_47 Q k0 k0 77 S9))
def wX6_addSize_17 (Q : GS → Prop) (k0 : Nat) (x1 : Int32) (t0 : Int32) (S : GS) : Prop :=
  (t0 = 0 → wX6_addSize_32 Q k0 t0 k0 x1 S) ∧ (¬ t0 = 0 → wX6_addSize_32 Q k0 t0 k0 (x1 / 1024) S)
def wX6_addSize_16 (Q : GS → Prop) (k0 : Nat) (x1 : Int32) (S : GS) : Prop :=
  wX6_addSize_17 Q k0 x1 0 S
def wX6_addSize (S : GS) (k0 : Nat) (x1 : Int32) (Q : GS → Prop) : Prop :=
  (x1 = 0 → wX6_addSize_16 Q k0 x1 S) ∧ (¬ x1 = 0 → (¬ (x1 - x1 / 1024 * 1024) = 0 → wX6_addSize_16 Q k0 x1 S) ∧ ((x1 - x1 / 1024 * 1024) = 0 → wX6_addSize_17 Q k0 x1 1 S))
set_option maxHeartbeats 4000000 in
set_option maxRecDepth 100000 in
theorem tX6_addSize (l : Launch) (S : GS) (k0 : Nat) (x1 : Int32) (Q : GS → Prop) (h : wX6_addSize S k0 x1 Q) : CS l yX6_addSize wsX6_addSize 2 S [vR (some k0), vI x1] (fun r S9 => r = none ∧ Q S9) := by
  refine CS.ofW (cc := cX6_addSize) (maxL := 3) (ret := none) RX6 (by decide) rfl rfl (fun _ _ => Nat.le_of_ble_eq_true rfl) ?_
  intro p e s m args below meth c D Y za ad A ls hAe hx hb hr hml hts hown hlocks hK hA hG hl
  obtain ⟨S0, hS0⟩ : ∃ z : GS, z = S := ⟨_, rfl⟩
  rw [← hS0] at hAe
  rw [← hS0]
  have b_47 : ∀  (t0 : Nat) (t1 : Int32) (S : GS) (H : Heap) (locs : List Loc) (ls : Array Slot), wX6_addSize_47 Q k0 t0 t1 S → gSh S S0 → gS D Y ad A s.heap S H locs → lv_has ls 3 [] → W p l e (rmD 2) s m args below meth c H locs 0 0 (MQ below (gE D Y za ad S0 s.heap.size (fun r S9 => r = none ∧ Q S9)) args s 0 0 A) (F0 m 47 ls [.int t1, .ref (ad t0)]) := by
    intro  t0 t1 S H locs ls h hsh hG hl
    unfold wX6_addSize_47 at h
    obtain ⟨hk1, hq2, h⟩ := h
    refine r_callV (za := za) (k := t0) (ci := 6) (C := RX6) (T := TX6) (N := 2) (As := [vI t1]) (rest := []) (tX6_add l S t0 t1 _ h) ⟨hx, hb, hml, hown, hts⟩ (cwV 1 hts gX6_addSize_X6_add rfl rfl rfl (by decide +kernel) ⟨by decide, by decide⟩) hK hG hA hk1 (cell_6 hq2) rfl rfl hl.1 rfl (Nat.le_of_ble_eq_true rfl) ⟨Nat.zero_le _, Nat.zero_le _⟩ dX6_addSize_47 (fun r_9 S3 H locs hp hs_S3 hG => ?_)
    obtain ⟨u4, rfl, h⟩ := hp
    have h := h hs_S3
    refine W.eq (g2 := F0 m 50 ls [.int u4]) rfl ?_
    have hsh := hs_S3.tr hsh
    have hk5 := hs_S3.lt hk1
    have hq6 := hs_S3.kd hq2
    refine lv_pop hx hb dX6_addSize_50 rfl ?_
    exact W.vret hx hb hr (fun t ht hW => r_end (r := none) hAe hG hsh ⟨rfl, h⟩ rfl ht) hG.2.2.2.2 dX6_addSize_51
  have b_32 : ∀  (x2 : Int32) (t0 : Nat) (t1 : Int32) (S : GS) (H : Heap) (locs : List Loc) (ls : Array Slot), wX6_addSize_32 Q k0 x2 t0 t1 S → gSh S S0 → gS D Y ad A s.heap S H locs → lv_has ls 3 [(0, .ref (ad k0)), (2, .int x2)] → W p l e (rmD 2) s m args below meth c H locs 0 0 (MQ below (gE D Y za ad S0 s.heap.size (fun r S9 => r = none ∧ Q S9)) args s 0 0 A) (F0 m 32 ls [.int t1, .ref (ad t0)]) := by
    intro  x2 t0 t1 S H locs ls h hsh hG hl
    unfold wX6_addSize_32 at h
    obtain ⟨hk7, hq8, h⟩ := h
    refine r_callV (za := za) (k := t0) (ci := 6) (C := RX6) (T := TX6) (N := 2) (As := [vI t1]) (rest := []) (tX6_addNumber l S t0 t1 _ h) ⟨hx, hb, hml, hown, hts⟩ (cwV 1 hts gX6_addSize_X6_addNumber rfl rfl rfl (by decide +kernel) ⟨by decide, by decide⟩) hK hG hA hk7 (cell_6 hq8) rfl rfl hl.1 rfl (Nat.le_of_ble_eq_true rfl) ⟨Nat.zero_le _, Nat.zero_le _⟩ dX6_addSize_32 (fun r_9 S9 H locs hp hs_S9 hG => ?_)
    obtain ⟨rfl, h⟩ := hp
    have h := h hs_S9
    refine W.eq (g2 := F0 m 35 ls []) rfl ?_
    have hsh := hs_S9.tr hsh
    have hk11 := hs_S9.lt hk7
    have hq12 := hs_S9.kd hq8
    refine lv_aload_n hx hb dX6_addSize_35 rfl (lv_at hl 0 rfl) ?_
    refine lv_iload_n hx hb dX6_addSize_36 rfl (lv_at hl 1 rfl) ?_
    refine lv_if_eq (tgt := 45) hx hb dX6_addSize_37 (by decide) (fun c_37 => ?_) (fun c_37 => ?_)
    · have h := h.1 c_37
      refine lv_bipush (v := 75) hx hb dX6_addSize_45 (by decide) ?_
      exact b_47 k0 75 S9 H locs ls h hsh hG (lv_sub hl [] rfl)
    · have h := h.2 c_37
      refine lv_bipush (v := 77) hx hb dX6_addSize_40 (by decide) ?_
      refine lv_goto (tgt := 47) hx hb dX6_addSize_42 (by decide) ?_
      exact b_47 k0 77 S9 H locs ls h hsh hG (lv_sub hl [] rfl)
  have b_17 : ∀  (x1 : Int32) (t0 : Int32) (S : GS) (H : Heap) (locs : List Loc) (ls : Array Slot), wX6_addSize_17 Q k0 x1 t0 S → gSh S S0 → gS D Y ad A s.heap S H locs → lv_has ls 3 [(0, .ref (ad k0)), (1, .int x1)] → W p l e (rmD 2) s m args below meth c H locs 0 0 (MQ below (gE D Y za ad S0 s.heap.size (fun r S9 => r = none ∧ Q S9)) args s 0 0 A) (F0 m 17 ls [.int t0]) := by
    intro  x1 t0 S H locs ls h hsh hG hl
    unfold wX6_addSize_17 at h
    refine lv_istore_n (lv' := [(2, .int t0), (0, .ref (ad k0)), (1, .int x1)]) hx hb dX6_addSize_17 rfl hl (by decide) rfl (fun ls hl => ?_)
    refine lv_aload_n hx hb dX6_addSize_18 rfl (lv_at hl 1 rfl) ?_
    refine lv_iload_n hx hb dX6_addSize_19 rfl (lv_at hl 0 rfl) ?_
    refine lv_if_eq (tgt := 31) hx hb dX6_addSize_20 (by decide) (fun c_20 => ?_) (fun c_20 => ?_)
    · have h := h.1 c_20
      refine lv_iload_n hx hb dX6_addSize_31 rfl (lv_at hl 2 rfl) ?_
      exact b_32 t0 k0 x1 S H locs ls h hsh hG (lv_sub hl [1, 0] rfl)
    · have h := h.2 c_20
      refine lv_iload_n hx hb dX6_addSize_23 rfl (lv_at hl 2 rfl) ?_
      refine lv_sipush (v := 1024) hx hb dX6_addSize_24 (by decide) ?_
      refine lv_idiv hx hb dX6_addSize_27 (by decide) ?_
      refine lv_goto (tgt := 32) hx hb dX6_addSize_28 (by decide) ?_
      exact b_32 t0 k0 (x1 / 1024) S H locs ls h hsh hG (lv_sub hl [1, 0] rfl)
  have b_16 : ∀  (x1 : Int32) (S : GS) (H : Heap) (locs : List Loc) (ls : Array Slot), wX6_addSize_16 Q k0 x1 S → gSh S S0 → gS D Y ad A s.heap S H locs → lv_has ls 3 [(0, .ref (ad k0)), (1, .int x1)] → W p l e (rmD 2) s m args below meth c H locs 0 0 (MQ below (gE D Y za ad S0 s.heap.size (fun r S9 => r = none ∧ Q S9)) args s 0 0 A) (F0 m 16 ls []) := by
    intro  x1 S H locs ls h hsh hG hl
    unfold wX6_addSize_16 at h
    refine lv_iconst (v := 0) hx hb dX6_addSize_16 (by decide) ?_
    exact b_17 x1 0 S H locs ls h hsh hG (lv_sub hl [0, 1] rfl)
  have hl : lv_has ls 3 [(0, .ref (ad k0)), (1, .int x1)] := hl
  have hsh : gSh S S0 := by rw [hS0]; exact gSh.rf S
  obtain ⟨H, eH⟩ : ∃ z : Heap, z = s.heap := ⟨_, rfl⟩
  obtain ⟨locs, eL⟩ : ∃ z : List Loc, z = [] := ⟨_, rfl⟩
  have hG : gS D Y ad A s.heap S H locs := by rw [eH, eL]; exact hG
  suffices hgoal : W p l e (rmD 2) s m args below meth c H locs 0 0 (MQ below (gE D Y za ad S0 s.heap.size (fun r S9 => r = none ∧ Q S9)) args s 0 0 A) (F0 m 0 ls []) by rw [eH, eL] at hgoal; exact hgoal
  unfold wX6_addSize at h
  refine lv_iload_n hx hb dX6_addSize_0 rfl (lv_at hl 1 rfl) ?_
  refine lv_if_eq (tgt := 16) hx hb dX6_addSize_1 (by decide) (fun c_1 => ?_) (fun c_1 => ?_)
  · have h := h.1 c_1
    exact b_16 x1 S H locs ls h hsh hG (lv_sub hl [0, 1] rfl)
  · have h := h.2 c_1
    refine lv_iload_n hx hb dX6_addSize_4 rfl (lv_at hl 1 rfl) ?_
    refine lv_sipush (v := 1024) hx hb dX6_addSize_5 (by decide) ?_
    refine lv_irem hx hb dX6_addSize_8 (by decide) ?_
    refine lv_if_ne (tgt := 16) hx hb dX6_addSize_9 (by decide) (fun c_9 => ?_) (fun c_9 => ?_)
    · have h := h.1 c_9
      exact b_16 x1 S H locs ls h hsh hG (lv_sub hl [0, 1] rfl)
    · have h := h.2 c_9
      refine lv_iconst (v := 1) hx hb dX6_addSize_12 (by decide) ?_
      refine lv_goto (tgt := 17) hx hb dX6_addSize_13 (by decide) ?_
      exact b_17 x1 1 S H locs ls h hsh hG (lv_sub hl [0, 1] rfl)
