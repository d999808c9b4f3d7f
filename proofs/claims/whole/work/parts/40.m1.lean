theorem rv_cat (ad : Nat → Nat) (o : Option Nat) : (rv ad o).category = 1 := by cases o <;> rfl
theorem cat_i (x : Int32) : (Value.int x).category = 1 := rfl
theorem cat_l (x : Int64) : (Value.long x).category = 2 := rfl
theorem cat_d (x : UInt64) : (Value.double x).category = 2 := rfl
theorem cat_r (x : Nat) : (Value.ref x).category = 1 := rfl
theorem cat_n : (Value.null).category = 1 := rfl
theorem rv_or (ad : Nat → Nat) (o : Option Nat) : rv ad o = .null ∨ ∃ a, rv ad o = .ref a := by
  cases o with
  | none => exact Or.inl rfl
  | some q => exact Or.inr ⟨_, rfl⟩
def wX9_thrown (S : GS) (k0 : Nat) (Q : Int32 → GS → Prop) : Prop :=
  k0 < gN S ∧ gK S k0 = 9 ∧ Q (gX S k0 32) S
set_option maxHeartbeats 4000000 in
set_option maxRecDepth 100000 in
theorem tX9_thrown (l : Launch) (S : GS) (k0 : Nat) (Q : Int32 → GS → Prop) (h : wX9_thrown S k0 Q) : CS l yX9_thrown wsX9_thrown 0 S [vR (some k0)] (fun r S9 => ∃ x, r = some (vI x) ∧ Q x S9) := by
  refine CS.ofW (cc := cX9_thrown) (maxL := 1) (ret := (some .int)) RX9 (by decide) rfl rfl (fun _ _ => Nat.le_of_ble_eq_true rfl) ?_
  intro p e s m args below meth c D Y za ad A ls hAe hx hb hr hml hts hown hlocks hK hA hG hl
  obtain ⟨S0, hS0⟩ : ∃ z : GS, z = S := ⟨_, rfl⟩
  rw [← hS0] at hAe
  rw [← hS0]
  have hin9 : ∀ w ∈ wsX90, w ∈ wsX9_thrown := by decide +kernel
  have lk_84 := hts (.fieldLink RX9 84 "PauseLogModel" "thrown" "I") (by decide +kernel)
  have hl : lv_has ls 1 [(0, .ref (ad k0))] := hl
  have hsh : gSh S S0 := by rw [hS0]; exact gSh.rf S
  obtain ⟨H, eH⟩ : ∃ z : Heap, z = s.heap := ⟨_, rfl⟩
  obtain ⟨locs, eL⟩ : ∃ z : List Loc, z = [] := ⟨_, rfl⟩
  have hG : gS D Y ad A s.heap S H locs := by rw [eH, eL]; exact hG
  suffices hgoal : W p l e (rmD 0) s m args below meth c H locs 0 0 (MQ below (gE D Y za ad S0 s.heap.size (fun r S9 => ∃ x, r = some (vI x) ∧ Q x S9)) args s 0 0 A) (F0 m 0 ls []) by rw [eH, eL] at hgoal; exact hgoal
  unfold wX9_thrown at h
  refine lv_aload_n hx hb dX9_thrown_0 rfl (lv_at hl 0 rfl) ?_
  obtain ⟨hk1, hq2, h⟩ := h
  refine g_get (ci := 9) (C := RX9) (T := TX9) (N := 36) hx hb hts hin9 hown hK hG hk1 (cell_9 hq2) rfl 32 (by decide) lk_84 (fun _ h9 => h9) (v := .int (gX S k0 32)) rfl dX9_thrown_1 ?_
  exact W.iret (v := gX S k0 32) hx hb hr (fun t ht hW => r_end (r := some (vI (gX S k0 32))) hAe hG hsh ⟨_, rfl, h⟩ rfl ht) hG.2.2.2.2 dX9_thrown_4
def wX9_element (S : GS) (k0 : Nat) (x1 : Int32) (Q : GS → Prop) : Prop :=
  k0 < gN S ∧ gK S k0 = 9 ∧ ∃ q3 : Nat, gR S k0 2 = some q3 ∧ q3 < gN S ∧ gK S q3 = 11 ∧ vp_in (gX S k0 3) (gL S q3) ∧ ∀ S8 : GS, S8 = sX S q3 (Int32.toNatClampNeg (gX S k0 3)) x1 → ∀ S13 : GS, S13 = sX S8 k0 3 ((gX S8 k0 3) + 1) → Q S13
set_option maxHeartbeats 4000000 in
set_option maxRecDepth 100000 in
theorem tX9_element (l : Launch) (S : GS) (k0 : Nat) (x1 : Int32) (Q : GS → Prop) (h : wX9_element S k0 x1 Q) : CS l yX9_element wsX9_element 0 S [vR (some k0), vI x1] (fun r S9 => r = none ∧ Q S9) := by
  refine CS.ofW (cc := cX9_element) (maxL := 2) (ret := none) RX9 (by decide) rfl rfl (fun _ _ => Nat.le_of_ble_eq_true rfl) ?_
  intro p e s m args below meth c D Y za ad A ls hAe hx hb hr hml hts hown hlocks hK hA hG hl
  obtain ⟨S0, hS0⟩ : ∃ z : GS, z = S := ⟨_, rfl⟩
  rw [← hS0] at hAe
  rw [← hS0]
  have hin9 : ∀ w ∈ wsX90, w ∈ wsX9_element := by decide +kernel
  have lk_13 := hts (.fieldLink RX9 13 "PauseLogModel" "mould" "[I") (by decide +kernel)
  have lk_87 := hts (.fieldLink RX9 87 "PauseLogModel" "mouldLong" "I") (by decide +kernel)
  have hl : lv_has ls 2 [(0, .ref (ad k0)), (1, .int x1)] := hl
  have hsh : gSh S S0 := by rw [hS0]; exact gSh.rf S
  obtain ⟨H, eH⟩ : ∃ z : Heap, z = s.heap := ⟨_, rfl⟩
  obtain ⟨locs, eL⟩ : ∃ z : List Loc, z = [] := ⟨_, rfl⟩
  have hG : gS D Y ad A s.heap S H locs := by rw [eH, eL]; exact hG
  suffices hgoal : W p l e (rmD 0) s m args below meth c H locs 0 0 (MQ below (gE D Y za ad S0 s.heap.size (fun r S9 => r = none ∧ Q S9)) args s 0 0 A) (F0 m 0 ls []) by rw [eH, eL] at hgoal; exact hgoal
  unfold wX9_element at h
  refine lv_aload_n hx hb dX9_element_0 rfl (lv_at hl 0 rfl) ?_
  obtain ⟨hk1, hq2, h⟩ := h
  refine g_get (ci := 9) (C := RX9) (T := TX9) (N := 36) hx hb hts hin9 hown hK hG hk1 (cell_9 hq2) rfl 2 (by decide) lk_13 (fun _ h9 => h9) (v := rv ad (gR S k0 2)) rfl dX9_element_1 ?_
  refine lv_aload_n hx hb dX9_element_4 rfl (lv_at hl 0 rfl) ?_
  refine g_get (ci := 9) (C := RX9) (T := TX9) (N := 36) hx hb hts hin9 hown hK hG hk1 (cell_9 hq2) rfl 3 (by decide) lk_87 (fun _ h9 => h9) (v := .int (gX S k0 3)) rfl dX9_element_5 ?_
  refine lv_iload_n hx hb dX9_element_8 rfl (lv_at hl 1 rfl) ?_
  obtain ⟨q3, e4, h⟩ := h
  refine W.eq (g2 := F0 m 9 ls [.int x1, .int (gX S k0 3), .ref (ad q3)]) (by rw [e4]; rfl) ?_
  obtain ⟨hk5, hq6, h⟩ := h
  obtain ⟨hi7, h⟩ := h
  refine r_iast hx hb hK hG hk5 hq6 hi7 dX9_element_9 (fun H locs hG => ?_)
  obtain ⟨S8, eS_S8⟩ : ∃ z : GS, z = sX S q3 (Int32.toNatClampNeg (gX S k0 3)) x1 := ⟨_, rfl⟩
  have h := h S8 eS_S8
  rw [← eS_S8] at hG
  have hs_S8 : gSh S8 S := by rw [eS_S8]; exact gSh.x _ _ _ _
  have hsh := hs_S8.tr hsh
  have hk9 := hs_S8.lt hk1
  have hq10 := hs_S8.kd hq2
  have hk11 := hs_S8.lt hk5
  have hq12 := hs_S8.kd hq6
  refine lv_aload_n hx hb dX9_element_10 rfl (lv_at hl 0 rfl) ?_
  refine lv_dup hx hb dX9_element_11 rfl ?_
  refine g_get (ci := 9) (C := RX9) (T := TX9) (N := 36) hx hb hts hin9 hown hK hG hk9 (cell_9 hq10) rfl 3 (by decide) lk_87 (fun _ h9 => h9) (v := .int (gX S8 k0 3)) rfl dX9_element_12 ?_
  refine lv_iconst (v := 1) hx hb dX9_element_15 (by decide) ?_
  refine lv_iadd hx hb dX9_element_16 ?_
  refine r_put (ci := 9) (C := RX9) (T := TX9) (N := 36) hx hb hts hin9 tyX9 tyX9_ok nmX9 hown hK hG hk9 (cell_9 hq10) rfl 3 (by decide) lk_87 (fun _ h9 => h9) rfl rfl rfl (Nat.le_of_ble_eq_true rfl) (S' := sX S8 k0 3 ((gX S8 k0 3) + 1)) rfl (pu_9_3 hq10 ((gX S8 k0 3) + 1)) dX9_element_17 (fun H locs hG => ?_)
  obtain ⟨S13, eS_S13⟩ : ∃ z : GS, z = sX S8 k0 3 ((gX S8 k0 3) + 1) := ⟨_, rfl⟩
  have h := h S13 eS_S13
  rw [← eS_S13] at hG
  have hs_S13 : gSh S13 S8 := by rw [eS_S13]; exact gSh.x _ _ _ _
  have hsh := hs_S13.tr hsh
  have hk14 := hs_S13.lt hk9
  have hq15 := hs_S13.kd hq10
  have hk16 := hs_S13.lt hk11
  have hq17 := hs_S13.kd hq12
  exact W.vret hx hb hr (fun t ht hW => r_end (r := none) hAe hG hsh ⟨rfl, h⟩ rfl ht) hG.2.2.2.2 dX9_element_20
def wX9_literal_28 (Q : GS → Prop) (L_3 : Int64 → Int32 → GS → Prop) (k0 : Nat) (x1 : Int64) (x3 : Int32) (S : GS) : Prop :=
  L_3 x1 (x3 + (-8)) S
def wX9_literal_3 (Q : GS → Prop) (k0 : Nat) : Nat → Int64 → Int32 → GS → Prop
  | 0, _, _, _ => False
  | f9 + 1, x1, x3, S =>
  (x3 < 0 → Q S) ∧ (¬ x3 < 0 → (((Int64.toInt32 (UInt64.toInt64 ((Int64.toUInt64 x1) >>> ((Int64.toUInt64 (Int32.toInt64 x3)) &&& Int64.toUInt64 63)))) &&& 255) = 0 → wX9_literal_28 Q (wX9_literal_3 Q k0 f9) k0 x1 x3 S) ∧ (¬ ((Int64.toInt32 (UInt64.toInt64 ((Int64.toUInt64 x1) >>> ((Int64.toUInt64 (Int32.toInt64 x3)) &&& Int64.toUInt64 63)))) &&& 255) = 0 → k0 < gN S ∧ gK S k0 = 9 ∧ wX9_element S k0 ((Int64.toInt32 (UInt64.toInt64 ((Int64.toUInt64 x1) >>> ((Int64.toUInt64 (Int32.toInt64 x3)) &&& Int64.toUInt64 63)))) &&& 255) (fun S3 => gSh S3 S → wX9_literal_28 Q (wX9_literal_3 Q k0 f9) k0 x1 x3 S3)))
def wX9_literal (S : GS) (k0 : Nat) (x1 : Int64) (Q : GS → Prop) : Prop :=
  ∃ f7 : Nat, wX9_literal_3 Q k0 f7 x1 56 S
set_option maxHeartbeats 4000000 in
set_option maxRecDepth 100000 in
theorem tX9_literal (l : Launch) (S : GS) (k0 : Nat) (x1 : Int64) (Q : GS → Prop) (h : wX9_literal S k0 x1 Q) : CS l yX9_literal wsX9_literal 1 S [vR (some k0), vL x1] (fun r S9 => r = none ∧ Q S9) := by
  refine CS.ofW (cc := cX9_literal) (maxL := 5) (ret := none) RX9 (by decide) rfl rfl (fun _ _ => Nat.le_of_ble_eq_true rfl) ?_
  intro p e s m args below meth c D Y za ad A ls hAe hx hb hr hml hts hown hlocks hK hA hG hl
  obtain ⟨S0, hS0⟩ : ∃ z : GS, z = S := ⟨_, rfl⟩
  rw [← hS0] at hAe
  rw [← hS0]
  have b_28 : ∀ (L_3 : Int64 → Int32 → GS → Prop) (hL_3 : ∀ (x1 : Int64) (x3 : Int32) (S : GS) (H : Heap) (locs : List Loc) (ls : Array Slot), L_3 x1 x3 S → gSh S S0 → gS D Y ad A s.heap S H locs → lv_has ls 5 [(0, .ref (ad k0)), (1, .long x1), (3, .int x3)] → W p l e (rmD 1) s m args below meth c H locs 0 0 (MQ below (gE D Y za ad S0 s.heap.size (fun r S9 => r = none ∧ Q S9)) args s 0 0 A) (F0 m 3 ls [])) (x1 : Int64) (x3 : Int32) (S : GS) (H : Heap) (locs : List Loc) (ls : Array Slot), wX9_literal_28 Q L_3 k0 x1 x3 S → gSh S S0 → gS D Y ad A s.heap S H locs → lv_has ls 5 [(0, .ref (ad k0)), (1, .long x1), (3, .int x3)] → W p l e (rmD 1) s m args below meth c H locs 0 0 (MQ below (gE D Y za ad S0 s.heap.size (fun r S9 => r = none ∧ Q S9)) args s 0 0 A) (F0 m 28 ls []) := by
    intro L_3 hL_3 x1 x3 S H locs ls h hsh hG hl
    unfold wX9_literal_28 at h
    refine lv_iinc (v := x3 + (-8)) (lv' := [(3, .int (x3 + (-8))), (0, .ref (ad k0)), (1, .long x1)]) hx hb dX9_literal_28 hl (k := 2) rfl rfl (by decide) rfl (fun ls hl => ?_)
    refine lv_goto (tgt := 3) hx hb dX9_literal_31 (by decide) ?_
    exact hL_3 x1 (x3 + (-8)) S H locs ls h hsh hG (lv_sub hl [1, 2, 0] rfl)
  have b_3 : ∀  (f9 : Nat) (x1 : Int64) (x3 : Int32) (S : GS) (H : Heap) (locs : List Loc) (ls : Array Slot), wX9_literal_3 Q k0 f9 x1 x3 S → gSh S S0 → gS D Y ad A s.heap S H locs → lv_has ls 5 [(0, .ref (ad k0)), (1, .long x1), (3, .int x3)] → W p l e (rmD 1) s m args below meth c H locs 0 0 (MQ below (gE D Y za ad S0 s.heap.size (fun r S9 => r = none ∧ Q S9)) args s 0 0 A) (F0 m 3 ls []) := by
    intro  f9
    induction f9 with
    | zero =>
      intro x1 x3 S H locs ls h
      exact False.elim (by unfold wX9_literal_3 at h; exact h)
    | succ f9 hL_3 =>
      intro x1 x3 S H locs ls h hsh hG hl
      unfold wX9_literal_3 at h
      refine lv_iload_n hx hb dX9_literal_3 rfl (lv_at hl 2 rfl) ?_
      refine lv_if_lt (tgt := 34) hx hb dX9_literal_4 (by decide) (fun c_4 => ?_) (fun c_4 => ?_)
      · have h := h.1 c_4
        exact W.vret hx hb hr (fun t ht hW => r_end (r := none) hAe hG hsh ⟨rfl, h⟩ rfl ht) hG.2.2.2.2 dX9_literal_34
      · have h := h.2 c_4
        refine lv_lload_n hx hb dX9_literal_7 rfl (lv_at hl 1 rfl) ?_
        refine lv_iload_n hx hb dX9_literal_8 rfl (lv_at hl 2 rfl) ?_
        refine lv_lushr hx hb dX9_literal_9 rfl ?_
        refine lv_l2i hx hb dX9_literal_10 rfl ?_
        refine lv_sipush (v := 255) hx hb dX9_literal_11 (by decide) ?_
        refine lv_iand hx hb dX9_literal_14 ?_
        refine lv_istore (lv' := [(4, .int ((Int64.toInt32 (UInt64.toInt64 ((Int64.toUInt64 x1) >>> ((Int64.toUInt64 (Int32.toInt64 x3)) &&& Int64.toUInt64 63)))) &&& 255)), (0, .ref (ad k0)), (1, .long x1), (3, .int x3)]) hx hb dX9_literal_15 hl (by decide) rfl (fun ls hl => ?_)
        refine lv_iload hx hb dX9_literal_17 (lv_at hl 0 rfl) ?_
        refine lv_if_eq (tgt := 28) hx hb dX9_literal_19 (by decide) (fun c_19 => ?_) (fun c_19 => ?_)
        · have h := h.1 c_19
          exact b_28 (wX9_literal_3 Q k0 f9) hL_3 x1 x3 S H locs ls h hsh hG (lv_sub hl [1, 2, 3] rfl)
        · have h := h.2 c_19
          refine lv_aload_n hx hb dX9_literal_22 rfl (lv_at hl 1 rfl) ?_
          refine lv_iload hx hb dX9_literal_23 (lv_at hl 0 rfl) ?_
          obtain ⟨hk1, hq2, h⟩ := h
          refine r_callV (za := za) (k := k0) (ci := 9) (C := RX9) (T := TX9) (N := 36) (As := [vI ((Int64.toInt32 (UInt64.toInt64 ((Int64.toUInt64 x1) >>> ((Int64.toUInt64 (Int32.toInt64 x3)) &&& Int64.toUInt64 63)))) &&& 255)]) (rest := []) (tX9_element l S k0 ((Int64.toInt32 (UInt64.toInt64 ((Int64.toUInt64 x1) >>> ((Int64.toUInt64 (Int32.toInt64 x3)) &&& Int64.toUInt64 63)))) &&& 255) _ h) ⟨hx, hb, hml, hown, hts⟩ (cwV 1 hts gX9_literal_X9_element rfl rfl rfl (by decide +kernel) ⟨by decide, by decide⟩) hK hG hA hk1 (cell_9 hq2) rfl rfl hl.1 rfl (Nat.le_of_ble_eq_true rfl) ⟨Nat.le_refl _, Nat.le_refl _⟩ dX9_literal_25 (fun r_9 S3 H locs hp hs_S3 hG => ?_)
          obtain ⟨rfl, h⟩ := hp
          have h := h hs_S3
          refine W.eq (g2 := F0 m 28 ls []) rfl ?_
          have hsh := hs_S3.tr hsh
          have hk5 := hs_S3.lt hk1
          have hq6 := hs_S3.kd hq2
          exact b_28 (wX9_literal_3 Q k0 f9) hL_3 x1 x3 S3 H locs ls h hsh hG (lv_sub hl [1, 2, 3] rfl)
  have hl : lv_has ls 5 [(0, .ref (ad k0)), (1, .long x1)] := hl
  have hsh : gSh S S0 := by rw [hS0]; exact gSh.rf S
  obtain ⟨H, eH⟩ : ∃ z : Heap, z = s.heap := ⟨_, rfl⟩
  obtain ⟨locs, eL⟩ : ∃ z : List Loc, z = [] := ⟨_, rfl⟩
  have hG : gS D Y ad A s.heap S H locs := by rw [eH, eL]; exact hG
  suffices hgoal : W p l e (rmD 1) s m args below meth c H locs 0 0 (MQ below (gE D Y za ad S0 s.heap.size (fun r S9 => r = none ∧ Q S9)) args s 0 0 A) (F0 m 0 ls []) by rw [eH, eL] at hgoal; exact hgoal
  unfold wX9_literal at h
  refine lv_bipush (v := 56) hx hb dX9_literal_0 (by decide) ?_
  refine lv_istore_n (lv' := [(3, .int 56), (0, .ref (ad k0)), (1, .long x1)]) hx hb dX9_literal_2 rfl hl (by decide) rfl (fun ls hl => ?_)
  obtain ⟨f7, h⟩ := h
  exact b_3 f7 x1 56 S H locs ls h hsh hG (lv_sub hl [1, 2, 0] rfl)
def wX9_digitAt_35 (Q : Int32 → GS → Prop) (k0 : Nat) (t0 : Int32) (S : GS) : Prop :=
  (t0 = 0 ∨ t0 = 1) ∧ Q t0 S
def wX9_digitAt_34 (Q : Int32 → GS → Prop) (k0 : Nat)  (S : GS) : Prop :=
  wX9_digitAt_35 Q k0 0 S
def wX9_digitAt (S : GS) (k0 : Nat) (x1 : Int32) (Q : Int32 → GS → Prop) : Prop :=
  k0 < gN S ∧ gK S k0 = 9 ∧ ((gX S k0 1) ≤ x1 → wX9_digitAt_34 Q k0  S) ∧ (¬ (gX S k0 1) ≤ x1 → ∃ q4 : Nat, gR S k0 0 = some q4 ∧ q4 < gN S ∧ gK S q4 = 11 ∧ vp_in x1 (gL S q4) ∧ ((gX S q4 (Int32.toNatClampNeg x1)) < 48 → wX9_digitAt_34 Q k0  S) ∧ (¬ (gX S q4 (Int32.toNatClampNeg x1)) < 48 → vp_in x1 (gL S q4) ∧ ((57 : Int32) < (gX S q4 (Int32.toNatClampNeg x1)) → wX9_digitAt_34 Q k0  S) ∧ (¬ (57 : Int32) < (gX S q4 (Int32.toNatClampNeg x1)) → wX9_digitAt_35 Q k0 1 S)))
set_option maxHeartbeats 4000000 in
set_option maxRecDepth 100000 in
theorem tX9_digitAt (l : Launch) (S : GS) (k0 : Nat) (x1 : Int32) (Q : Int32 → GS → Prop) (h : wX9_digitAt S k0 x1 Q) : CS l yX9_digitAt wsX9_digitAt 0 S [vR (some k0), vI x1] (fun r S9 => ∃ x, r = some (vI x) ∧ Q x S9) := by
  refine CS.ofW (cc := cX9_digitAt) (maxL := 2) (ret := (some .boolean)) RX9 (by decide) rfl rfl (fun _ _ => Nat.le_of_ble_eq_true rfl) ?_
  intro p e s m args below meth c D Y za ad A ls hAe hx hb hr hml hts hown hlocks hK hA hG hl
  obtain ⟨S0, hS0⟩ : ∃ z : GS, z = S := ⟨_, rfl⟩
  rw [← hS0] at hAe
  rw [← hS0]
  have hin9 : ∀ w ∈ wsX90, w ∈ wsX9_digitAt := by decide +kernel
  have lk_143 := hts (.fieldLink RX9 143 "PauseLogModel" "padLong" "I") (by decide +kernel)
  have lk_7 := hts (.fieldLink RX9 7 "PauseLogModel" "pad" "[I") (by decide +kernel)
  have b_35 : ∀  (t0 : Int32) (S : GS) (H : Heap) (locs : List Loc) (ls : Array Slot), wX9_digitAt_35 Q k0 t0 S → gSh S S0 → gS D Y ad A s.heap S H locs → lv_has ls 2 [] → W p l e (rmD 0) s m args below meth c H locs 0 0 (MQ below (gE D Y za ad S0 s.heap.size (fun r S9 => ∃ x, r = some (vI x) ∧ Q x S9)) args s 0 0 A) (F0 m 35 ls [.int t0]) := by
    intro  t0 S H locs ls h hsh hG hl
    unfold wX9_digitAt_35 at h
    obtain ⟨hz1, h⟩ := h
    exact W.zret (v := t0) hx hb hr (nar01 hz1) (fun t ht hW => r_end (r := some (vI t0)) hAe hG hsh ⟨_, rfl, h⟩ rfl ht) hG.2.2.2.2 dX9_digitAt_35
  have b_34 : ∀   (S : GS) (H : Heap) (locs : List Loc) (ls : Array Slot), wX9_digitAt_34 Q k0  S → gSh S S0 → gS D Y ad A s.heap S H locs → lv_has ls 2 [] → W p l e (rmD 0) s m args below meth c H locs 0 0 (MQ below (gE D Y za ad S0 s.heap.size (fun r S9 => ∃ x, r = some (vI x) ∧ Q x S9)) args s 0 0 A) (F0 m 34 ls []) := by
    intro   S H locs ls h hsh hG hl
    unfold wX9_digitAt_34 at h
    refine lv_iconst (v := 0) hx hb dX9_digitAt_34 (by decide) ?_
    exact b_35 0 S H locs ls h hsh hG (lv_sub hl [] rfl)
  have hl : lv_has ls 2 [(0, .ref (ad k0)), (1, .int x1)] := hl
  have hsh : gSh S S0 := by rw [hS0]; exact gSh.rf S
  obtain ⟨H, eH⟩ : ∃ z : Heap, z = s.heap := ⟨_, rfl⟩
  obtain ⟨locs, eL⟩ : ∃ z : List Loc, z = [] := ⟨_, rfl⟩
  have hG : gS D Y ad A s.heap S H locs := by rw [eH, eL]; exact hG
  suffices hgoal : W p l e (rmD 0) s m args below meth c H locs 0 0 (MQ below (gE D Y za ad S0 s.heap.size (fun r S9 => ∃ x, r = some (vI x) ∧ Q x S9)) args s 0 0 A) (F0 m 0 ls []) by rw [eH, eL] at hgoal; exact hgoal
  unfold wX9_digitAt at h
  refine lv_iload_n hx hb dX9_digitAt_0 rfl (lv_at hl 1 rfl) ?_
  refine lv_aload_n hx hb dX9_digitAt_1 rfl (lv_at hl 0 rfl) ?_
  obtain ⟨hk2, hq3, h⟩ := h
  refine g_get (ci := 9) (C := RX9) (T := TX9) (N := 36) hx hb hts hin9 hown hK hG hk2 (cell_9 hq3) rfl 1 (by decide) lk_143 (fun _ h9 => h9) (v := .int (gX S k0 1)) rfl dX9_digitAt_2 ?_
  refine lv_icmp_ge (tgt := 34) hx hb dX9_digitAt_5 (by decide) (fun c_5 => ?_) (fun c_5 => ?_)
  · have h := h.1 c_5
    exact b_34  S H locs ls h hsh hG (lv_sub hl [] rfl)
  · have h := h.2 c_5
    refine lv_aload_n hx hb dX9_digitAt_8 rfl (lv_at hl 0 rfl) ?_
    refine g_get (ci := 9) (C := RX9) (T := TX9) (N := 36) hx hb hts hin9 hown hK hG hk2 (cell_9 hq3) rfl 0 (by decide) lk_7 (fun _ h9 => h9) (v := rv ad (gR S k0 0)) rfl dX9_digitAt_9 ?_
    refine lv_iload_n hx hb dX9_digitAt_12 rfl (lv_at hl 1 rfl) ?_
    obtain ⟨q4, e5, h⟩ := h
    refine W.eq (g2 := F0 m 13 ls [.int x1, .ref (ad q4)]) (by rw [e5]; rfl) ?_
    obtain ⟨hk6, hq7, h⟩ := h
    obtain ⟨hi8, h⟩ := h
    refine r_iald hx hb hK hG hk6 hq7 hi8 dX9_digitAt_13 ?_
    refine lv_bipush (v := 48) hx hb dX9_digitAt_14 (by decide) ?_
    refine lv_icmp_lt (tgt := 34) hx hb dX9_digitAt_16 (by decide) (fun c_16 => ?_) (fun c_16 => ?_)
    · have h := h.1 c_16
      exact b_34  S H locs ls h hsh hG (lv_sub hl [] rfl)
    · have h := h.2 c_16
      refine lv_aload_n hx hb dX9_digitAt_19 rfl (lv_at hl 0 rfl) ?_
      refine g_get (ci := 9) (C := RX9) (T := TX9) (N := 36) hx hb hts hin9 hown hK hG hk2 (cell_9 hq3) rfl 0 (by decide) lk_7 (fun _ h9 => h9) (v := rv ad (gR S k0 0)) rfl dX9_digitAt_20 ?_
      refine lv_iload_n hx hb dX9_digitAt_23 rfl (lv_at hl 1 rfl) ?_
      refine W.eq (g2 := F0 m 24 ls [.int x1, .ref (ad q4)]) (by rw [e5]; rfl) ?_
      obtain ⟨hi9, h⟩ := h
      refine r_iald hx hb hK hG hk6 hq7 hi9 dX9_digitAt_24 ?_
      refine lv_bipush (v := 57) hx hb dX9_digitAt_25 (by decide) ?_
      refine lv_icmp_gt (tgt := 34) hx hb dX9_digitAt_27 (by decide) (fun c_27 => ?_) (fun c_27 => ?_)
      · have h := h.1 c_27
        exact b_34  S H locs ls h hsh hG (lv_sub hl [] rfl)
      · have h := h.2 c_27
        refine lv_iconst (v := 1) hx hb dX9_digitAt_30 (by decide) ?_
        refine lv_goto (tgt := 35) hx hb dX9_digitAt_31 (by decide) ?_
        exact b_35 1 S H locs ls h hsh hG (lv_sub hl [] rfl)
def wX9_pad0_24 (Q : Int32 → GS → Prop) (k0 : Nat) (t0 : Int32) (S : GS) : Prop :=
  (t0 = 0 ∨ t0 = 1) ∧ Q t0 S
def wX9_pad0_23 (Q : Int32 → GS → Prop) (k0 : Nat)  (S : GS) : Prop :=
  wX9_pad0_24 Q k0 0 S
def wX9_pad0 (S : GS) (k0 : Nat) (x1 : Int32) (Q : Int32 → GS → Prop) : Prop :=
  k0 < gN S ∧ gK S k0 = 9 ∧ ((gX S k0 1) ≤ x1 → wX9_pad0_23 Q k0  S) ∧ (¬ (gX S k0 1) ≤ x1 → ∃ q4 : Nat, gR S k0 0 = some q4 ∧ q4 < gN S ∧ gK S q4 = 11 ∧ vp_in x1 (gL S q4) ∧ (¬ (gX S q4 (Int32.toNatClampNeg x1)) = 48 → wX9_pad0_23 Q k0  S) ∧ ((gX S q4 (Int32.toNatClampNeg x1)) = 48 → wX9_pad0_24 Q k0 1 S))
set_option maxHeartbeats 4000000 in
set_option maxRecDepth 100000 in
theorem tX9_pad0 (l : Launch) (S : GS) (k0 : Nat) (x1 : Int32) (Q : Int32 → GS → Prop) (h : wX9_pad0 S k0 x1 Q) : CS l yX9_pad0 wsX9_pad0 0 S [vR (some k0), vI x1] (fun r S9 => ∃ x, r = some (vI x) ∧ Q x S9) := by
  refine CS.ofW (cc := cX9_pad0) (maxL := 2) (ret := (some .boolean)) RX9 (by decide) rfl rfl (fun _ _ => Nat.le_of_ble_eq_true rfl) ?_
  intro p e s m args below meth c D Y za ad A ls hAe hx hb hr hml hts hown hlocks hK hA hG hl
  obtain ⟨S0, hS0⟩ : ∃ z : GS, z = S := ⟨_, rfl⟩
  rw [← hS0] at hAe
  rw [← hS0]
  have hin9 : ∀ w ∈ wsX90, w ∈ wsX9_pad0 := by decide +kernel
  have lk_143 := hts (.fieldLink RX9 143 "PauseLogModel" "padLong" "I") (by decide +kernel)
  have lk_7 := hts (.fieldLink RX9 7 "PauseLogModel" "pad" "[I") (by decide +kernel)
  have b_24 : ∀  (t0 : Int32) (S : GS) (H : Heap) (locs : List Loc) (ls : Array Slot), wX9_pad0_24 Q k0 t0 S → gSh S S0 → gS D Y ad A s.heap S H locs → lv_has ls 2 [] → W p l e (rmD 0) s m args below meth c H locs 0 0 (MQ below (gE D Y za ad S0 s.heap.size (fun r S9 => ∃ x, r = some (vI x) ∧ Q x S9)) args s 0 0 A) (F0 m 24 ls [.int t0]) := by
    intro  t0 S H locs ls h hsh hG hl
    unfold wX9_pad0_24 at h
    obtain ⟨hz1, h⟩ := h
    exact W.zret (v := t0) hx hb hr (nar01 hz1) (fun t ht hW => r_end (r := some (vI t0)) hAe hG hsh ⟨_, rfl, h⟩ rfl ht) hG.2.2.2.2 dX9_pad0_24
  have b_23 : ∀   (S : GS) (H : Heap) (locs : List Loc) (ls : Array Slot), wX9_pad0_23 Q k0  S → gSh S S0 → gS D Y ad A s.heap S H locs → lv_has ls 2 [] → W p l e (rmD 0) s m args below meth c H locs 0 0 (MQ below (gE D Y za ad S0 s.heap.size (fun r S9 => ∃ x, r = some (vI x) ∧ Q x S9)) args s 0 0 A) (F0 m 23 ls []) := by
    intro   S H locs ls h hsh hG hl
    unfold wX9_pad0_23 at h
    refine lv_iconst (v := 0) hx hb dX9_pad0_23 (by decide) ?_
    exact b_24 0 S H locs ls h hsh hG (lv_sub hl [] rfl)
  have hl : lv_has ls 2 [(0, .ref (ad k0)), (1, .int x1)] := hl
  have hsh : gSh S S0 := by rw [hS0]; exact gSh.rf S
  obtain ⟨H, eH⟩ : ∃ z : Heap, z = s.heap := ⟨_, rfl⟩
  obtain ⟨locs, eL⟩ : ∃ z : List Loc, z = [] := ⟨_, rfl⟩
  have hG : gS D Y ad A s.heap S H locs := by rw [eH, eL]; exact hG
  suffices hgoal : W p l e (rmD 0) s m args below meth c H locs 0 0 (MQ below (gE D Y za ad S0 s.heap.size (fun r S9 => ∃ x, r = some (vI x) ∧ Q x S9)) args s 0 0 A) (F0 m 0 ls []) by rw [eH, eL] at hgoal; exact hgoal
  unfold wX9_pad0 at h
  refine lv_iload_n hx hb dX9_pad0_0 rfl (lv_at hl 1 rfl) ?_
  refine lv_aload_n hx hb dX9_pad0_1 rfl (lv_at hl 0 rfl) ?_
  obtain ⟨hk2, hq3, h⟩ := h
  refine g_get (ci := 9) (C := RX9) (T := TX9) (N := 36) hx hb hts hin9 hown hK hG hk2 (cell_9 hq3) rfl 1 (by decide) lk_143 (fun _ h9 => h9) (v := .int (gX S k0 1)) rfl dX9_pad0_2 ?_
  refine lv_icmp_ge (tgt := 23) hx hb dX9_pad0_5 (by decide) (fun c_5 => ?_) (fun c_5 => ?_)
  · have h := h.1 c_5
    exact b_23  S H locs ls h hsh hG (lv_sub hl [] rfl)
  · have h := h.2 c_5
    refine lv_aload_n hx hb dX9_pad0_8 rfl (lv_at hl 0 rfl) ?_
    refine g_get (ci := 9) (C := RX9) (T := TX9) (N := 36) hx hb hts hin9 hown hK hG hk2 (cell_9 hq3) rfl 0 (by decide) lk_7 (fun _ h9 => h9) (v := rv ad (gR S k0 0)) rfl dX9_pad0_9 ?_
    refine lv_iload_n hx hb dX9_pad0_12 rfl (lv_at hl 1 rfl) ?_
    obtain ⟨q4, e5, h⟩ := h
    refine W.eq (g2 := F0 m 13 ls [.int x1, .ref (ad q4)]) (by rw [e5]; rfl) ?_
    obtain ⟨hk6, hq7, h⟩ := h
    obtain ⟨hi8, h⟩ := h
    refine r_iald hx hb hK hG hk6 hq7 hi8 dX9_pad0_13 ?_
    refine lv_bipush (v := 48) hx hb dX9_pad0_14 (by decide) ?_
    refine lv_icmp_ne (tgt := 23) hx hb dX9_pad0_16 (by decide) (fun c_16 => ?_) (fun c_16 => ?_)
    · have h := h.1 c_16
      exact b_23  S H locs ls h hsh hG (lv_sub hl [] rfl)
    · have h := h.2 c_16
      refine lv_iconst (v := 1) hx hb dX9_pad0_19 (by decide) ?_
      refine lv_goto (tgt := 24) hx hb dX9_pad0_20 (by decide) ?_
      exact b_24 1 S H locs ls h hsh hG (lv_sub hl [] rfl)
def wX9_pass_34 (Q : Int32 → GS → Prop) (k0 : Nat) (t0 : Int32) (S : GS) : Prop :=
  Q t0 S
def wX9_pass_33 (Q : Int32 → GS → Prop) (k0 : Nat) (x2 : Int32) (S : GS) : Prop :=
  wX9_pass_34 Q k0 x2 S
def wX9_pass_191 (Q : Int32 → GS → Prop) (k0 : Nat) (x3 : Int32) (S : GS) : Prop :=
  k0 < gN S ∧ gK S k0 = 9 ∧ ∀ S3 : GS, S3 = sX S k0 7 ((gX S k0 7) + 1) → Q x3 S3
def wX9_pass_104 (Q : Int32 → GS → Prop) (k0 : Nat) (x3 : Int32) (t0 : Option Nat) (t1 : Int32) (t2 : Int32) (S : GS) : Prop :=
  ∃ q6 : Nat, t0 = some q6 ∧ q6 < gN S ∧ gK S q6 = 11 ∧ vp_in t1 (gL S q6) ∧ ∀ S11 : GS, S11 = sX S q6 (Int32.toNatClampNeg t1) t2 → wX9_pass_191 Q k0 x3 S11
def wX9_pass_103 (Q : Int32 → GS → Prop) (k0 : Nat) (x3 : Int32) (t0 : Option Nat) (t1 : Int32) (S : GS) : Prop :=
  wX9_pass_104 Q k0 x3 t0 t1 0 S
def wX9_pass_75 (Q : Int32 → GS → Prop) (k0 : Nat) (x2 : Int32) (x3 : Int32) (S : GS) : Prop :=
  k0 < gN S ∧ gK S k0 = 9 ∧ (x3 ≤ x2 → wX9_pass_103 Q k0 x3 (gR S k0 6) (gX S k0 7) S) ∧ (¬ x3 ≤ x2 → ∃ q16 : Nat, gR S k0 0 = some q16 ∧ q16 < gN S ∧ gK S q16 = 11 ∧ vp_in x2 (gL S q16) ∧ (¬ (gX S q16 (Int32.toNatClampNeg x2)) = 77 → wX9_pass_103 Q k0 x3 (gR S k0 6) (gX S k0 7) S) ∧ ((gX S q16 (Int32.toNatClampNeg x2)) = 77 → wX9_pass_104 Q k0 x3 (gR S k0 6) (gX S k0 7) 1 S))
def wX9_pass_72 (Q : Int32 → GS → Prop) (k0 : Nat) (x2 : Int32) (x3 : Int32) (S : GS) : Prop :=
  wX9_pass_75 Q k0 x2 (x3 + 1) S
def wX9_pass_180 (Q : Int32 → GS → Prop) (k0 : Nat) (x3 : Int32) (x5 : Int32) (S : GS) : Prop :=
  k0 < gN S ∧ gK S k0 = 9 ∧ ∃ q23 : Nat, gR S k0 6 = some q23 ∧ q23 < gN S ∧ gK S q23 = 11 ∧ vp_in (gX S k0 7) (gL S q23) ∧ ∀ S28 : GS, S28 = sX S q23 (Int32.toNatClampNeg (gX S k0 7)) x5 → wX9_pass_191 Q k0 x3 S28
def wX9_pass_141 (Q : Int32 → GS → Prop) (k0 : Nat) : Nat → Int32 → Int32 → Int32 → Int32 → GS → Prop
  | 0, _, _, _, _, _ => False
  | f9 + 1, x2, x3, x4, x5, S =>
  (x4 ≤ (x3 - x2) → wX9_pass_180 Q k0 x3 x5 S) ∧ (¬ x4 ≤ (x3 - x2) → k0 < gN S ∧ gK S k0 = 9 ∧ wX9_digitAt S k0 x3 (fun u36 S35 => gSh S35 S → (u36 = 0 → wX9_pass_180 Q k0 x3 x5 S35) ∧ (¬ u36 = 0 → ∃ q39 : Nat, gR S35 k0 0 = some q39 ∧ q39 < gN S35 ∧ gK S35 q39 = 11 ∧ vp_in x3 (gL S35 q39) ∧ (wX9_pass_141 Q k0 f9) x2 (x3 + 1) x4 (((10 * x5) + (gX S35 q39 (Int32.toNatClampNeg x3))) - 48) S35)))
def wX9_pass_136 (Q : Int32 → GS → Prop) (k0 : Nat) (x2 : Int32) (x3 : Int32) (t0 : Int32) (S : GS) : Prop :=
  ∃ f44 : Nat, wX9_pass_141 Q k0 f44 x2 x3 t0 0 S
def wX9_pass (S : GS) (k0 : Nat) (x1 : Int32) (x2 : Int32) (Q : Int32 → GS → Prop) : Prop :=
  ((200 : Int32) ≤ x1 → (¬ x1 = 400 → (¬ x1 = 300 → k0 < gN S ∧ gK S k0 = 9 ∧ wX9_pad0 S k0 x2 (fun u48 S47 => gSh S47 S → (u48 = 0 → wX9_pass_136 Q k0 x2 x2 (x1 - 200) S47) ∧ (¬ u48 = 0 → wX9_pass_136 Q k0 x2 x2 1 S47))) ∧ (x1 = 300 → wX9_pass_136 Q k0 x2 x2 3 S)) ∧ (x1 = 400 → k0 < gN S ∧ gK S k0 = 9 ∧ ((gX S k0 1) ≤ x2 → wX9_pass_75 Q k0 x2 x2 S) ∧ (¬ (gX S k0 1) ≤ x2 → ∃ q53 : Nat, gR S k0 0 = some q53 ∧ q53 < gN S ∧ gK S q53 = 11 ∧ vp_in x2 (gL S q53) ∧ ((gX S q53 (Int32.toNatClampNeg x2)) = 75 → wX9_pass_72 Q k0 x2 x2 S) ∧ (¬ (gX S q53 (Int32.toNatClampNeg x2)) = 75 → vp_in x2 (gL S q53) ∧ (¬ (gX S q53 (Int32.toNatClampNeg x2)) = 77 → wX9_pass_75 Q k0 x2 x2 S) ∧ ((gX S q53 (Int32.toNatClampNeg x2)) = 77 → wX9_pass_72 Q k0 x2 x2 S))))) ∧ (¬ (200 : Int32) ≤ x1 → k0 < gN S ∧ gK S k0 = 9 ∧ ((gX S k0 1) ≤ x2 → wX9_pass_33 Q k0 x2 S) ∧ (¬ (gX S k0 1) ≤ x2 → ∃ q61 : Nat, gR S k0 0 = some q61 ∧ q61 < gN S ∧ gK S q61 = 11 ∧ vp_in x2 (gL S q61) ∧ (¬ (gX S q61 (Int32.toNatClampNeg x2)) = x1 → wX9_pass_33 Q k0 x2 S) ∧ ((gX S q61 (Int32.toNatClampNeg x2)) = x1 → wX9_pass_34 Q k0 (x2 + 1) S)))
set_option maxHeartbeats 4000000 in
set_option maxRecDepth 100000 in
theorem tX9_pass (l : Launch) (S : GS) (k0 : Nat) (x1 : Int32) (x2 : Int32) (Q : Int32 → GS → Prop) (h : wX9_pass S k0 x1 x2 Q) : CS l yX9_pass wsX9_pass 1 S [vR (some k0), vI x1, vI x2] (fun r S9 => ∃ x, r = some (vI x) ∧ Q x S9) := by
  refine CS.ofW (cc := cX9_pass) (maxL := 6) (ret := (some .int)) RX9 (by decide) rfl rfl (fun _ _ => Nat.le_of_ble_eq_true rfl) ?_
  intro p e s m args below meth c D Y za ad A ls hAe hx hb hr hml hts hown hlocks hK hA hG hl
  obtain ⟨S0, hS0⟩ : ∃ z : GS, z = S := ⟨_, rfl⟩
  rw [← hS0] at hAe
  rw [← hS0]
  have hin9 : ∀ w ∈ wsX90, w ∈ wsX9_pass := by decide +kernel
  have lk_143 := hts (.fieldLink RX9 143 "PauseLogModel" "padLong" "I") (by decide +kernel)
  have lk_7 := hts (.fieldLink RX9 7 "PauseLogModel" "pad" "[I") (by decide +kernel)
  have lk_19 := hts (.fieldLink RX9 19 "PauseLogModel" "number" "[I") (by decide +kernel)
  have lk_146 := hts (.fieldLink RX9 146 "PauseLogModel" "numbers" "I") (by decide +kernel)
  have b_34 : ∀  (t0 : Int32) (S : GS) (H : Heap) (locs : List Loc) (ls : Array Slot), wX9_pass_34 Q k0 t0 S → gSh S S0 → gS D Y ad A s.heap S H locs → lv_has ls 6 [] → W p l e (rmD 1) s m args below meth c H locs 0 0 (MQ below (gE D Y za ad S0 s.heap.size (fun r S9 => ∃ x, r = some (vI x) ∧ Q x S9)) args s 0 0 A) (F0 m 34 ls [.int t0]) := by
    intro  t0 S H locs ls h hsh hG hl
    unfold wX9_pass_34 at h
    exact W.iret (v := t0) hx hb hr (fun t ht hW => r_end (r := some (vI t0)) hAe hG hsh ⟨_, rfl, h⟩ rfl ht) hG.2.2.2.2 dX9_pass_34
  have b_33 : ∀  (x2 : Int32) (S : GS) (H : Heap) (locs : List Loc) (ls : Array Slot), wX9_pass_33 Q k0 x2 S → gSh S S0 → gS D Y ad A s.heap S H locs → lv_has ls 6 [(2, .int x2)] → W p l e (rmD 1) s m args below meth c H locs 0 0 (MQ below (gE D Y za ad S0 s.heap.size (fun r S9 => ∃ x, r = some (vI x) ∧ Q x S9)) args s 0 0 A) (F0 m 33 ls []) := by
    intro  x2 S H locs ls h hsh hG hl
    unfold wX9_pass_33 at h
    refine lv_iload_n hx hb dX9_pass_33 rfl (lv_at hl 0 rfl) ?_
    exact b_34 x2 S H locs ls h hsh hG (lv_sub hl [] rfl)
  have b_191 : ∀  (x3 : Int32) (S : GS) (H : Heap) (locs : List Loc) (ls : Array Slot), wX9_pass_191 Q k0 x3 S → gSh S S0 → gS D Y ad A s.heap S H locs → lv_has ls 6 [(0, .ref (ad k0)), (3, .int x3)] → W p l e (rmD 1) s m args below meth c H locs 0 0 (MQ below (gE D Y za ad S0 s.heap.size (fun r S9 => ∃ x, r = some (vI x) ∧ Q x S9)) args s 0 0 A) (F0 m 191 ls []) := by
    intro  x3 S H locs ls h hsh hG hl
    unfold wX9_pass_191 at h
    refine lv_aload_n hx hb dX9_pass_191 rfl (lv_at hl 0 rfl) ?_
    refine lv_dup hx hb dX9_pass_192 rfl ?_
    obtain ⟨hk1, hq2, h⟩ := h
    refine g_get (ci := 9) (C := RX9) (T := TX9) (N := 36) hx hb hts hin9 hown hK hG hk1 (cell_9 hq2) rfl 7 (by decide) lk_146 (fun _ h9 => h9) (v := .int (gX S k0 7)) rfl dX9_pass_193 ?_
    refine lv_iconst (v := 1) hx hb dX9_pass_196 (by decide) ?_
    refine lv_iadd hx hb dX9_pass_197 ?_
    refine r_put (ci := 9) (C := RX9) (T := TX9) (N := 36) hx hb hts hin9 tyX9 tyX9_ok nmX9 hown hK hG hk1 (cell_9 hq2) rfl 7 (by decide) lk_146 (fun _ h9 => h9) rfl rfl rfl (Nat.le_of_ble_eq_true rfl) (S' := sX S k0 7 ((gX S k0 7) + 1)) rfl (pu_9_7 hq2 ((gX S k0 7) + 1)) dX9_pass_198 (fun H locs hG => ?_)
    obtain ⟨S3, eS_S3⟩ : ∃ z : GS, z = sX S k0 7 ((gX S k0 7) + 1) := ⟨_, rfl⟩
    have h := h S3 eS_S3
    rw [← eS_S3] at hG
    have hs_S3 : gSh S3 S := by rw [eS_S3]; exact gSh.x _ _ _ _
    have hsh := hs_S3.tr hsh
    have hk4 := hs_S3.lt hk1
    have hq5 := hs_S3.kd hq2
    refine lv_iload_n hx hb dX9_pass_201 rfl (lv_at hl 1 rfl) ?_
    exact W.iret (v := x3) hx hb hr (fun t ht hW => r_end (r := some (vI x3)) hAe hG hsh ⟨_, rfl, h⟩ rfl ht) hG.2.2.2.2 dX9_pass_202
  have b_104 : ∀  (x3 : Int32) (t0 : Option Nat) (t1 : Int32) (t2 : Int32) (S : GS) (H : Heap) (locs : List Loc) (ls : Array Slot), wX9_pass_104 Q k0 x3 t0 t1 t2 S → gSh S S0 → gS D Y ad A s.heap S H locs → lv_has ls 6 [(0, .ref (ad k0)), (3, .int x3)] → W p l e (rmD 1) s m args below meth c H locs 0 0 (MQ below (gE D Y za ad S0 s.heap.size (fun r S9 => ∃ x, r = some (vI x) ∧ Q x S9)) args s 0 0 A) (F0 m 104 ls [.int t2, .int t1, rv ad t0]) := by
    intro  x3 t0 t1 t2 S H locs ls h hsh hG hl
    unfold wX9_pass_104 at h
    obtain ⟨q6, e7, h⟩ := h
    refine W.eq (g2 := F0 m 104 ls [.int t2, .int t1, .ref (ad q6)]) (by rw [e7]; rfl) ?_
    obtain ⟨hk8, hq9, h⟩ := h
    obtain ⟨hi10, h⟩ := h
    refine r_iast hx hb hK hG hk8 hq9 hi10 dX9_pass_104 (fun H locs hG => ?_)
    obtain ⟨S11, eS_S11⟩ : ∃ z : GS, z = sX S q6 (Int32.toNatClampNeg t1) t2 := ⟨_, rfl⟩
    have h := h S11 eS_S11
    rw [← eS_S11] at hG
    have hs_S11 : gSh S11 S := by rw [eS_S11]; exact gSh.x _ _ _ _
    have hsh := hs_S11.tr hsh
    have hk12 := hs_S11.lt hk8
    have hq13 := hs_S11.kd hq9
    refine lv_goto (tgt := 191) hx hb dX9_pass_105 (by decide) ?_
    exact b_191 x3 S11 H locs ls h hsh hG (lv_sub hl [0, 1] rfl)
  have b_103 : ∀  (x3 : Int32) (t0 : Option Nat) (t1 : Int32) (S : GS) (H : Heap) (locs : List Loc) (ls : Array Slot), wX9_pass_103 Q k0 x3 t0 t1 S → gSh S S0 → gS D Y ad A s.heap S H locs → lv_has ls 6 [(0, .ref (ad k0)), (3, .int x3)] → W p l e (rmD 1) s m args below meth c H locs 0 0 (MQ below (gE D Y za ad S0 s.heap.size (fun r S9 => ∃ x, r = some (vI x) ∧ Q x S9)) args s 0 0 A) (F0 m 103 ls [.int t1, rv ad t0]) := by
    intro  x3 t0 t1 S H locs ls h hsh hG hl
    unfold wX9_pass_103 at h
    refine lv_iconst (v := 0) hx hb dX9_pass_103 (by decide) ?_
    exact b_104 x3 t0 t1 0 S H locs ls h hsh hG (lv_sub hl [0, 1] rfl)
  have b_75 : ∀  (x2 : Int32) (x3 : Int32) (S : GS) (H : Heap) (locs : List Loc) (ls : Array Slot), wX9_pass_75 Q k0 x2 x3 S → gSh S S0 → gS D Y ad A s.heap S H locs → lv_has ls 6 [(0, .ref (ad k0)), (2, .int x2), (3, .int x3)] → W p l e (rmD 1) s m args below meth c H locs 0 0 (MQ below (gE D Y za ad S0 s.heap.size (fun r S9 => ∃ x, r = some (vI x) ∧ Q x S9)) args s 0 0 A) (F0 m 75 ls []) := by
    intro  x2 x3 S H locs ls h hsh hG hl
    unfold wX9_pass_75 at h
    refine lv_aload_n hx hb dX9_pass_75 rfl (lv_at hl 0 rfl) ?_
    obtain ⟨hk14, hq15, h⟩ := h
    refine g_get (ci := 9) (C := RX9) (T := TX9) (N := 36) hx hb hts hin9 hown hK hG hk14 (cell_9 hq15) rfl 6 (by decide) lk_19 (fun _ h9 => h9) (v := rv ad (gR S k0 6)) rfl dX9_pass_76 ?_
    refine lv_aload_n hx hb dX9_pass_79 rfl (lv_at hl 0 rfl) ?_
    refine g_get (ci := 9) (C := RX9) (T := TX9) (N := 36) hx hb hts hin9 hown hK hG hk14 (cell_9 hq15) rfl 7 (by decide) lk_146 (fun _ h9 => h9) (v := .int (gX S k0 7)) rfl dX9_pass_80 ?_
    refine lv_iload_n hx hb dX9_pass_83 rfl (lv_at hl 2 rfl) ?_
    refine lv_iload_n hx hb dX9_pass_84 rfl (lv_at hl 1 rfl) ?_
    refine lv_icmp_le (tgt := 103) hx hb dX9_pass_85 (by decide) (fun c_85 => ?_) (fun c_85 => ?_)
    · have h := h.1 c_85
      exact b_103 x3 (gR S k0 6) (gX S k0 7) S H locs ls h hsh hG (lv_sub hl [0, 2] rfl)
    · have h := h.2 c_85
      refine lv_aload_n hx hb dX9_pass_88 rfl (lv_at hl 0 rfl) ?_
      refine g_get (ci := 9) (C := RX9) (T := TX9) (N := 36) hx hb hts hin9 hown hK hG hk14 (cell_9 hq15) rfl 0 (by decide) lk_7 (fun _ h9 => h9) (v := rv ad (gR S k0 0)) rfl dX9_pass_89 ?_
      refine lv_iload_n hx hb dX9_pass_92 rfl (lv_at hl 1 rfl) ?_
      obtain ⟨q16, e17, h⟩ := h
      refine W.eq (g2 := F0 m 93 ls [.int x2, .ref (ad q16), .int (gX S k0 7), rv ad (gR S k0 6)]) (by rw [e17]; rfl) ?_
      obtain ⟨hk18, hq19, h⟩ := h
      obtain ⟨hi20, h⟩ := h
      refine r_iald hx hb hK hG hk18 hq19 hi20 dX9_pass_93 ?_
      refine lv_bipush (v := 77) hx hb dX9_pass_94 (by decide) ?_
      refine lv_icmp_ne (tgt := 103) hx hb dX9_pass_96 (by decide) (fun c_96 => ?_) (fun c_96 => ?_)
      · have h := h.1 c_96
        exact b_103 x3 (gR S k0 6) (gX S k0 7) S H locs ls h hsh hG (lv_sub hl [0, 2] rfl)
      · have h := h.2 c_96
        refine lv_iconst (v := 1) hx hb dX9_pass_99 (by decide) ?_
        refine lv_goto (tgt := 104) hx hb dX9_pass_100 (by decide) ?_
        exact b_104 x3 (gR S k0 6) (gX S k0 7) 1 S H locs ls h hsh hG (lv_sub hl [0, 2] rfl)
  have b_72 : ∀  (x2 : Int32) (x3 : Int32) (S : GS) (H : Heap) (locs : List Loc) (ls : Array Slot), wX9_pass_72 Q k0 x2 x3 S → gSh S S0 → gS D Y ad A s.heap S H locs → lv_has ls 6 [(0, .ref (ad k0)), (2, .int x2), (3, .int x3)] → W p l e (rmD 1) s m args below meth c H locs 0 0 (MQ below (gE D Y za ad S0 s.heap.size (fun r S9 => ∃ x, r = some (vI x) ∧ Q x S9)) args s 0 0 A) (F0 m 72 ls []) := by
    intro  x2 x3 S H locs ls h hsh hG hl
    unfold wX9_pass_72 at h
    refine lv_iinc (v := x3 + 1) (lv' := [(3, .int (x3 + 1)), (0, .ref (ad k0)), (2, .int x2)]) hx hb dX9_pass_72 hl (k := 2) rfl rfl (by decide) rfl (fun ls hl => ?_)
    exact b_75 x2 (x3 + 1) S H locs ls h hsh hG (lv_sub hl [1, 2, 0] rfl)
  have b_180 : ∀  (x3 : Int32) (x5 : Int32) (S : GS) (H : Heap) (locs : List Loc) (ls : Array Slot), wX9_pass_180 Q k0 x3 x5 S → gSh S S0 → gS D Y ad A s.heap S H locs → lv_has ls 6 [(0, .ref (ad k0)), (3, .int x3), (5, .int x5)] → W p l e (rmD 1) s m args below meth c H locs 0 0 (MQ below (gE D Y za ad S0 s.heap.size (fun r S9 => ∃ x, r = some (vI x) ∧ Q x S9)) args s 0 0 A) (F0 m 180 ls []) := by
    intro  x3 x5 S H locs ls h hsh hG hl
    unfold wX9_pass_180 at h
    refine lv_aload_n hx hb dX9_pass_180 rfl (lv_at hl 0 rfl) ?_
    obtain ⟨hk21, hq22, h⟩ := h
    refine g_get (ci := 9) (C := RX9) (T := TX9) (N := 36) hx hb hts hin9 hown hK hG hk21 (cell_9 hq22) rfl 6 (by decide) lk_19 (fun _ h9 => h9) (v := rv ad (gR S k0 6)) rfl dX9_pass_181 ?_
    refine lv_aload_n hx hb dX9_pass_184 rfl (lv_at hl 0 rfl) ?_
    refine g_get (ci := 9) (C := RX9) (T := TX9) (N := 36) hx hb hts hin9 hown hK hG hk21 (cell_9 hq22) rfl 7 (by decide) lk_146 (fun _ h9 => h9) (v := .int (gX S k0 7)) rfl dX9_pass_185 ?_
    refine lv_iload hx hb dX9_pass_188 (lv_at hl 2 rfl) ?_
    obtain ⟨q23, e24, h⟩ := h
    refine W.eq (g2 := F0 m 190 ls [.int x5, .int (gX S k0 7), .ref (ad q23)]) (by rw [e24]; rfl) ?_
    obtain ⟨hk25, hq26, h⟩ := h
    obtain ⟨hi27, h⟩ := h
    refine r_iast hx hb hK hG hk25 hq26 hi27 dX9_pass_190 (fun H locs hG => ?_)
    obtain ⟨S28, eS_S28⟩ : ∃ z : GS, z = sX S q23 (Int32.toNatClampNeg (gX S k0 7)) x5 := ⟨_, rfl⟩
    have h := h S28 eS_S28
    rw [← eS_S28] at hG
    have hs_S28 : gSh S28 S := by rw [eS_S28]; exact gSh.x _ _ _ _
    have hsh := hs_S28.tr hsh
    have hk29 := hs_S28.lt hk21
    have hq30 := hs_S28.kd hq22
    have hk31 := hs_S28.lt hk25
    have hq32 := hs_S28.kd hq26
    exact b_191 x3 S28 H locs ls h hsh hG (lv_sub hl [0, 1] rfl)
  have b_141 : ∀  (f9 : Nat) (x2 : Int32) (x3 : Int32) (x4 : Int32) (x5 : Int32) (S : GS) (H : Heap) (locs : List Loc) (ls : Array Slot), wX9_pass_141 Q k0 f9 x2 x3 x4 x5 S → gSh S S0 → gS D Y ad A s.heap S H locs → lv_has ls 6 [(0, .ref (ad k0)), (2, .int x2), (3, .int x3), (4, .int x4), (5, .int x5)] → W p l e (rmD 1) s m args below meth c H locs 0 0 (MQ below (gE D Y za ad S0 s.heap.size (fun r S9 => ∃ x, r = some (vI x) ∧ Q x S9)) args s 0 0 A) (F0 m 141 ls []) := by
    intro  f9
    induction f9 with
    | zero =>
      intro x2 x3 x4 x5 S H locs ls h
      exact False.elim (by unfold wX9_pass_141 at h; exact h)
    | succ f9 hL_141 =>
      intro x2 x3 x4 x5 S H locs ls h hsh hG hl
      unfold wX9_pass_141 at h
      refine lv_iload_n hx hb dX9_pass_141 rfl (lv_at hl 2 rfl) ?_
      refine lv_iload_n hx hb dX9_pass_142 rfl (lv_at hl 1 rfl) ?_
      refine lv_isub hx hb dX9_pass_143 ?_
      refine lv_iload hx hb dX9_pass_144 (lv_at hl 3 rfl) ?_
      refine lv_icmp_ge (tgt := 180) hx hb dX9_pass_146 (by decide) (fun c_146 => ?_) (fun c_146 => ?_)
      · have h := h.1 c_146
        exact b_180 x3 x5 S H locs ls h hsh hG (lv_sub hl [0, 2, 4] rfl)
      · have h := h.2 c_146
        refine lv_aload_n hx hb dX9_pass_149 rfl (lv_at hl 0 rfl) ?_
        refine lv_iload_n hx hb dX9_pass_150 rfl (lv_at hl 2 rfl) ?_
        obtain ⟨hk33, hq34, h⟩ := h
        refine r_callV (za := za) (k := k0) (ci := 9) (C := RX9) (T := TX9) (N := 36) (As := [vI x3]) (rest := []) (tX9_digitAt l S k0 x3 _ h) ⟨hx, hb, hml, hown, hts⟩ (cwV 1 hts gX9_pass_X9_digitAt rfl rfl rfl (by decide +kernel) ⟨by decide, by decide⟩) hK hG hA hk33 (cell_9 hq34) rfl rfl hl.1 rfl (Nat.le_of_ble_eq_true rfl) ⟨Nat.le_refl _, Nat.le_refl _⟩ dX9_pass_151 (fun r_9 S35 H locs hp hs_S35 hG => ?_)
        obtain ⟨u36, rfl, h⟩ := hp
        have h := h hs_S35
        refine W.eq (g2 := F0 m 154 ls [.int u36]) rfl ?_
        have hsh := hs_S35.tr hsh
        have hk37 := hs_S35.lt hk33
        have hq38 := hs_S35.kd hq34
        refine lv_if_eq (tgt := 180) hx hb dX9_pass_154 (by decide) (fun c_154 => ?_) (fun c_154 => ?_)
        · have h := h.1 c_154
          exact b_180 x3 x5 S35 H locs ls h hsh hG (lv_sub hl [0, 2, 4] rfl)
        · have h := h.2 c_154
          refine lv_bipush (v := 10) hx hb dX9_pass_157 (by decide) ?_
          refine lv_iload hx hb dX9_pass_159 (lv_at hl 4 rfl) ?_
          refine lv_imul hx hb dX9_pass_161 ?_
          refine lv_aload_n hx hb dX9_pass_162 rfl (lv_at hl 0 rfl) ?_
          refine g_get (ci := 9) (C := RX9) (T := TX9) (N := 36) hx hb hts hin9 hown hK hG hk37 (cell_9 hq38) rfl 0 (by decide) lk_7 (fun _ h9 => h9) (v := rv ad (gR S35 k0 0)) rfl dX9_pass_163 ?_
          refine lv_iload_n hx hb dX9_pass_166 rfl (lv_at hl 2 rfl) ?_
          obtain ⟨q39, e40, h⟩ := h
          refine W.eq (g2 := F0 m 167 ls [.int x3, .ref (ad q39), .int (10 * x5)]) (by rw [e40]; rfl) ?_
          obtain ⟨hk41, hq42, h⟩ := h
          obtain ⟨hi43, h⟩ := h
          refine r_iald hx hb hK hG hk41 hq42 hi43 dX9_pass_167 ?_
          refine lv_iadd hx hb dX9_pass_168 ?_
          refine lv_bipush (v := 48) hx hb dX9_pass_169 (by decide) ?_
          refine lv_isub hx hb dX9_pass_171 ?_
          refine lv_istore (lv' := [(5, .int (((10 * x5) + (gX S35 q39 (Int32.toNatClampNeg x3))) - 48)), (0, .ref (ad k0)), (2, .int x2), (3, .int x3), (4, .int x4)]) hx hb dX9_pass_172 hl (by decide) rfl (fun ls hl => ?_)
          refine lv_iinc (v := x3 + 1) (lv' := [(3, .int (x3 + 1)), (5, .int (((10 * x5) + (gX S35 q39 (Int32.toNatClampNeg x3))) - 48)), (0, .ref (ad k0)), (2, .int x2), (4, .int x4)]) hx hb dX9_pass_174 hl (k := 3) rfl rfl (by decide) rfl (fun ls hl => ?_)
          refine lv_goto (tgt := 141) hx hb dX9_pass_177 (by decide) ?_
          exact hL_141 x2 (x3 + 1) x4 (((10 * x5) + (gX S35 q39 (Int32.toNatClampNeg x3))) - 48) S35 H locs ls h hsh hG (lv_sub hl [2, 3, 0, 4, 1] rfl)
  have b_136 : ∀  (x2 : Int32) (x3 : Int32) (t0 : Int32) (S : GS) (H : Heap) (locs : List Loc) (ls : Array Slot), wX9_pass_136 Q k0 x2 x3 t0 S → gSh S S0 → gS D Y ad A s.heap S H locs → lv_has ls 6 [(0, .ref (ad k0)), (2, .int x2), (3, .int x3)] → W p l e (rmD 1) s m args below meth c H locs 0 0 (MQ below (gE D Y za ad S0 s.heap.size (fun r S9 => ∃ x, r = some (vI x) ∧ Q x S9)) args s 0 0 A) (F0 m 136 ls [.int t0]) := by
    intro  x2 x3 t0 S H locs ls h hsh hG hl
    unfold wX9_pass_136 at h
    refine lv_istore (lv' := [(4, .int t0), (0, .ref (ad k0)), (2, .int x2), (3, .int x3)]) hx hb dX9_pass_136 hl (by decide) rfl (fun ls hl => ?_)
    refine lv_iconst (v := 0) hx hb dX9_pass_138 (by decide) ?_
    refine lv_istore (lv' := [(5, .int 0), (4, .int t0), (0, .ref (ad k0)), (2, .int x2), (3, .int x3)]) hx hb dX9_pass_139 hl (by decide) rfl (fun ls hl => ?_)
    obtain ⟨f44, h⟩ := h
    exact b_141 f44 x2 x3 t0 0 S H locs ls h hsh hG (lv_sub hl [2, 3, 4, 1, 0] rfl)
  have hl : lv_has ls 6 [(0, .ref (ad k0)), (1, .int x1), (2, .int x2)] := hl
  have hsh : gSh S S0 := by rw [hS0]; exact gSh.rf S
  obtain ⟨H, eH⟩ : ∃ z : Heap, z = s.heap := ⟨_, rfl⟩
  obtain ⟨locs, eL⟩ : ∃ z : List Loc, z = [] := ⟨_, rfl⟩
  have hG : gS D Y ad A s.heap S H locs := by rw [eH, eL]; exact hG
  suffices hgoal : W p l e (rmD 1) s m args below meth c H locs 0 0 (MQ below (gE D Y za ad S0 s.heap.size (fun r S9 => ∃ x, r = some (vI x) ∧ Q x S9)) args s 0 0 A) (F0 m 0 ls []) by rw [eH, eL] at hgoal; exact hgoal
  unfold wX9_pass at h
  refine lv_iload_n hx hb dX9_pass_0 rfl (lv_at hl 2 rfl) ?_
  refine lv_istore_n (lv' := [(3, .int x2), (0, .ref (ad k0)), (1, .int x1), (2, .int x2)]) hx hb dX9_pass_1 rfl hl (by decide) rfl (fun ls hl => ?_)
  refine lv_iload_n hx hb dX9_pass_2 rfl (lv_at hl 2 rfl) ?_
  refine lv_sipush (v := 200) hx hb dX9_pass_3 (by decide) ?_
  refine lv_icmp_ge (tgt := 35) hx hb dX9_pass_6 (by decide) (fun c_6 => ?_) (fun c_6 => ?_)
  · have h := h.1 c_6
    refine lv_iload_n hx hb dX9_pass_35 rfl (lv_at hl 2 rfl) ?_
    refine lv_sipush (v := 400) hx hb dX9_pass_36 (by decide) ?_
    refine lv_icmp_ne (tgt := 108) hx hb dX9_pass_39 (by decide) (fun c_39 => ?_) (fun c_39 => ?_)
    · have h := h.1 c_39
      refine lv_iload_n hx hb dX9_pass_108 rfl (lv_at hl 2 rfl) ?_
      refine lv_sipush (v := 300) hx hb dX9_pass_109 (by decide) ?_
      refine lv_icmp_ne (tgt := 119) hx hb dX9_pass_112 (by decide) (fun c_112 => ?_) (fun c_112 => ?_)
      · have h := h.1 c_112
        refine lv_aload_n hx hb dX9_pass_119 rfl (lv_at hl 1 rfl) ?_
        refine lv_iload_n hx hb dX9_pass_120 rfl (lv_at hl 3 rfl) ?_
        obtain ⟨hk45, hq46, h⟩ := h
        refine r_callV (za := za) (k := k0) (ci := 9) (C := RX9) (T := TX9) (N := 36) (As := [vI x2]) (rest := []) (tX9_pad0 l S k0 x2 _ h) ⟨hx, hb, hml, hown, hts⟩ (cwV 1 hts gX9_pass_X9_pad0 rfl rfl rfl (by decide +kernel) ⟨by decide, by decide⟩) hK hG hA hk45 (cell_9 hq46) rfl rfl hl.1 rfl (Nat.le_of_ble_eq_true rfl) ⟨Nat.le_refl _, Nat.le_refl _⟩ dX9_pass_121 (fun r_9 S47 H locs hp hs_S47 hG => ?_)
        obtain ⟨u48, rfl, h⟩ := hp
        have h := h hs_S47
        refine W.eq (g2 := F0 m 124 ls [.int u48]) rfl ?_
        have hsh := hs_S47.tr hsh
        have hk49 := hs_S47.lt hk45
        have hq50 := hs_S47.kd hq46
        refine lv_if_eq (tgt := 131) hx hb dX9_pass_124 (by decide) (fun c_124 => ?_) (fun c_124 => ?_)
        · have h := h.1 c_124
          refine lv_iload_n hx hb dX9_pass_131 rfl (lv_at hl 2 rfl) ?_
          refine lv_sipush (v := 200) hx hb dX9_pass_132 (by decide) ?_
          refine lv_isub hx hb dX9_pass_135 ?_
          exact b_136 x2 x2 (x1 - 200) S47 H locs ls h hsh hG (lv_sub hl [1, 3, 0] rfl)
        · have h := h.2 c_124
          refine lv_iconst (v := 1) hx hb dX9_pass_127 (by decide) ?_
          refine lv_goto (tgt := 136) hx hb dX9_pass_128 (by decide) ?_
          exact b_136 x2 x2 1 S47 H locs ls h hsh hG (lv_sub hl [1, 3, 0] rfl)
      · have h := h.2 c_112
        refine lv_iconst (v := 3) hx hb dX9_pass_115 (by decide) ?_
        refine lv_goto (tgt := 136) hx hb dX9_pass_116 (by decide) ?_
        exact b_136 x2 x2 3 S H locs ls h hsh hG (lv_sub hl [1, 3, 0] rfl)
    · have h := h.2 c_39
      refine lv_iload_n hx hb dX9_pass_42 rfl (lv_at hl 3 rfl) ?_
      refine lv_aload_n hx hb dX9_pass_43 rfl (lv_at hl 1 rfl) ?_
      obtain ⟨hk51, hq52, h⟩ := h
      refine g_get (ci := 9) (C := RX9) (T := TX9) (N := 36) hx hb hts hin9 hown hK hG hk51 (cell_9 hq52) rfl 1 (by decide) lk_143 (fun _ h9 => h9) (v := .int (gX S k0 1)) rfl dX9_pass_44 ?_
      refine lv_icmp_ge (tgt := 75) hx hb dX9_pass_47 (by decide) (fun c_47 => ?_) (fun c_47 => ?_)
      · have h := h.1 c_47
        exact b_75 x2 x2 S H locs ls h hsh hG (lv_sub hl [1, 3, 0] rfl)
      · have h := h.2 c_47
        refine lv_aload_n hx hb dX9_pass_50 rfl (lv_at hl 1 rfl) ?_
        refine g_get (ci := 9) (C := RX9) (T := TX9) (N := 36) hx hb hts hin9 hown hK hG hk51 (cell_9 hq52) rfl 0 (by decide) lk_7 (fun _ h9 => h9) (v := rv ad (gR S k0 0)) rfl dX9_pass_51 ?_
        refine lv_iload_n hx hb dX9_pass_54 rfl (lv_at hl 3 rfl) ?_
        obtain ⟨q53, e54, h⟩ := h
        refine W.eq (g2 := F0 m 55 ls [.int x2, .ref (ad q53)]) (by rw [e54]; rfl) ?_
        obtain ⟨hk55, hq56, h⟩ := h
        obtain ⟨hi57, h⟩ := h
        refine r_iald hx hb hK hG hk55 hq56 hi57 dX9_pass_55 ?_
        refine lv_bipush (v := 75) hx hb dX9_pass_56 (by decide) ?_
        refine lv_icmp_eq (tgt := 72) hx hb dX9_pass_58 (by decide) (fun c_58 => ?_) (fun c_58 => ?_)
        · have h := h.1 c_58
          exact b_72 x2 x2 S H locs ls h hsh hG (lv_sub hl [1, 3, 0] rfl)
        · have h := h.2 c_58
          refine lv_aload_n hx hb dX9_pass_61 rfl (lv_at hl 1 rfl) ?_
          refine g_get (ci := 9) (C := RX9) (T := TX9) (N := 36) hx hb hts hin9 hown hK hG hk51 (cell_9 hq52) rfl 0 (by decide) lk_7 (fun _ h9 => h9) (v := rv ad (gR S k0 0)) rfl dX9_pass_62 ?_
          refine lv_iload_n hx hb dX9_pass_65 rfl (lv_at hl 3 rfl) ?_
          refine W.eq (g2 := F0 m 66 ls [.int x2, .ref (ad q53)]) (by rw [e54]; rfl) ?_
          obtain ⟨hi58, h⟩ := h
          refine r_iald hx hb hK hG hk55 hq56 hi58 dX9_pass_66 ?_
          refine lv_bipush (v := 77) hx hb dX9_pass_67 (by decide) ?_
          refine lv_icmp_ne (tgt := 75) hx hb dX9_pass_69 (by decide) (fun c_69 => ?_) (fun c_69 => ?_)
          · have h := h.1 c_69
            exact b_75 x2 x2 S H locs ls h hsh hG (lv_sub hl [1, 3, 0] rfl)
          · have h := h.2 c_69
            exact b_72 x2 x2 S H locs ls h hsh hG (lv_sub hl [1, 3, 0] rfl)
  · have h := h.2 c_6
    refine lv_iload_n hx hb dX9_pass_9 rfl (lv_at hl 3 rfl) ?_
    refine lv_aload_n hx hb dX9_pass_10 rfl (lv_at hl 1 rfl) ?_
    obtain ⟨hk59, hq60, h⟩ := h
    refine g_get (ci := 9) (C := RX9) (T := TX9) (N := 36) hx hb hts hin9 hown hK hG hk59 (cell_9 hq60) rfl 1 (by decide) lk_143 (fun _ h9 => h9) (v := .int (gX S k0 1)) rfl dX9_pass_11 ?_
    refine lv_icmp_ge (tgt := 33) hx hb dX9_pass_14 (by decide) (fun c_14 => ?_) (fun c_14 => ?_)
    · have h := h.1 c_14
      exact b_33 x2 S H locs ls h hsh hG (lv_sub hl [3] rfl)
    · have h := h.2 c_14
      refine lv_aload_n hx hb dX9_pass_17 rfl (lv_at hl 1 rfl) ?_
      refine g_get (ci := 9) (C := RX9) (T := TX9) (N := 36) hx hb hts hin9 hown hK hG hk59 (cell_9 hq60) rfl 0 (by decide) lk_7 (fun _ h9 => h9) (v := rv ad (gR S k0 0)) rfl dX9_pass_18 ?_
      refine lv_iload_n hx hb dX9_pass_21 rfl (lv_at hl 3 rfl) ?_
      obtain ⟨q61, e62, h⟩ := h
      refine W.eq (g2 := F0 m 22 ls [.int x2, .ref (ad q61)]) (by rw [e62]; rfl) ?_
      obtain ⟨hk63, hq64, h⟩ := h
      obtain ⟨hi65, h⟩ := h
      refine r_iald hx hb hK hG hk63 hq64 hi65 dX9_pass_22 ?_
      refine lv_iload_n hx hb dX9_pass_23 rfl (lv_at hl 2 rfl) ?_
      refine lv_icmp_ne (tgt := 33) hx hb dX9_pass_24 (by decide) (fun c_24 => ?_) (fun c_24 => ?_)
      · have h := h.1 c_24
        exact b_33 x2 S H locs ls h hsh hG (lv_sub hl [3] rfl)
      · have h := h.2 c_24
        refine lv_iload_n hx hb dX9_pass_27 rfl (lv_at hl 3 rfl) ?_
        refine lv_iconst (v := 1) hx hb dX9_pass_28 (by decide) ?_
        refine lv_iadd hx hb dX9_pass_29 ?_
        refine lv_goto (tgt := 34) hx hb dX9_pass_30 (by decide) ?_
        exact b_34 (x2 + 1) S H locs ls h hsh hG (lv_sub hl [] rfl)
