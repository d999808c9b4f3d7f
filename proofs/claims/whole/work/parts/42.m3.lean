def wX9_isBack_46 (Q : Int32 → GS → Prop) (L_2 : Int32 → Int32 → GS → Prop) (k0 : Nat) (x1 : Int32) (x2 : Int32) (S : GS) : Prop :=
  L_2 x1 (x2 + 1) S
def wX9_isBack_2 (Q : Int32 → GS → Prop) (k0 : Nat) : Nat → Int32 → Int32 → GS → Prop
  | 0, _, _, _ => False
  | f9 + 1, x1, x2, S =>
  (x1 ≤ x2 → Q 0 S) ∧ (¬ x1 ≤ x2 → k0 < gN S ∧ gK S k0 = 9 ∧ ∃ q3 : Nat, gR S k0 8 = some q3 ∧ q3 < gN S ∧ gK S q3 = 11 ∧ vp_in x2 (gL S q3) ∧ (¬ (gX S q3 (Int32.toNatClampNeg x2)) = (gX S k0 20) → wX9_isBack_46 Q (wX9_isBack_2 Q k0 f9) k0 x1 x2 S) ∧ ((gX S q3 (Int32.toNatClampNeg x2)) = (gX S k0 20) → ∃ q8 : Nat, gR S k0 9 = some q8 ∧ q8 < gN S ∧ gK S q8 = 12 ∧ vp_in x2 (gL S q8) ∧ ((gX S q8 (Int32.toNatClampNeg x2)) = 0 → wX9_isBack_46 Q (wX9_isBack_2 Q k0 f9) k0 x1 x2 S) ∧ (¬ (gX S q8 (Int32.toNatClampNeg x2)) = 0 → ∃ q13 : Nat, gR S k0 15 = some q13 ∧ q13 < gN S ∧ gK S q13 = 11 ∧ vp_in x2 (gL S q13) ∧ vp_in x1 (gL S q13) ∧ ((gX S q13 (Int32.toNatClampNeg x2)) ≤ (gX S q13 (Int32.toNatClampNeg x1)) → wX9_isBack_46 Q (wX9_isBack_2 Q k0 f9) k0 x1 x2 S) ∧ (¬ (gX S q13 (Int32.toNatClampNeg x2)) ≤ (gX S q13 (Int32.toNatClampNeg x1)) → Q 1 S))))
def wX9_isBack (S : GS) (k0 : Nat) (x1 : Int32) (Q : Int32 → GS → Prop) : Prop :=
  ∃ f19 : Nat, wX9_isBack_2 Q k0 f19 x1 0 S
set_option maxHeartbeats 4000000 in
set_option maxRecDepth 100000 in
theorem tX9_isBack (l : Launch) (S : GS) (k0 : Nat) (x1 : Int32) (Q : Int32 → GS → Prop) (h : wX9_isBack S k0 x1 Q) : CS l yX9_isBack wsX9_isBack 0 S [vR (some k0), vI x1] (fun r S9 => ∃ x, r = some (vI x) ∧ Q x S9) := by
  refine CS.ofW (cc := cX9_isBack) (maxL := 3) (ret := (some .boolean)) RX9 (by decide) rfl rfl (fun _ _ => Nat.le_of_ble_eq_true rfl) ?_
  intro p e s m args below meth c D Y za ad A ls hAe hx hb hr hml hts hown hlocks hK hA hG hl
  obtain ⟨S0, hS0⟩ : ∃ z : GS, z = S := ⟨_, rfl⟩
  rw [← hS0] at hAe
  rw [← hS0]
  have hin9 : ∀ w ∈ wsX90, w ∈ wsX9_isBack := by decide +kernel
  have lk_22 := hts (.fieldLink RX9 22 "PauseLogModel" "log" "[I") (by decide +kernel)
  have lk_182 := hts (.fieldLink RX9 182 "PauseLogModel" "logs" "I") (by decide +kernel)
  have lk_25 := hts (.fieldLink RX9 25 "PauseLogModel" "inTime" "[Z") (by decide +kernel)
  have lk_44 := hts (.fieldLink RX9 44 "PauseLogModel" "time" "[I") (by decide +kernel)
  have b_46 : ∀ (L_2 : Int32 → Int32 → GS → Prop) (hL_2 : ∀ (x1 : Int32) (x2 : Int32) (S : GS) (H : Heap) (locs : List Loc) (ls : Array Slot), L_2 x1 x2 S → gSh S S0 → gS D Y ad A s.heap S H locs → lv_has ls 3 [(0, .ref (ad k0)), (1, .int x1), (2, .int x2)] → W p l e (rmD 0) s m args below meth c H locs 0 0 (MQ below (gE D Y za ad S0 s.heap.size (fun r S9 => ∃ x, r = some (vI x) ∧ Q x S9)) args s 0 0 A) (F0 m 2 ls [])) (x1 : Int32) (x2 : Int32) (S : GS) (H : Heap) (locs : List Loc) (ls : Array Slot), wX9_isBack_46 Q L_2 k0 x1 x2 S → gSh S S0 → gS D Y ad A s.heap S H locs → lv_has ls 3 [(0, .ref (ad k0)), (1, .int x1), (2, .int x2)] → W p l e (rmD 0) s m args below meth c H locs 0 0 (MQ below (gE D Y za ad S0 s.heap.size (fun r S9 => ∃ x, r = some (vI x) ∧ Q x S9)) args s 0 0 A) (F0 m 46 ls []) := by
    intro L_2 hL_2 x1 x2 S H locs ls h hsh hG hl
    unfold wX9_isBack_46 at h
    refine lv_iinc (v := x2 + 1) (lv' := [(2, .int (x2 + 1)), (0, .ref (ad k0)), (1, .int x1)]) hx hb dX9_isBack_46 hl (k := 2) rfl rfl (by decide) rfl (fun ls hl => ?_)
    refine lv_goto (tgt := 2) hx hb dX9_isBack_49 (by decide) ?_
    exact hL_2 x1 (x2 + 1) S H locs ls h hsh hG (lv_sub hl [1, 2, 0] rfl)
  have b_2 : ∀  (f9 : Nat) (x1 : Int32) (x2 : Int32) (S : GS) (H : Heap) (locs : List Loc) (ls : Array Slot), wX9_isBack_2 Q k0 f9 x1 x2 S → gSh S S0 → gS D Y ad A s.heap S H locs → lv_has ls 3 [(0, .ref (ad k0)), (1, .int x1), (2, .int x2)] → W p l e (rmD 0) s m args below meth c H locs 0 0 (MQ below (gE D Y za ad S0 s.heap.size (fun r S9 => ∃ x, r = some (vI x) ∧ Q x S9)) args s 0 0 A) (F0 m 2 ls []) := by
    intro  f9
    induction f9 with
    | zero =>
      intro x1 x2 S H locs ls h
      exact False.elim (by unfold wX9_isBack_2 at h; exact h)
    | succ f9 hL_2 =>
      intro x1 x2 S H locs ls h hsh hG hl
      unfold wX9_isBack_2 at h
      refine lv_iload_n hx hb dX9_isBack_2 rfl (lv_at hl 2 rfl) ?_
      refine lv_iload_n hx hb dX9_isBack_3 rfl (lv_at hl 1 rfl) ?_
      refine lv_icmp_ge (tgt := 52) hx hb dX9_isBack_4 (by decide) (fun c_4 => ?_) (fun c_4 => ?_)
      · have h := h.1 c_4
        refine lv_iconst (v := 0) hx hb dX9_isBack_52 (by decide) ?_
        exact W.zret (v := 0) hx hb hr rfl (fun t ht hW => r_end (r := some (vI 0)) hAe hG hsh ⟨_, rfl, h⟩ rfl ht) hG.2.2.2.2 dX9_isBack_53
      · have h := h.2 c_4
        refine lv_aload_n hx hb dX9_isBack_7 rfl (lv_at hl 0 rfl) ?_
        obtain ⟨hk1, hq2, h⟩ := h
        refine g_get (ci := 9) (C := RX9) (T := TX9) (N := 36) hx hb hts hin9 hown hK hG hk1 (cell_9 hq2) rfl 8 (by decide) lk_22 (fun _ h9 => h9) (v := rv ad (gR S k0 8)) rfl dX9_isBack_8 ?_
        refine lv_iload_n hx hb dX9_isBack_11 rfl (lv_at hl 2 rfl) ?_
        obtain ⟨q3, e4, h⟩ := h
        refine W.eq (g2 := F0 m 12 ls [.int x2, .ref (ad q3)]) (by rw [e4]; rfl) ?_
        obtain ⟨hk5, hq6, h⟩ := h
        obtain ⟨hi7, h⟩ := h
        refine r_iald hx hb hK hG hk5 hq6 hi7 dX9_isBack_12 ?_
        refine lv_aload_n hx hb dX9_isBack_13 rfl (lv_at hl 0 rfl) ?_
        refine g_get (ci := 9) (C := RX9) (T := TX9) (N := 36) hx hb hts hin9 hown hK hG hk1 (cell_9 hq2) rfl 20 (by decide) lk_182 (fun _ h9 => h9) (v := .int (gX S k0 20)) rfl dX9_isBack_14 ?_
        refine lv_icmp_ne (tgt := 46) hx hb dX9_isBack_17 (by decide) (fun c_17 => ?_) (fun c_17 => ?_)
        · have h := h.1 c_17
          exact b_46 (wX9_isBack_2 Q k0 f9) hL_2 x1 x2 S H locs ls h hsh hG (lv_sub hl [0, 1, 2] rfl)
        · have h := h.2 c_17
          refine lv_aload_n hx hb dX9_isBack_20 rfl (lv_at hl 0 rfl) ?_
          refine g_get (ci := 9) (C := RX9) (T := TX9) (N := 36) hx hb hts hin9 hown hK hG hk1 (cell_9 hq2) rfl 9 (by decide) lk_25 (fun _ h9 => h9) (v := rv ad (gR S k0 9)) rfl dX9_isBack_21 ?_
          refine lv_iload_n hx hb dX9_isBack_24 rfl (lv_at hl 2 rfl) ?_
          obtain ⟨q8, e9, h⟩ := h
          refine W.eq (g2 := F0 m 25 ls [.int x2, .ref (ad q8)]) (by rw [e9]; rfl) ?_
          obtain ⟨hk10, hq11, h⟩ := h
          obtain ⟨hi12, h⟩ := h
          refine r_zald hx hb hK hG hk10 hq11 hi12 dX9_isBack_25 ?_
          refine lv_if_eq (tgt := 46) hx hb dX9_isBack_26 (by decide) (fun c_26 => ?_) (fun c_26 => ?_)
          · have h := h.1 c_26
            exact b_46 (wX9_isBack_2 Q k0 f9) hL_2 x1 x2 S H locs ls h hsh hG (lv_sub hl [0, 1, 2] rfl)
          · have h := h.2 c_26
            refine lv_aload_n hx hb dX9_isBack_29 rfl (lv_at hl 0 rfl) ?_
            refine g_get (ci := 9) (C := RX9) (T := TX9) (N := 36) hx hb hts hin9 hown hK hG hk1 (cell_9 hq2) rfl 15 (by decide) lk_44 (fun _ h9 => h9) (v := rv ad (gR S k0 15)) rfl dX9_isBack_30 ?_
            refine lv_iload_n hx hb dX9_isBack_33 rfl (lv_at hl 2 rfl) ?_
            obtain ⟨q13, e14, h⟩ := h
            refine W.eq (g2 := F0 m 34 ls [.int x2, .ref (ad q13)]) (by rw [e14]; rfl) ?_
            obtain ⟨hk15, hq16, h⟩ := h
            obtain ⟨hi17, h⟩ := h
            refine r_iald hx hb hK hG hk15 hq16 hi17 dX9_isBack_34 ?_
            refine lv_aload_n hx hb dX9_isBack_35 rfl (lv_at hl 0 rfl) ?_
            refine g_get (ci := 9) (C := RX9) (T := TX9) (N := 36) hx hb hts hin9 hown hK hG hk1 (cell_9 hq2) rfl 15 (by decide) lk_44 (fun _ h9 => h9) (v := rv ad (gR S k0 15)) rfl dX9_isBack_36 ?_
            refine lv_iload_n hx hb dX9_isBack_39 rfl (lv_at hl 1 rfl) ?_
            refine W.eq (g2 := F0 m 40 ls [.int x1, .ref (ad q13), .int (gX S q13 (Int32.toNatClampNeg x2))]) (by rw [e14]; rfl) ?_
            obtain ⟨hi18, h⟩ := h
            refine r_iald hx hb hK hG hk15 hq16 hi18 dX9_isBack_40 ?_
            refine lv_icmp_le (tgt := 46) hx hb dX9_isBack_41 (by decide) (fun c_41 => ?_) (fun c_41 => ?_)
            · have h := h.1 c_41
              exact b_46 (wX9_isBack_2 Q k0 f9) hL_2 x1 x2 S H locs ls h hsh hG (lv_sub hl [0, 1, 2] rfl)
            · have h := h.2 c_41
              refine lv_iconst (v := 1) hx hb dX9_isBack_44 (by decide) ?_
              exact W.zret (v := 1) hx hb hr rfl (fun t ht hW => r_end (r := some (vI 1)) hAe hG hsh ⟨_, rfl, h⟩ rfl ht) hG.2.2.2.2 dX9_isBack_45
  have hl : lv_has ls 3 [(0, .ref (ad k0)), (1, .int x1)] := hl
  have hsh : gSh S S0 := by rw [hS0]; exact gSh.rf S
  obtain ⟨H, eH⟩ : ∃ z : Heap, z = s.heap := ⟨_, rfl⟩
  obtain ⟨locs, eL⟩ : ∃ z : List Loc, z = [] := ⟨_, rfl⟩
  have hG : gS D Y ad A s.heap S H locs := by rw [eH, eL]; exact hG
  suffices hgoal : W p l e (rmD 0) s m args below meth c H locs 0 0 (MQ below (gE D Y za ad S0 s.heap.size (fun r S9 => ∃ x, r = some (vI x) ∧ Q x S9)) args s 0 0 A) (F0 m 0 ls []) by rw [eH, eL] at hgoal; exact hgoal
  unfold wX9_isBack at h
  refine lv_iconst (v := 0) hx hb dX9_isBack_0 (by decide) ?_
  refine lv_istore_n (lv' := [(2, .int 0), (0, .ref (ad k0)), (1, .int x1)]) hx hb dX9_isBack_1 rfl hl (by decide) rfl (fun ls hl => ?_)
  obtain ⟨f19, h⟩ := h
  exact b_2 f19 x1 0 S H locs ls h hsh hG (lv_sub hl [1, 2, 0] rfl)
def wX9_isStale_65 (Q : Int32 → GS → Prop) (L_2 : Int32 → Int32 → GS → Prop) (k0 : Nat) (x1 : Int32) (x2 : Int32) (S : GS) : Prop :=
  L_2 x1 (x2 + 1) S
def wX9_isStale_48 (Q : Int32 → GS → Prop) (L_2 : Int32 → Int32 → GS → Prop) (k0 : Nat) (x1 : Int32) (x2 : Int32) (S : GS) : Prop :=
  k0 < gN S ∧ gK S k0 = 9 ∧ ∃ q3 : Nat, gR S k0 16 = some q3 ∧ q3 < gN S ∧ gK S q3 = 11 ∧ vp_in x2 (gL S q3) ∧ vp_in x1 (gL S q3) ∧ ((gX S q3 (Int32.toNatClampNeg x2)) < (gX S q3 (Int32.toNatClampNeg x1)) → wX9_isStale_65 Q L_2 k0 x1 x2 S) ∧ (¬ (gX S q3 (Int32.toNatClampNeg x2)) < (gX S q3 (Int32.toNatClampNeg x1)) → Q 1 S)
def wX9_isStale_2 (Q : Int32 → GS → Prop) (k0 : Nat) : Nat → Int32 → Int32 → GS → Prop
  | 0, _, _, _ => False
  | f9 + 1, x1, x2, S =>
  (x1 ≤ x2 → Q 0 S) ∧ (¬ x1 ≤ x2 → k0 < gN S ∧ gK S k0 = 9 ∧ ∃ q11 : Nat, gR S k0 8 = some q11 ∧ q11 < gN S ∧ gK S q11 = 11 ∧ vp_in x2 (gL S q11) ∧ (¬ (gX S q11 (Int32.toNatClampNeg x2)) = (gX S k0 20) → wX9_isStale_65 Q (wX9_isStale_2 Q k0 f9) k0 x1 x2 S) ∧ ((gX S q11 (Int32.toNatClampNeg x2)) = (gX S k0 20) → ∃ q16 : Nat, gR S k0 10 = some q16 ∧ q16 < gN S ∧ gK S q16 = 12 ∧ vp_in x2 (gL S q16) ∧ ((gX S q16 (Int32.toNatClampNeg x2)) = 0 → wX9_isStale_65 Q (wX9_isStale_2 Q k0 f9) k0 x1 x2 S) ∧ (¬ (gX S q16 (Int32.toNatClampNeg x2)) = 0 → ∃ q21 : Nat, gR S k0 12 = some q21 ∧ q21 < gN S ∧ gK S q21 = 11 ∧ vp_in x2 (gL S q21) ∧ ((gX S q21 (Int32.toNatClampNeg x2)) = 0 → wX9_isStale_48 Q (wX9_isStale_2 Q k0 f9) k0 x1 x2 S) ∧ (¬ (gX S q21 (Int32.toNatClampNeg x2)) = 0 → vp_in x2 (gL S q21) ∧ (¬ (gX S q21 (Int32.toNatClampNeg x2)) = 4 → wX9_isStale_65 Q (wX9_isStale_2 Q k0 f9) k0 x1 x2 S) ∧ ((gX S q21 (Int32.toNatClampNeg x2)) = 4 → wX9_isStale_48 Q (wX9_isStale_2 Q k0 f9) k0 x1 x2 S)))))
def wX9_isStale (S : GS) (k0 : Nat) (x1 : Int32) (Q : Int32 → GS → Prop) : Prop :=
  ∃ f27 : Nat, wX9_isStale_2 Q k0 f27 x1 0 S
set_option maxHeartbeats 4000000 in
set_option maxRecDepth 100000 in
theorem tX9_isStale (l : Launch) (S : GS) (k0 : Nat) (x1 : Int32) (Q : Int32 → GS → Prop) (h : wX9_isStale S k0 x1 Q) : CS l yX9_isStale wsX9_isStale 0 S [vR (some k0), vI x1] (fun r S9 => ∃ x, r = some (vI x) ∧ Q x S9) := by
  refine CS.ofW (cc := cX9_isStale) (maxL := 3) (ret := (some .boolean)) RX9 (by decide) rfl rfl (fun _ _ => Nat.le_of_ble_eq_true rfl) ?_
  intro p e s m args below meth c D Y za ad A ls hAe hx hb hr hml hts hown hlocks hK hA hG hl
  obtain ⟨S0, hS0⟩ : ∃ z : GS, z = S := ⟨_, rfl⟩
  rw [← hS0] at hAe
  rw [← hS0]
  have hin9 : ∀ w ∈ wsX90, w ∈ wsX9_isStale := by decide +kernel
  have lk_22 := hts (.fieldLink RX9 22 "PauseLogModel" "log" "[I") (by decide +kernel)
  have lk_182 := hts (.fieldLink RX9 182 "PauseLogModel" "logs" "I") (by decide +kernel)
  have lk_29 := hts (.fieldLink RX9 29 "PauseLogModel" "taken" "[Z") (by decide +kernel)
  have lk_35 := hts (.fieldLink RX9 35 "PauseLogModel" "shape" "[I") (by decide +kernel)
  have lk_47 := hts (.fieldLink RX9 47 "PauseLogModel" "id" "[I") (by decide +kernel)
  have b_65 : ∀ (L_2 : Int32 → Int32 → GS → Prop) (hL_2 : ∀ (x1 : Int32) (x2 : Int32) (S : GS) (H : Heap) (locs : List Loc) (ls : Array Slot), L_2 x1 x2 S → gSh S S0 → gS D Y ad A s.heap S H locs → lv_has ls 3 [(0, .ref (ad k0)), (1, .int x1), (2, .int x2)] → W p l e (rmD 0) s m args below meth c H locs 0 0 (MQ below (gE D Y za ad S0 s.heap.size (fun r S9 => ∃ x, r = some (vI x) ∧ Q x S9)) args s 0 0 A) (F0 m 2 ls [])) (x1 : Int32) (x2 : Int32) (S : GS) (H : Heap) (locs : List Loc) (ls : Array Slot), wX9_isStale_65 Q L_2 k0 x1 x2 S → gSh S S0 → gS D Y ad A s.heap S H locs → lv_has ls 3 [(0, .ref (ad k0)), (1, .int x1), (2, .int x2)] → W p l e (rmD 0) s m args below meth c H locs 0 0 (MQ below (gE D Y za ad S0 s.heap.size (fun r S9 => ∃ x, r = some (vI x) ∧ Q x S9)) args s 0 0 A) (F0 m 65 ls []) := by
    intro L_2 hL_2 x1 x2 S H locs ls h hsh hG hl
    unfold wX9_isStale_65 at h
    refine lv_iinc (v := x2 + 1) (lv' := [(2, .int (x2 + 1)), (0, .ref (ad k0)), (1, .int x1)]) hx hb dX9_isStale_65 hl (k := 2) rfl rfl (by decide) rfl (fun ls hl => ?_)
    refine lv_goto (tgt := 2) hx hb dX9_isStale_68 (by decide) ?_
    exact hL_2 x1 (x2 + 1) S H locs ls h hsh hG (lv_sub hl [1, 2, 0] rfl)
  have b_48 : ∀ (L_2 : Int32 → Int32 → GS → Prop) (hL_2 : ∀ (x1 : Int32) (x2 : Int32) (S : GS) (H : Heap) (locs : List Loc) (ls : Array Slot), L_2 x1 x2 S → gSh S S0 → gS D Y ad A s.heap S H locs → lv_has ls 3 [(0, .ref (ad k0)), (1, .int x1), (2, .int x2)] → W p l e (rmD 0) s m args below meth c H locs 0 0 (MQ below (gE D Y za ad S0 s.heap.size (fun r S9 => ∃ x, r = some (vI x) ∧ Q x S9)) args s 0 0 A) (F0 m 2 ls [])) (x1 : Int32) (x2 : Int32) (S : GS) (H : Heap) (locs : List Loc) (ls : Array Slot), wX9_isStale_48 Q L_2 k0 x1 x2 S → gSh S S0 → gS D Y ad A s.heap S H locs → lv_has ls 3 [(0, .ref (ad k0)), (1, .int x1), (2, .int x2)] → W p l e (rmD 0) s m args below meth c H locs 0 0 (MQ below (gE D Y za ad S0 s.heap.size (fun r S9 => ∃ x, r = some (vI x) ∧ Q x S9)) args s 0 0 A) (F0 m 48 ls []) := by
    intro L_2 hL_2 x1 x2 S H locs ls h hsh hG hl
    unfold wX9_isStale_48 at h
    refine lv_aload_n hx hb dX9_isStale_48 rfl (lv_at hl 0 rfl) ?_
    obtain ⟨hk1, hq2, h⟩ := h
    refine g_get (ci := 9) (C := RX9) (T := TX9) (N := 36) hx hb hts hin9 hown hK hG hk1 (cell_9 hq2) rfl 16 (by decide) lk_47 (fun _ h9 => h9) (v := rv ad (gR S k0 16)) rfl dX9_isStale_49 ?_
    refine lv_iload_n hx hb dX9_isStale_52 rfl (lv_at hl 2 rfl) ?_
    obtain ⟨q3, e4, h⟩ := h
    refine W.eq (g2 := F0 m 53 ls [.int x2, .ref (ad q3)]) (by rw [e4]; rfl) ?_
    obtain ⟨hk5, hq6, h⟩ := h
    obtain ⟨hi7, h⟩ := h
    refine r_iald hx hb hK hG hk5 hq6 hi7 dX9_isStale_53 ?_
    refine lv_aload_n hx hb dX9_isStale_54 rfl (lv_at hl 0 rfl) ?_
    refine g_get (ci := 9) (C := RX9) (T := TX9) (N := 36) hx hb hts hin9 hown hK hG hk1 (cell_9 hq2) rfl 16 (by decide) lk_47 (fun _ h9 => h9) (v := rv ad (gR S k0 16)) rfl dX9_isStale_55 ?_
    refine lv_iload_n hx hb dX9_isStale_58 rfl (lv_at hl 1 rfl) ?_
    refine W.eq (g2 := F0 m 59 ls [.int x1, .ref (ad q3), .int (gX S q3 (Int32.toNatClampNeg x2))]) (by rw [e4]; rfl) ?_
    obtain ⟨hi8, h⟩ := h
    refine r_iald hx hb hK hG hk5 hq6 hi8 dX9_isStale_59 ?_
    refine lv_icmp_lt (tgt := 65) hx hb dX9_isStale_60 (by decide) (fun c_60 => ?_) (fun c_60 => ?_)
    · have h := h.1 c_60
      exact b_65 L_2 hL_2 x1 x2 S H locs ls h hsh hG (lv_sub hl [0, 1, 2] rfl)
    · have h := h.2 c_60
      refine lv_iconst (v := 1) hx hb dX9_isStale_63 (by decide) ?_
      exact W.zret (v := 1) hx hb hr rfl (fun t ht hW => r_end (r := some (vI 1)) hAe hG hsh ⟨_, rfl, h⟩ rfl ht) hG.2.2.2.2 dX9_isStale_64
  have b_2 : ∀  (f9 : Nat) (x1 : Int32) (x2 : Int32) (S : GS) (H : Heap) (locs : List Loc) (ls : Array Slot), wX9_isStale_2 Q k0 f9 x1 x2 S → gSh S S0 → gS D Y ad A s.heap S H locs → lv_has ls 3 [(0, .ref (ad k0)), (1, .int x1), (2, .int x2)] → W p l e (rmD 0) s m args below meth c H locs 0 0 (MQ below (gE D Y za ad S0 s.heap.size (fun r S9 => ∃ x, r = some (vI x) ∧ Q x S9)) args s 0 0 A) (F0 m 2 ls []) := by
    intro  f9
    induction f9 with
    | zero =>
      intro x1 x2 S H locs ls h
      exact False.elim (by unfold wX9_isStale_2 at h; exact h)
    | succ f9 hL_2 =>
      intro x1 x2 S H locs ls h hsh hG hl
      unfold wX9_isStale_2 at h
      refine lv_iload_n hx hb dX9_isStale_2 rfl (lv_at hl 2 rfl) ?_
      refine lv_iload_n hx hb dX9_isStale_3 rfl (lv_at hl 1 rfl) ?_
      refine lv_icmp_ge (tgt := 71) hx hb dX9_isStale_4 (by decide) (fun c_4 => ?_) (fun c_4 => ?_)
      · have h := h.1 c_4
        refine lv_iconst (v := 0) hx hb dX9_isStale_71 (by decide) ?_
        exact W.zret (v := 0) hx hb hr rfl (fun t ht hW => r_end (r := some (vI 0)) hAe hG hsh ⟨_, rfl, h⟩ rfl ht) hG.2.2.2.2 dX9_isStale_72
      · have h := h.2 c_4
        refine lv_aload_n hx hb dX9_isStale_7 rfl (lv_at hl 0 rfl) ?_
        obtain ⟨hk9, hq10, h⟩ := h
        refine g_get (ci := 9) (C := RX9) (T := TX9) (N := 36) hx hb hts hin9 hown hK hG hk9 (cell_9 hq10) rfl 8 (by decide) lk_22 (fun _ h9 => h9) (v := rv ad (gR S k0 8)) rfl dX9_isStale_8 ?_
        refine lv_iload_n hx hb dX9_isStale_11 rfl (lv_at hl 2 rfl) ?_
        obtain ⟨q11, e12, h⟩ := h
        refine W.eq (g2 := F0 m 12 ls [.int x2, .ref (ad q11)]) (by rw [e12]; rfl) ?_
        obtain ⟨hk13, hq14, h⟩ := h
        obtain ⟨hi15, h⟩ := h
        refine r_iald hx hb hK hG hk13 hq14 hi15 dX9_isStale_12 ?_
        refine lv_aload_n hx hb dX9_isStale_13 rfl (lv_at hl 0 rfl) ?_
        refine g_get (ci := 9) (C := RX9) (T := TX9) (N := 36) hx hb hts hin9 hown hK hG hk9 (cell_9 hq10) rfl 20 (by decide) lk_182 (fun _ h9 => h9) (v := .int (gX S k0 20)) rfl dX9_isStale_14 ?_
        refine lv_icmp_ne (tgt := 65) hx hb dX9_isStale_17 (by decide) (fun c_17 => ?_) (fun c_17 => ?_)
        · have h := h.1 c_17
          exact b_65 (wX9_isStale_2 Q k0 f9) hL_2 x1 x2 S H locs ls h hsh hG (lv_sub hl [0, 1, 2] rfl)
        · have h := h.2 c_17
          refine lv_aload_n hx hb dX9_isStale_20 rfl (lv_at hl 0 rfl) ?_
          refine g_get (ci := 9) (C := RX9) (T := TX9) (N := 36) hx hb hts hin9 hown hK hG hk9 (cell_9 hq10) rfl 10 (by decide) lk_29 (fun _ h9 => h9) (v := rv ad (gR S k0 10)) rfl dX9_isStale_21 ?_
          refine lv_iload_n hx hb dX9_isStale_24 rfl (lv_at hl 2 rfl) ?_
          obtain ⟨q16, e17, h⟩ := h
          refine W.eq (g2 := F0 m 25 ls [.int x2, .ref (ad q16)]) (by rw [e17]; rfl) ?_
          obtain ⟨hk18, hq19, h⟩ := h
          obtain ⟨hi20, h⟩ := h
          refine r_zald hx hb hK hG hk18 hq19 hi20 dX9_isStale_25 ?_
          refine lv_if_eq (tgt := 65) hx hb dX9_isStale_26 (by decide) (fun c_26 => ?_) (fun c_26 => ?_)
          · have h := h.1 c_26
            exact b_65 (wX9_isStale_2 Q k0 f9) hL_2 x1 x2 S H locs ls h hsh hG (lv_sub hl [0, 1, 2] rfl)
          · have h := h.2 c_26
            refine lv_aload_n hx hb dX9_isStale_29 rfl (lv_at hl 0 rfl) ?_
            refine g_get (ci := 9) (C := RX9) (T := TX9) (N := 36) hx hb hts hin9 hown hK hG hk9 (cell_9 hq10) rfl 12 (by decide) lk_35 (fun _ h9 => h9) (v := rv ad (gR S k0 12)) rfl dX9_isStale_30 ?_
            refine lv_iload_n hx hb dX9_isStale_33 rfl (lv_at hl 2 rfl) ?_
            obtain ⟨q21, e22, h⟩ := h
            refine W.eq (g2 := F0 m 34 ls [.int x2, .ref (ad q21)]) (by rw [e22]; rfl) ?_
            obtain ⟨hk23, hq24, h⟩ := h
            obtain ⟨hi25, h⟩ := h
            refine r_iald hx hb hK hG hk23 hq24 hi25 dX9_isStale_34 ?_
            refine lv_if_eq (tgt := 48) hx hb dX9_isStale_35 (by decide) (fun c_35 => ?_) (fun c_35 => ?_)
            · have h := h.1 c_35
              exact b_48 (wX9_isStale_2 Q k0 f9) hL_2 x1 x2 S H locs ls h hsh hG (lv_sub hl [0, 1, 2] rfl)
            · have h := h.2 c_35
              refine lv_aload_n hx hb dX9_isStale_38 rfl (lv_at hl 0 rfl) ?_
              refine g_get (ci := 9) (C := RX9) (T := TX9) (N := 36) hx hb hts hin9 hown hK hG hk9 (cell_9 hq10) rfl 12 (by decide) lk_35 (fun _ h9 => h9) (v := rv ad (gR S k0 12)) rfl dX9_isStale_39 ?_
              refine lv_iload_n hx hb dX9_isStale_42 rfl (lv_at hl 2 rfl) ?_
              refine W.eq (g2 := F0 m 43 ls [.int x2, .ref (ad q21)]) (by rw [e22]; rfl) ?_
              obtain ⟨hi26, h⟩ := h
              refine r_iald hx hb hK hG hk23 hq24 hi26 dX9_isStale_43 ?_
              refine lv_iconst (v := 4) hx hb dX9_isStale_44 (by decide) ?_
              refine lv_icmp_ne (tgt := 65) hx hb dX9_isStale_45 (by decide) (fun c_45 => ?_) (fun c_45 => ?_)
              · have h := h.1 c_45
                exact b_65 (wX9_isStale_2 Q k0 f9) hL_2 x1 x2 S H locs ls h hsh hG (lv_sub hl [0, 1, 2] rfl)
              · have h := h.2 c_45
                exact b_48 (wX9_isStale_2 Q k0 f9) hL_2 x1 x2 S H locs ls h hsh hG (lv_sub hl [0, 1, 2] rfl)
  have hl : lv_has ls 3 [(0, .ref (ad k0)), (1, .int x1)] := hl
  have hsh : gSh S S0 := by rw [hS0]; exact gSh.rf S
  obtain ⟨H, eH⟩ : ∃ z : Heap, z = s.heap := ⟨_, rfl⟩
  obtain ⟨locs, eL⟩ : ∃ z : List Loc, z = [] := ⟨_, rfl⟩
  have hG : gS D Y ad A s.heap S H locs := by rw [eH, eL]; exact hG
  suffices hgoal : W p l e (rmD 0) s m args below meth c H locs 0 0 (MQ below (gE D Y za ad S0 s.heap.size (fun r S9 => ∃ x, r = some (vI x) ∧ Q x S9)) args s 0 0 A) (F0 m 0 ls []) by rw [eH, eL] at hgoal; exact hgoal
  unfold wX9_isStale at h
  refine lv_iconst (v := 0) hx hb dX9_isStale_0 (by decide) ?_
  refine lv_istore_n (lv' := [(2, .int 0), (0, .ref (ad k0)), (1, .int x1)]) hx hb dX9_isStale_1 rfl hl (by decide) rfl (fun ls hl => ?_)
  obtain ⟨f27, h⟩ := h
  exact b_2 f27 x1 0 S H locs ls h hsh hG (lv_sub hl [1, 2, 0] rfl)
def wX9_ofOpenPause_36 (Q : Int32 → GS → Prop) (L_7 : Int32 → Int32 → GS → Prop) (k0 : Nat) (x1 : Int32) (x2 : Int32) (S : GS) : Prop :=
  L_7 x1 (x2 + 1) S
def wX9_ofOpenPause_7 (Q : Int32 → GS → Prop) (k0 : Nat) : Nat → Int32 → Int32 → GS → Prop
  | 0, _, _, _ => False
  | f9 + 1, x1, x2, S =>
  k0 < gN S ∧ gK S k0 = 9 ∧ ((gX S k0 19) ≤ x2 → Q (-1) S) ∧ (¬ (gX S k0 19) ≤ x2 → ∃ q3 : Nat, gR S k0 10 = some q3 ∧ q3 < gN S ∧ gK S q3 = 12 ∧ vp_in x2 (gL S q3) ∧ ((gX S q3 (Int32.toNatClampNeg x2)) = 0 → wX9_ofOpenPause_36 Q (wX9_ofOpenPause_7 Q k0 f9) k0 x1 x2 S) ∧ (¬ (gX S q3 (Int32.toNatClampNeg x2)) = 0 → ∃ q8 : Nat, gR S k0 12 = some q8 ∧ q8 < gN S ∧ gK S q8 = 11 ∧ vp_in x2 (gL S q8) ∧ (¬ (gX S q8 (Int32.toNatClampNeg x2)) = x1 → wX9_ofOpenPause_36 Q (wX9_ofOpenPause_7 Q k0 f9) k0 x1 x2 S) ∧ ((gX S q8 (Int32.toNatClampNeg x2)) = x1 → Q x2 S)))
def wX9_ofOpenPause (S : GS) (k0 : Nat) (x1 : Int32) (Q : Int32 → GS → Prop) : Prop :=
  k0 < gN S ∧ gK S k0 = 9 ∧ ∃ f15 : Nat, wX9_ofOpenPause_7 Q k0 f15 x1 ((gX S k0 30) + 1) S
set_option maxHeartbeats 4000000 in
set_option maxRecDepth 100000 in
theorem tX9_ofOpenPause (l : Launch) (S : GS) (k0 : Nat) (x1 : Int32) (Q : Int32 → GS → Prop) (h : wX9_ofOpenPause S k0 x1 Q) : CS l yX9_ofOpenPause wsX9_ofOpenPause 0 S [vR (some k0), vI x1] (fun r S9 => ∃ x, r = some (vI x) ∧ Q x S9) := by
  refine CS.ofW (cc := cX9_ofOpenPause) (maxL := 3) (ret := (some .int)) RX9 (by decide) rfl rfl (fun _ _ => Nat.le_of_ble_eq_true rfl) ?_
  intro p e s m args below meth c D Y za ad A ls hAe hx hb hr hml hts hown hlocks hK hA hG hl
  obtain ⟨S0, hS0⟩ : ∃ z : GS, z = S := ⟨_, rfl⟩
  rw [← hS0] at hAe
  rw [← hS0]
  have hin9 : ∀ w ∈ wsX90, w ∈ wsX9_ofOpenPause := by decide +kernel
  have lk_77 := hts (.fieldLink RX9 77 "PauseLogModel" "openPause" "I") (by decide +kernel)
  have lk_175 := hts (.fieldLink RX9 175 "PauseLogModel" "lines" "I") (by decide +kernel)
  have lk_29 := hts (.fieldLink RX9 29 "PauseLogModel" "taken" "[Z") (by decide +kernel)
  have lk_35 := hts (.fieldLink RX9 35 "PauseLogModel" "shape" "[I") (by decide +kernel)
  have b_36 : ∀ (L_7 : Int32 → Int32 → GS → Prop) (hL_7 : ∀ (x1 : Int32) (x2 : Int32) (S : GS) (H : Heap) (locs : List Loc) (ls : Array Slot), L_7 x1 x2 S → gSh S S0 → gS D Y ad A s.heap S H locs → lv_has ls 3 [(0, .ref (ad k0)), (1, .int x1), (2, .int x2)] → W p l e (rmD 0) s m args below meth c H locs 0 0 (MQ below (gE D Y za ad S0 s.heap.size (fun r S9 => ∃ x, r = some (vI x) ∧ Q x S9)) args s 0 0 A) (F0 m 7 ls [])) (x1 : Int32) (x2 : Int32) (S : GS) (H : Heap) (locs : List Loc) (ls : Array Slot), wX9_ofOpenPause_36 Q L_7 k0 x1 x2 S → gSh S S0 → gS D Y ad A s.heap S H locs → lv_has ls 3 [(0, .ref (ad k0)), (1, .int x1), (2, .int x2)] → W p l e (rmD 0) s m args below meth c H locs 0 0 (MQ below (gE D Y za ad S0 s.heap.size (fun r S9 => ∃ x, r = some (vI x) ∧ Q x S9)) args s 0 0 A) (F0 m 36 ls []) := by
    intro L_7 hL_7 x1 x2 S H locs ls h hsh hG hl
    unfold wX9_ofOpenPause_36 at h
    refine lv_iinc (v := x2 + 1) (lv' := [(2, .int (x2 + 1)), (0, .ref (ad k0)), (1, .int x1)]) hx hb dX9_ofOpenPause_36 hl (k := 2) rfl rfl (by decide) rfl (fun ls hl => ?_)
    refine lv_goto (tgt := 7) hx hb dX9_ofOpenPause_39 (by decide) ?_
    exact hL_7 x1 (x2 + 1) S H locs ls h hsh hG (lv_sub hl [1, 2, 0] rfl)
  have b_7 : ∀  (f9 : Nat) (x1 : Int32) (x2 : Int32) (S : GS) (H : Heap) (locs : List Loc) (ls : Array Slot), wX9_ofOpenPause_7 Q k0 f9 x1 x2 S → gSh S S0 → gS D Y ad A s.heap S H locs → lv_has ls 3 [(0, .ref (ad k0)), (1, .int x1), (2, .int x2)] → W p l e (rmD 0) s m args below meth c H locs 0 0 (MQ below (gE D Y za ad S0 s.heap.size (fun r S9 => ∃ x, r = some (vI x) ∧ Q x S9)) args s 0 0 A) (F0 m 7 ls []) := by
    intro  f9
    induction f9 with
    | zero =>
      intro x1 x2 S H locs ls h
      exact False.elim (by unfold wX9_ofOpenPause_7 at h; exact h)
    | succ f9 hL_7 =>
      intro x1 x2 S H locs ls h hsh hG hl
      unfold wX9_ofOpenPause_7 at h
      refine lv_iload_n hx hb dX9_ofOpenPause_7 rfl (lv_at hl 2 rfl) ?_
      refine lv_aload_n hx hb dX9_ofOpenPause_8 rfl (lv_at hl 0 rfl) ?_
      obtain ⟨hk1, hq2, h⟩ := h
      refine g_get (ci := 9) (C := RX9) (T := TX9) (N := 36) hx hb hts hin9 hown hK hG hk1 (cell_9 hq2) rfl 19 (by decide) lk_175 (fun _ h9 => h9) (v := .int (gX S k0 19)) rfl dX9_ofOpenPause_9 ?_
      refine lv_icmp_ge (tgt := 42) hx hb dX9_ofOpenPause_12 (by decide) (fun c_12 => ?_) (fun c_12 => ?_)
      · have h := h.1 c_12
        refine lv_iconst (v := (-1)) hx hb dX9_ofOpenPause_42 (by decide) ?_
        exact W.iret (v := (-1)) hx hb hr (fun t ht hW => r_end (r := some (vI (-1))) hAe hG hsh ⟨_, rfl, h⟩ rfl ht) hG.2.2.2.2 dX9_ofOpenPause_43
      · have h := h.2 c_12
        refine lv_aload_n hx hb dX9_ofOpenPause_15 rfl (lv_at hl 0 rfl) ?_
        refine g_get (ci := 9) (C := RX9) (T := TX9) (N := 36) hx hb hts hin9 hown hK hG hk1 (cell_9 hq2) rfl 10 (by decide) lk_29 (fun _ h9 => h9) (v := rv ad (gR S k0 10)) rfl dX9_ofOpenPause_16 ?_
        refine lv_iload_n hx hb dX9_ofOpenPause_19 rfl (lv_at hl 2 rfl) ?_
        obtain ⟨q3, e4, h⟩ := h
        refine W.eq (g2 := F0 m 20 ls [.int x2, .ref (ad q3)]) (by rw [e4]; rfl) ?_
        obtain ⟨hk5, hq6, h⟩ := h
        obtain ⟨hi7, h⟩ := h
        refine r_zald hx hb hK hG hk5 hq6 hi7 dX9_ofOpenPause_20 ?_
        refine lv_if_eq (tgt := 36) hx hb dX9_ofOpenPause_21 (by decide) (fun c_21 => ?_) (fun c_21 => ?_)
        · have h := h.1 c_21
          exact b_36 (wX9_ofOpenPause_7 Q k0 f9) hL_7 x1 x2 S H locs ls h hsh hG (lv_sub hl [0, 1, 2] rfl)
        · have h := h.2 c_21
          refine lv_aload_n hx hb dX9_ofOpenPause_24 rfl (lv_at hl 0 rfl) ?_
          refine g_get (ci := 9) (C := RX9) (T := TX9) (N := 36) hx hb hts hin9 hown hK hG hk1 (cell_9 hq2) rfl 12 (by decide) lk_35 (fun _ h9 => h9) (v := rv ad (gR S k0 12)) rfl dX9_ofOpenPause_25 ?_
          refine lv_iload_n hx hb dX9_ofOpenPause_28 rfl (lv_at hl 2 rfl) ?_
          obtain ⟨q8, e9, h⟩ := h
          refine W.eq (g2 := F0 m 29 ls [.int x2, .ref (ad q8)]) (by rw [e9]; rfl) ?_
          obtain ⟨hk10, hq11, h⟩ := h
          obtain ⟨hi12, h⟩ := h
          refine r_iald hx hb hK hG hk10 hq11 hi12 dX9_ofOpenPause_29 ?_
          refine lv_iload_n hx hb dX9_ofOpenPause_30 rfl (lv_at hl 1 rfl) ?_
          refine lv_icmp_ne (tgt := 36) hx hb dX9_ofOpenPause_31 (by decide) (fun c_31 => ?_) (fun c_31 => ?_)
          · have h := h.1 c_31
            exact b_36 (wX9_ofOpenPause_7 Q k0 f9) hL_7 x1 x2 S H locs ls h hsh hG (lv_sub hl [0, 1, 2] rfl)
          · have h := h.2 c_31
            refine lv_iload_n hx hb dX9_ofOpenPause_34 rfl (lv_at hl 2 rfl) ?_
            exact W.iret (v := x2) hx hb hr (fun t ht hW => r_end (r := some (vI x2)) hAe hG hsh ⟨_, rfl, h⟩ rfl ht) hG.2.2.2.2 dX9_ofOpenPause_35
  have hl : lv_has ls 3 [(0, .ref (ad k0)), (1, .int x1)] := hl
  have hsh : gSh S S0 := by rw [hS0]; exact gSh.rf S
  obtain ⟨H, eH⟩ : ∃ z : Heap, z = s.heap := ⟨_, rfl⟩
  obtain ⟨locs, eL⟩ : ∃ z : List Loc, z = [] := ⟨_, rfl⟩
  have hG : gS D Y ad A s.heap S H locs := by rw [eH, eL]; exact hG
  suffices hgoal : W p l e (rmD 0) s m args below meth c H locs 0 0 (MQ below (gE D Y za ad S0 s.heap.size (fun r S9 => ∃ x, r = some (vI x) ∧ Q x S9)) args s 0 0 A) (F0 m 0 ls []) by rw [eH, eL] at hgoal; exact hgoal
  unfold wX9_ofOpenPause at h
  refine lv_aload_n hx hb dX9_ofOpenPause_0 rfl (lv_at hl 0 rfl) ?_
  obtain ⟨hk13, hq14, h⟩ := h
  refine g_get (ci := 9) (C := RX9) (T := TX9) (N := 36) hx hb hts hin9 hown hK hG hk13 (cell_9 hq14) rfl 30 (by decide) lk_77 (fun _ h9 => h9) (v := .int (gX S k0 30)) rfl dX9_ofOpenPause_1 ?_
  refine lv_iconst (v := 1) hx hb dX9_ofOpenPause_4 (by decide) ?_
  refine lv_iadd hx hb dX9_ofOpenPause_5 ?_
  refine lv_istore_n (lv' := [(2, .int ((gX S k0 30) + 1)), (0, .ref (ad k0)), (1, .int x1)]) hx hb dX9_ofOpenPause_6 rfl hl (by decide) rfl (fun ls hl => ?_)
  obtain ⟨f15, h⟩ := h
  exact b_7 f15 x1 ((gX S k0 30) + 1) S H locs ls h hsh hG (lv_sub hl [1, 2, 0] rfl)
def wX9_slow_38 (Q : Int32 → GS → Prop) (k0 : Nat) (t0 : Int32) (S : GS) : Prop :=
  (t0 = 0 ∨ t0 = 1) ∧ Q t0 S
def wX9_slow (S : GS) (k0 : Nat) (x1 : Int32) (x2 : Int32) (Q : Int32 → GS → Prop) : Prop :=
  k0 < gN S ∧ gK S k0 = 9 ∧ ∃ q4 : Nat, gR S k0 18 = some q4 ∧ q4 < gN S ∧ gK S q4 = 11 ∧ vp_in x1 (gL S q4) ∧ ∃ q9 : Nat, gR S k0 15 = some q9 ∧ q9 < gN S ∧ gK S q9 = 11 ∧ vp_in x1 (gL S q9) ∧ vp_in x2 (gL S q9) ∧ ((lg_cmp (Int32.toInt64 (gX S q4 (Int32.toNatClampNeg x1))) ((1000 * (Int32.toInt64 ((gX S q9 (Int32.toNatClampNeg x1)) - (gX S q9 (Int32.toNatClampNeg x2))))) + 999)) ≤ 0 → wX9_slow_38 Q k0 0 S) ∧ (¬ (lg_cmp (Int32.toInt64 (gX S q4 (Int32.toNatClampNeg x1))) ((1000 * (Int32.toInt64 ((gX S q9 (Int32.toNatClampNeg x1)) - (gX S q9 (Int32.toNatClampNeg x2))))) + 999)) ≤ 0 → wX9_slow_38 Q k0 1 S)
set_option maxHeartbeats 4000000 in
set_option maxRecDepth 100000 in
theorem tX9_slow (l : Launch) (S : GS) (k0 : Nat) (x1 : Int32) (x2 : Int32) (Q : Int32 → GS → Prop) (h : wX9_slow S k0 x1 x2 Q) : CS l yX9_slow wsX9_slow 0 S [vR (some k0), vI x1, vI x2] (fun r S9 => ∃ x, r = some (vI x) ∧ Q x S9) := by
  refine CS.ofW (cc := cX9_slow) (maxL := 3) (ret := (some .boolean)) RX9 (by decide) rfl rfl (fun _ _ => Nat.le_of_ble_eq_true rfl) ?_
  intro p e s m args below meth c D Y za ad A ls hAe hx hb hr hml hts hown hlocks hK hA hG hl
  obtain ⟨S0, hS0⟩ : ∃ z : GS, z = S := ⟨_, rfl⟩
  rw [← hS0] at hAe
  rw [← hS0]
  have hin9 : ∀ w ∈ wsX90, w ∈ wsX9_slow := by decide +kernel
  have lk_53 := hts (.fieldLink RX9 53 "PauseLogModel" "took" "[I") (by decide +kernel)
  have lk_185 := hts (.constantLong RX9 185 (1000)) (by decide +kernel)
  have lk_44 := hts (.fieldLink RX9 44 "PauseLogModel" "time" "[I") (by decide +kernel)
  have lk_187 := hts (.constantLong RX9 187 (999)) (by decide +kernel)
  have b_38 : ∀  (t0 : Int32) (S : GS) (H : Heap) (locs : List Loc) (ls : Array Slot), wX9_slow_38 Q k0 t0 S → gSh S S0 → gS D Y ad A s.heap S H locs → lv_has ls 3 [] → W p l e (rmD 0) s m args below meth c H locs 0 0 (MQ below (gE D Y za ad S0 s.heap.size (fun r S9 => ∃ x, r = some (vI x) ∧ Q x S9)) args s 0 0 A) (F0 m 38 ls [.int t0]) := by
    intro  t0 S H locs ls h hsh hG hl
    unfold wX9_slow_38 at h
    obtain ⟨hz1, h⟩ := h
    exact W.zret (v := t0) hx hb hr (nar01 hz1) (fun t ht hW => r_end (r := some (vI t0)) hAe hG hsh ⟨_, rfl, h⟩ rfl ht) hG.2.2.2.2 dX9_slow_38
  have hl : lv_has ls 3 [(0, .ref (ad k0)), (1, .int x1), (2, .int x2)] := hl
  have hsh : gSh S S0 := by rw [hS0]; exact gSh.rf S
  obtain ⟨H, eH⟩ : ∃ z : Heap, z = s.heap := ⟨_, rfl⟩
  obtain ⟨locs, eL⟩ : ∃ z : List Loc, z = [] := ⟨_, rfl⟩
  have hG : gS D Y ad A s.heap S H locs := by rw [eH, eL]; exact hG
  suffices hgoal : W p l e (rmD 0) s m args below meth c H locs 0 0 (MQ below (gE D Y za ad S0 s.heap.size (fun r S9 => ∃ x, r = some (vI x) ∧ Q x S9)) args s 0 0 A) (F0 m 0 ls []) by rw [eH, eL] at hgoal; exact hgoal
  unfold wX9_slow at h
  refine lv_aload_n hx hb dX9_slow_0 rfl (lv_at hl 0 rfl) ?_
  obtain ⟨hk2, hq3, h⟩ := h
  refine g_get (ci := 9) (C := RX9) (T := TX9) (N := 36) hx hb hts hin9 hown hK hG hk2 (cell_9 hq3) rfl 18 (by decide) lk_53 (fun _ h9 => h9) (v := rv ad (gR S k0 18)) rfl dX9_slow_1 ?_
  refine lv_iload_n hx hb dX9_slow_4 rfl (lv_at hl 1 rfl) ?_
  obtain ⟨q4, e5, h⟩ := h
  refine W.eq (g2 := F0 m 5 ls [.int x1, .ref (ad q4)]) (by rw [e5]; rfl) ?_
  obtain ⟨hk6, hq7, h⟩ := h
  obtain ⟨hi8, h⟩ := h
  refine r_iald hx hb hK hG hk6 hq7 hi8 dX9_slow_5 ?_
  refine lv_i2l hx hb dX9_slow_6 rfl ?_
  refine lv_ldc2 hx hb hown lk_185 dX9_slow_7 ?_
  refine lv_aload_n hx hb dX9_slow_10 rfl (lv_at hl 0 rfl) ?_
  refine g_get (ci := 9) (C := RX9) (T := TX9) (N := 36) hx hb hts hin9 hown hK hG hk2 (cell_9 hq3) rfl 15 (by decide) lk_44 (fun _ h9 => h9) (v := rv ad (gR S k0 15)) rfl dX9_slow_11 ?_
  refine lv_iload_n hx hb dX9_slow_14 rfl (lv_at hl 1 rfl) ?_
  obtain ⟨q9, e10, h⟩ := h
  refine W.eq (g2 := F0 m 15 ls [.int x1, .ref (ad q9), .long 1000, .long (Int32.toInt64 (gX S q4 (Int32.toNatClampNeg x1)))]) (by rw [e10]; rfl) ?_
  obtain ⟨hk11, hq12, h⟩ := h
  obtain ⟨hi13, h⟩ := h
  refine r_iald hx hb hK hG hk11 hq12 hi13 dX9_slow_15 ?_
  refine lv_aload_n hx hb dX9_slow_16 rfl (lv_at hl 0 rfl) ?_
  refine g_get (ci := 9) (C := RX9) (T := TX9) (N := 36) hx hb hts hin9 hown hK hG hk2 (cell_9 hq3) rfl 15 (by decide) lk_44 (fun _ h9 => h9) (v := rv ad (gR S k0 15)) rfl dX9_slow_17 ?_
  refine lv_iload_n hx hb dX9_slow_20 rfl (lv_at hl 2 rfl) ?_
  refine W.eq (g2 := F0 m 21 ls [.int x2, .ref (ad q9), .int (gX S q9 (Int32.toNatClampNeg x1)), .long 1000, .long (Int32.toInt64 (gX S q4 (Int32.toNatClampNeg x1)))]) (by rw [e10]; rfl) ?_
  obtain ⟨hi14, h⟩ := h
  refine r_iald hx hb hK hG hk11 hq12 hi14 dX9_slow_21 ?_
  refine lv_isub hx hb dX9_slow_22 ?_
  refine lv_i2l hx hb dX9_slow_23 rfl ?_
  refine lv_lmul hx hb dX9_slow_24 ?_
  refine lv_ldc2 hx hb hown lk_187 dX9_slow_25 ?_
  refine lv_ladd hx hb dX9_slow_28 ?_
  refine W.lcmp hx hb dX9_slow_29 ?_
  refine lv_if_le (tgt := 37) hx hb dX9_slow_30 (by decide) (fun c_30 => ?_) (fun c_30 => ?_)
  · have h := h.1 c_30
    refine lv_iconst (v := 0) hx hb dX9_slow_37 (by decide) ?_
    exact b_38 0 S H locs ls h hsh hG (lv_sub hl [] rfl)
  · have h := h.2 c_30
    refine lv_iconst (v := 1) hx hb dX9_slow_33 (by decide) ?_
    refine lv_goto (tgt := 38) hx hb dX9_slow_34 (by decide) ?_
    exact b_38 1 S H locs ls h hsh hG (lv_sub hl [] rfl)
def wX9_isWrong_31 (Q : Int32 → GS → Prop) (k0 : Nat) (t0 : Int32) (S : GS) : Prop :=
  (t0 = 0 ∨ t0 = 1) ∧ Q t0 S
def wX9_isWrong_17 (Q : Int32 → GS → Prop) (k0 : Nat) (x2 : Int32) (S : GS) : Prop :=
  k0 < gN S ∧ gK S k0 = 9 ∧ wX9_ofOpenPause S k0 x2 (fun u5 S4 => gSh S4 S → (u5 = (-1) → wX9_isWrong_31 Q k0 0 S4) ∧ (¬ u5 = (-1) → wX9_isWrong_31 Q k0 1 S4))
def wX9_isWrong_102 (Q : Int32 → GS → Prop) (k0 : Nat)  (S : GS) : Prop :=
  Q 1 S
def wX9_isWrong_211 (Q : Int32 → GS → Prop) (k0 : Nat)  (S : GS) : Prop :=
  Q 1 S
def wX9_isWrong_168 (Q : Int32 → GS → Prop) (L_120 : Int32 → Int32 → Int32 → Int32 → GS → Prop) (k0 : Nat) (x1 : Int32) (x3 : Int32) (x4 : Int32) (x5 : Int32) (t0 : Int32) (t1 : Int32) (S : GS) : Prop :=
  k0 < gN S ∧ gK S k0 = 9 ∧ ∃ q10 : Nat, gR S k0 17 = some q10 ∧ q10 < gN S ∧ gK S q10 = 11 ∧ vp_in ((3 * x1) + x5) (gL S q10) ∧ vp_in ((3 * x1) + 2) (gL S q10) ∧ ((gX S q10 (Int32.toNatClampNeg ((3 * x1) + 2))) < (gX S q10 (Int32.toNatClampNeg ((3 * x1) + x5))) → wX9_isWrong_211 Q k0  S) ∧ (¬ (gX S q10 (Int32.toNatClampNeg ((3 * x1) + 2))) < (gX S q10 (Int32.toNatClampNeg ((3 * x1) + x5))) → vp_in ((3 * x1) + x5) (gL S q10) ∧ ((t0 + t1) ≤ (gX S q10 (Int32.toNatClampNeg ((3 * x1) + x5))) → L_120 x1 x3 x4 (x5 + 1) S) ∧ (¬ (t0 + t1) ≤ (gX S q10 (Int32.toNatClampNeg ((3 * x1) + x5))) → wX9_isWrong_211 Q k0  S))
def wX9_isWrong_146 (Q : Int32 → GS → Prop) (L_120 : Int32 → Int32 → Int32 → Int32 → GS → Prop) (k0 : Nat) (x1 : Int32) (x3 : Int32) (x4 : Int32) (x5 : Int32) (t0 : Int32) (S : GS) : Prop :=
  (¬ x4 = (-1) → k0 < gN S ∧ gK S k0 = 9 ∧ ∃ q19 : Nat, gR S k0 17 = some q19 ∧ q19 < gN S ∧ gK S q19 = 11 ∧ vp_in ((3 * x4) + x5) (gL S q19) ∧ wX9_isWrong_168 Q L_120 k0 x1 x3 x4 x5 t0 (gX S q19 (Int32.toNatClampNeg ((3 * x4) + x5))) S) ∧ (x4 = (-1) → wX9_isWrong_168 Q L_120 k0 x1 x3 x4 x5 t0 0 S)
def wX9_isWrong_120 (Q : Int32 → GS → Prop) (k0 : Nat) : Nat → Int32 → Int32 → Int32 → Int32 → GS → Prop
  | 0, _, _, _, _, _ => False
  | f9 + 1, x1, x3, x4, x5, S =>
  ((2 : Int32) ≤ x5 → Q 0 S) ∧ (¬ (2 : Int32) ≤ x5 → (¬ x3 = (-1) → k0 < gN S ∧ gK S k0 = 9 ∧ ∃ q26 : Nat, gR S k0 17 = some q26 ∧ q26 < gN S ∧ gK S q26 = 11 ∧ vp_in ((3 * x3) + x5) (gL S q26) ∧ wX9_isWrong_146 Q (wX9_isWrong_120 Q k0 f9) k0 x1 x3 x4 x5 (gX S q26 (Int32.toNatClampNeg ((3 * x3) + x5))) S) ∧ (x3 = (-1) → wX9_isWrong_146 Q (wX9_isWrong_120 Q k0 f9) k0 x1 x3 x4 x5 0 S))
def wX9_isWrong (S : GS) (k0 : Nat) (x1 : Int32) (Q : Int32 → GS → Prop) : Prop :=
  k0 < gN S ∧ gK S k0 = 9 ∧ ∃ q33 : Nat, gR S k0 12 = some q33 ∧ q33 < gN S ∧ gK S q33 = 11 ∧ vp_in x1 (gL S q33) ∧ ((gX S q33 (Int32.toNatClampNeg x1)) = 2 → wX9_isWrong_17 Q k0 (gX S q33 (Int32.toNatClampNeg x1)) S) ∧ (¬ (gX S q33 (Int32.toNatClampNeg x1)) = 2 → (¬ (gX S q33 (Int32.toNatClampNeg x1)) = 3 → (¬ (gX S q33 (Int32.toNatClampNeg x1)) = 5 → ((gX S q33 (Int32.toNatClampNeg x1)) = 1 → ∃ q38 : Nat, gR S k0 13 = some q38 ∧ q38 < gN S ∧ gK S q38 = 11 ∧ vp_in x1 (gL S q38) ∧ vp_in (gX S k0 30) (gL S q38) ∧ (¬ (gX S q38 (Int32.toNatClampNeg x1)) = (gX S q38 (Int32.toNatClampNeg (gX S k0 30))) → wX9_isWrong_102 Q k0  S) ∧ ((gX S q38 (Int32.toNatClampNeg x1)) = (gX S q38 (Int32.toNatClampNeg (gX S k0 30))) → ∃ q44 : Nat, gR S k0 14 = some q44 ∧ q44 < gN S ∧ gK S q44 = 11 ∧ vp_in x1 (gL S q44) ∧ vp_in (gX S k0 30) (gL S q44) ∧ (¬ (gX S q44 (Int32.toNatClampNeg x1)) = (gX S q44 (Int32.toNatClampNeg (gX S k0 30))) → wX9_isWrong_102 Q k0  S) ∧ ((gX S q44 (Int32.toNatClampNeg x1)) = (gX S q44 (Int32.toNatClampNeg (gX S k0 30))) → wX9_slow S k0 x1 (gX S k0 30) (fun u51 S50 => gSh S50 S → (u51 = 0 → wX9_ofOpenPause S50 k0 2 (fun u61 S60 => gSh S60 S50 → wX9_ofOpenPause S60 k0 3 (fun u71 S70 => gSh S70 S60 → ∃ f80 : Nat, wX9_isWrong_120 Q k0 f80 x1 u61 u71 0 S70))) ∧ (¬ u51 = 0 → wX9_isWrong_102 Q k0  S50))))) ∧ (¬ (gX S q33 (Int32.toNatClampNeg x1)) = 1 → Q 0 S)) ∧ ((gX S q33 (Int32.toNatClampNeg x1)) = 5 → wX9_slow S k0 x1 (gX S k0 31) (fun u82 S81 => gSh S81 S → (u82 = 0 ∨ u82 = 1) ∧ Q u82 S81))) ∧ ((gX S q33 (Int32.toNatClampNeg x1)) = 3 → wX9_isWrong_17 Q k0 (gX S q33 (Int32.toNatClampNeg x1)) S))
set_option maxHeartbeats 4000000 in
set_option maxRecDepth 100000 in
theorem tX9_isWrong (l : Launch) (S : GS) (k0 : Nat) (x1 : Int32) (Q : Int32 → GS → Prop) (h : wX9_isWrong S k0 x1 Q) : CS l yX9_isWrong wsX9_isWrong 1 S [vR (some k0), vI x1] (fun r S9 => ∃ x, r = some (vI x) ∧ Q x S9) := by
  refine CS.ofW (cc := cX9_isWrong) (maxL := 7) (ret := (some .boolean)) RX9 (by decide) rfl rfl (fun _ _ => Nat.le_of_ble_eq_true rfl) ?_
  intro p e s m args below meth c D Y za ad A ls hAe hx hb hr hml hts hown hlocks hK hA hG hl
  obtain ⟨S0, hS0⟩ : ∃ z : GS, z = S := ⟨_, rfl⟩
  rw [← hS0] at hAe
  rw [← hS0]
  have hin9 : ∀ w ∈ wsX90, w ∈ wsX9_isWrong := by decide +kernel
  have lk_35 := hts (.fieldLink RX9 35 "PauseLogModel" "shape" "[I") (by decide +kernel)
  have lk_81 := hts (.fieldLink RX9 81 "PauseLogModel" "openMark" "I") (by decide +kernel)
  have lk_38 := hts (.fieldLink RX9 38 "PauseLogModel" "kind" "[I") (by decide +kernel)
  have lk_77 := hts (.fieldLink RX9 77 "PauseLogModel" "openPause" "I") (by decide +kernel)
  have lk_41 := hts (.fieldLink RX9 41 "PauseLogModel" "cause" "[I") (by decide +kernel)
  have lk_50 := hts (.fieldLink RX9 50 "PauseLogModel" "sizes" "[I") (by decide +kernel)
  have b_31 : ∀  (t0 : Int32) (S : GS) (H : Heap) (locs : List Loc) (ls : Array Slot), wX9_isWrong_31 Q k0 t0 S → gSh S S0 → gS D Y ad A s.heap S H locs → lv_has ls 7 [] → W p l e (rmD 1) s m args below meth c H locs 0 0 (MQ below (gE D Y za ad S0 s.heap.size (fun r S9 => ∃ x, r = some (vI x) ∧ Q x S9)) args s 0 0 A) (F0 m 31 ls [.int t0]) := by
    intro  t0 S H locs ls h hsh hG hl
    unfold wX9_isWrong_31 at h
    obtain ⟨hz1, h⟩ := h
    exact W.zret (v := t0) hx hb hr (nar01 hz1) (fun t ht hW => r_end (r := some (vI t0)) hAe hG hsh ⟨_, rfl, h⟩ rfl ht) hG.2.2.2.2 dX9_isWrong_31
  have b_17 : ∀  (x2 : Int32) (S : GS) (H : Heap) (locs : List Loc) (ls : Array Slot), wX9_isWrong_17 Q k0 x2 S → gSh S S0 → gS D Y ad A s.heap S H locs → lv_has ls 7 [(0, .ref (ad k0)), (2, .int x2)] → W p l e (rmD 1) s m args below meth c H locs 0 0 (MQ below (gE D Y za ad S0 s.heap.size (fun r S9 => ∃ x, r = some (vI x) ∧ Q x S9)) args s 0 0 A) (F0 m 17 ls []) := by
    intro  x2 S H locs ls h hsh hG hl
    unfold wX9_isWrong_17 at h
    refine lv_aload_n hx hb dX9_isWrong_17 rfl (lv_at hl 0 rfl) ?_
    refine lv_iload_n hx hb dX9_isWrong_18 rfl (lv_at hl 1 rfl) ?_
    obtain ⟨hk2, hq3, h⟩ := h
    refine r_callV (za := za) (k := k0) (ci := 9) (C := RX9) (T := TX9) (N := 36) (As := [vI x2]) (rest := []) (tX9_ofOpenPause l S k0 x2 _ h) ⟨hx, hb, hml, hown, hts⟩ (cwV 1 hts gX9_isWrong_X9_ofOpenPause rfl rfl rfl (by decide +kernel) ⟨by decide, by decide⟩) hK hG hA hk2 (cell_9 hq3) rfl rfl hl.1 rfl (Nat.le_of_ble_eq_true rfl) ⟨Nat.le_refl _, Nat.le_refl _⟩ dX9_isWrong_19 (fun r_9 S4 H locs hp hs_S4 hG => ?_)
    obtain ⟨u5, rfl, h⟩ := hp
    have h := h hs_S4
    refine W.eq (g2 := F0 m 22 ls [.int u5]) rfl ?_
    have hsh := hs_S4.tr hsh
    have hk6 := hs_S4.lt hk2
    have hq7 := hs_S4.kd hq3
    refine lv_iconst (v := (-1)) hx hb dX9_isWrong_22 (by decide) ?_
    refine lv_icmp_eq (tgt := 30) hx hb dX9_isWrong_23 (by decide) (fun c_23 => ?_) (fun c_23 => ?_)
    · have h := h.1 c_23
      refine lv_iconst (v := 0) hx hb dX9_isWrong_30 (by decide) ?_
      exact b_31 0 S4 H locs ls h hsh hG (lv_sub hl [] rfl)
    · have h := h.2 c_23
      refine lv_iconst (v := 1) hx hb dX9_isWrong_26 (by decide) ?_
      refine lv_goto (tgt := 31) hx hb dX9_isWrong_27 (by decide) ?_
      exact b_31 1 S4 H locs ls h hsh hG (lv_sub hl [] rfl)
  have b_102 : ∀   (S : GS) (H : Heap) (locs : List Loc) (ls : Array Slot), wX9_isWrong_102 Q k0  S → gSh S S0 → gS D Y ad A s.heap S H locs → lv_has ls 7 [] → W p l e (rmD 1) s m args below meth c H locs 0 0 (MQ below (gE D Y za ad S0 s.heap.size (fun r S9 => ∃ x, r = some (vI x) ∧ Q x S9)) args s 0 0 A) (F0 m 102 ls []) := by
    intro   S H locs ls h hsh hG hl
    unfold wX9_isWrong_102 at h
    refine lv_iconst (v := 1) hx hb dX9_isWrong_102 (by decide) ?_
    exact W.zret (v := 1) hx hb hr rfl (fun t ht hW => r_end (r := some (vI 1)) hAe hG hsh ⟨_, rfl, h⟩ rfl ht) hG.2.2.2.2 dX9_isWrong_103
  have b_211 : ∀   (S : GS) (H : Heap) (locs : List Loc) (ls : Array Slot), wX9_isWrong_211 Q k0  S → gSh S S0 → gS D Y ad A s.heap S H locs → lv_has ls 7 [] → W p l e (rmD 1) s m args below meth c H locs 0 0 (MQ below (gE D Y za ad S0 s.heap.size (fun r S9 => ∃ x, r = some (vI x) ∧ Q x S9)) args s 0 0 A) (F0 m 211 ls []) := by
    intro   S H locs ls h hsh hG hl
    unfold wX9_isWrong_211 at h
    refine lv_iconst (v := 1) hx hb dX9_isWrong_211 (by decide) ?_
    exact W.zret (v := 1) hx hb hr rfl (fun t ht hW => r_end (r := some (vI 1)) hAe hG hsh ⟨_, rfl, h⟩ rfl ht) hG.2.2.2.2 dX9_isWrong_212
  have b_168 : ∀ (L_120 : Int32 → Int32 → Int32 → Int32 → GS → Prop) (hL_120 : ∀ (x1 : Int32) (x3 : Int32) (x4 : Int32) (x5 : Int32) (S : GS) (H : Heap) (locs : List Loc) (ls : Array Slot), L_120 x1 x3 x4 x5 S → gSh S S0 → gS D Y ad A s.heap S H locs → lv_has ls 7 [(0, .ref (ad k0)), (1, .int x1), (3, .int x3), (4, .int x4), (5, .int x5)] → W p l e (rmD 1) s m args below meth c H locs 0 0 (MQ below (gE D Y za ad S0 s.heap.size (fun r S9 => ∃ x, r = some (vI x) ∧ Q x S9)) args s 0 0 A) (F0 m 120 ls [])) (x1 : Int32) (x3 : Int32) (x4 : Int32) (x5 : Int32) (t0 : Int32) (t1 : Int32) (S : GS) (H : Heap) (locs : List Loc) (ls : Array Slot), wX9_isWrong_168 Q L_120 k0 x1 x3 x4 x5 t0 t1 S → gSh S S0 → gS D Y ad A s.heap S H locs → lv_has ls 7 [(0, .ref (ad k0)), (1, .int x1), (3, .int x3), (4, .int x4), (5, .int x5)] → W p l e (rmD 1) s m args below meth c H locs 0 0 (MQ below (gE D Y za ad S0 s.heap.size (fun r S9 => ∃ x, r = some (vI x) ∧ Q x S9)) args s 0 0 A) (F0 m 168 ls [.int t1, .int t0]) := by
    intro L_120 hL_120 x1 x3 x4 x5 t0 t1 S H locs ls h hsh hG hl
    unfold wX9_isWrong_168 at h
    refine lv_iadd hx hb dX9_isWrong_168 ?_
    refine lv_istore (lv' := [(6, .int (t0 + t1)), (0, .ref (ad k0)), (1, .int x1), (3, .int x3), (4, .int x4), (5, .int x5)]) hx hb dX9_isWrong_169 hl (by decide) rfl (fun ls hl => ?_)
    refine lv_aload_n hx hb dX9_isWrong_171 rfl (lv_at hl 1 rfl) ?_
    obtain ⟨hk8, hq9, h⟩ := h
    refine g_get (ci := 9) (C := RX9) (T := TX9) (N := 36) hx hb hts hin9 hown hK hG hk8 (cell_9 hq9) rfl 17 (by decide) lk_50 (fun _ h9 => h9) (v := rv ad (gR S k0 17)) rfl dX9_isWrong_172 ?_
    refine lv_iconst (v := 3) hx hb dX9_isWrong_175 (by decide) ?_
    refine lv_iload_n hx hb dX9_isWrong_176 rfl (lv_at hl 2 rfl) ?_
    refine lv_imul hx hb dX9_isWrong_177 ?_
    refine lv_iload hx hb dX9_isWrong_178 (lv_at hl 5 rfl) ?_
    refine lv_iadd hx hb dX9_isWrong_180 ?_
    obtain ⟨q10, e11, h⟩ := h
    refine W.eq (g2 := F0 m 181 ls [.int ((3 * x1) + x5), .ref (ad q10)]) (by rw [e11]; rfl) ?_
    obtain ⟨hk12, hq13, h⟩ := h
    obtain ⟨hi14, h⟩ := h
    refine r_iald hx hb hK hG hk12 hq13 hi14 dX9_isWrong_181 ?_
    refine lv_aload_n hx hb dX9_isWrong_182 rfl (lv_at hl 1 rfl) ?_
    refine g_get (ci := 9) (C := RX9) (T := TX9) (N := 36) hx hb hts hin9 hown hK hG hk8 (cell_9 hq9) rfl 17 (by decide) lk_50 (fun _ h9 => h9) (v := rv ad (gR S k0 17)) rfl dX9_isWrong_183 ?_
    refine lv_iconst (v := 3) hx hb dX9_isWrong_186 (by decide) ?_
    refine lv_iload_n hx hb dX9_isWrong_187 rfl (lv_at hl 2 rfl) ?_
    refine lv_imul hx hb dX9_isWrong_188 ?_
    refine lv_iconst (v := 2) hx hb dX9_isWrong_189 (by decide) ?_
    refine lv_iadd hx hb dX9_isWrong_190 ?_
    refine W.eq (g2 := F0 m 191 ls [.int ((3 * x1) + 2), .ref (ad q10), .int (gX S q10 (Int32.toNatClampNeg ((3 * x1) + x5)))]) (by rw [e11]; rfl) ?_
    obtain ⟨hi15, h⟩ := h
    refine r_iald hx hb hK hG hk12 hq13 hi15 dX9_isWrong_191 ?_
    refine lv_icmp_gt (tgt := 211) hx hb dX9_isWrong_192 (by decide) (fun c_192 => ?_) (fun c_192 => ?_)
    · have h := h.1 c_192
      exact b_211  S H locs ls h hsh hG (lv_sub hl [] rfl)
    · have h := h.2 c_192
      refine lv_aload_n hx hb dX9_isWrong_195 rfl (lv_at hl 1 rfl) ?_
      refine g_get (ci := 9) (C := RX9) (T := TX9) (N := 36) hx hb hts hin9 hown hK hG hk8 (cell_9 hq9) rfl 17 (by decide) lk_50 (fun _ h9 => h9) (v := rv ad (gR S k0 17)) rfl dX9_isWrong_196 ?_
      refine lv_iconst (v := 3) hx hb dX9_isWrong_199 (by decide) ?_
      refine lv_iload_n hx hb dX9_isWrong_200 rfl (lv_at hl 2 rfl) ?_
      refine lv_imul hx hb dX9_isWrong_201 ?_
      refine lv_iload hx hb dX9_isWrong_202 (lv_at hl 5 rfl) ?_
      refine lv_iadd hx hb dX9_isWrong_204 ?_
      refine W.eq (g2 := F0 m 205 ls [.int ((3 * x1) + x5), .ref (ad q10)]) (by rw [e11]; rfl) ?_
      obtain ⟨hi16, h⟩ := h
      refine r_iald hx hb hK hG hk12 hq13 hi16 dX9_isWrong_205 ?_
      refine lv_iload hx hb dX9_isWrong_206 (lv_at hl 0 rfl) ?_
      refine lv_icmp_ge (tgt := 213) hx hb dX9_isWrong_208 (by decide) (fun c_208 => ?_) (fun c_208 => ?_)
      · have h := h.1 c_208
        refine lv_iinc (v := x5 + 1) (lv' := [(5, .int (x5 + 1)), (6, .int (t0 + t1)), (0, .ref (ad k0)), (1, .int x1), (3, .int x3), (4, .int x4)]) hx hb dX9_isWrong_213 hl (k := 5) rfl rfl (by decide) rfl (fun ls hl => ?_)
        refine lv_goto (tgt := 120) hx hb dX9_isWrong_216 (by decide) ?_
        exact hL_120 x1 x3 x4 (x5 + 1) S H locs ls h hsh hG (lv_sub hl [2, 3, 4, 5, 0] rfl)
      · have h := h.2 c_208
        exact b_211  S H locs ls h hsh hG (lv_sub hl [] rfl)
  have b_146 : ∀ (L_120 : Int32 → Int32 → Int32 → Int32 → GS → Prop) (hL_120 : ∀ (x1 : Int32) (x3 : Int32) (x4 : Int32) (x5 : Int32) (S : GS) (H : Heap) (locs : List Loc) (ls : Array Slot), L_120 x1 x3 x4 x5 S → gSh S S0 → gS D Y ad A s.heap S H locs → lv_has ls 7 [(0, .ref (ad k0)), (1, .int x1), (3, .int x3), (4, .int x4), (5, .int x5)] → W p l e (rmD 1) s m args below meth c H locs 0 0 (MQ below (gE D Y za ad S0 s.heap.size (fun r S9 => ∃ x, r = some (vI x) ∧ Q x S9)) args s 0 0 A) (F0 m 120 ls [])) (x1 : Int32) (x3 : Int32) (x4 : Int32) (x5 : Int32) (t0 : Int32) (S : GS) (H : Heap) (locs : List Loc) (ls : Array Slot), wX9_isWrong_146 Q L_120 k0 x1 x3 x4 x5 t0 S → gSh S S0 → gS D Y ad A s.heap S H locs → lv_has ls 7 [(0, .ref (ad k0)), (1, .int x1), (3, .int x3), (4, .int x4), (5, .int x5)] → W p l e (rmD 1) s m args below meth c H locs 0 0 (MQ below (gE D Y za ad S0 s.heap.size (fun r S9 => ∃ x, r = some (vI x) ∧ Q x S9)) args s 0 0 A) (F0 m 146 ls [.int t0]) := by
    intro L_120 hL_120 x1 x3 x4 x5 t0 S H locs ls h hsh hG hl
    unfold wX9_isWrong_146 at h
    refine lv_iload hx hb dX9_isWrong_146 (lv_at hl 3 rfl) ?_
    refine lv_iconst (v := (-1)) hx hb dX9_isWrong_148 (by decide) ?_
    refine lv_icmp_ne (tgt := 156) hx hb dX9_isWrong_149 (by decide) (fun c_149 => ?_) (fun c_149 => ?_)
    · have h := h.1 c_149
      refine lv_aload_n hx hb dX9_isWrong_156 rfl (lv_at hl 0 rfl) ?_
      obtain ⟨hk17, hq18, h⟩ := h
      refine g_get (ci := 9) (C := RX9) (T := TX9) (N := 36) hx hb hts hin9 hown hK hG hk17 (cell_9 hq18) rfl 17 (by decide) lk_50 (fun _ h9 => h9) (v := rv ad (gR S k0 17)) rfl dX9_isWrong_157 ?_
      refine lv_iconst (v := 3) hx hb dX9_isWrong_160 (by decide) ?_
      refine lv_iload hx hb dX9_isWrong_161 (lv_at hl 3 rfl) ?_
      refine lv_imul hx hb dX9_isWrong_163 ?_
      refine lv_iload hx hb dX9_isWrong_164 (lv_at hl 4 rfl) ?_
      refine lv_iadd hx hb dX9_isWrong_166 ?_
      obtain ⟨q19, e20, h⟩ := h
      refine W.eq (g2 := F0 m 167 ls [.int ((3 * x4) + x5), .ref (ad q19), .int t0]) (by rw [e20]; rfl) ?_
      obtain ⟨hk21, hq22, h⟩ := h
      obtain ⟨hi23, h⟩ := h
      refine r_iald hx hb hK hG hk21 hq22 hi23 dX9_isWrong_167 ?_
      exact b_168 L_120 hL_120 x1 x3 x4 x5 t0 (gX S q19 (Int32.toNatClampNeg ((3 * x4) + x5))) S H locs ls h hsh hG (lv_sub hl [0, 1, 2, 3, 4] rfl)
    · have h := h.2 c_149
      refine lv_iconst (v := 0) hx hb dX9_isWrong_152 (by decide) ?_
      refine lv_goto (tgt := 168) hx hb dX9_isWrong_153 (by decide) ?_
      exact b_168 L_120 hL_120 x1 x3 x4 x5 t0 0 S H locs ls h hsh hG (lv_sub hl [0, 1, 2, 3, 4] rfl)
  have b_120 : ∀  (f9 : Nat) (x1 : Int32) (x3 : Int32) (x4 : Int32) (x5 : Int32) (S : GS) (H : Heap) (locs : List Loc) (ls : Array Slot), wX9_isWrong_120 Q k0 f9 x1 x3 x4 x5 S → gSh S S0 → gS D Y ad A s.heap S H locs → lv_has ls 7 [(0, .ref (ad k0)), (1, .int x1), (3, .int x3), (4, .int x4), (5, .int x5)] → W p l e (rmD 1) s m args below meth c H locs 0 0 (MQ below (gE D Y za ad S0 s.heap.size (fun r S9 => ∃ x, r = some (vI x) ∧ Q x S9)) args s 0 0 A) (F0 m 120 ls []) := by
    intro  f9
    induction f9 with
    | zero =>
      intro x1 x3 x4 x5 S H locs ls h
      exact False.elim (by unfold wX9_isWrong_120 at h; exact h)
    | succ f9 hL_120 =>
      intro x1 x3 x4 x5 S H locs ls h hsh hG hl
      unfold wX9_isWrong_120 at h
      refine lv_iload hx hb dX9_isWrong_120 (lv_at hl 4 rfl) ?_
      refine lv_iconst (v := 2) hx hb dX9_isWrong_122 (by decide) ?_
      refine lv_icmp_ge (tgt := 219) hx hb dX9_isWrong_123 (by decide) (fun c_123 => ?_) (fun c_123 => ?_)
      · have h := h.1 c_123
        refine lv_iconst (v := 0) hx hb dX9_isWrong_219 (by decide) ?_
        exact W.zret (v := 0) hx hb hr rfl (fun t ht hW => r_end (r := some (vI 0)) hAe hG hsh ⟨_, rfl, h⟩ rfl ht) hG.2.2.2.2 dX9_isWrong_220
      · have h := h.2 c_123
        refine lv_iload_n hx hb dX9_isWrong_126 rfl (lv_at hl 2 rfl) ?_
        refine lv_iconst (v := (-1)) hx hb dX9_isWrong_127 (by decide) ?_
        refine lv_icmp_ne (tgt := 135) hx hb dX9_isWrong_128 (by decide) (fun c_128 => ?_) (fun c_128 => ?_)
        · have h := h.1 c_128
          refine lv_aload_n hx hb dX9_isWrong_135 rfl (lv_at hl 0 rfl) ?_
          obtain ⟨hk24, hq25, h⟩ := h
          refine g_get (ci := 9) (C := RX9) (T := TX9) (N := 36) hx hb hts hin9 hown hK hG hk24 (cell_9 hq25) rfl 17 (by decide) lk_50 (fun _ h9 => h9) (v := rv ad (gR S k0 17)) rfl dX9_isWrong_136 ?_
          refine lv_iconst (v := 3) hx hb dX9_isWrong_139 (by decide) ?_
          refine lv_iload_n hx hb dX9_isWrong_140 rfl (lv_at hl 2 rfl) ?_
          refine lv_imul hx hb dX9_isWrong_141 ?_
          refine lv_iload hx hb dX9_isWrong_142 (lv_at hl 4 rfl) ?_
          refine lv_iadd hx hb dX9_isWrong_144 ?_
          obtain ⟨q26, e27, h⟩ := h
          refine W.eq (g2 := F0 m 145 ls [.int ((3 * x3) + x5), .ref (ad q26)]) (by rw [e27]; rfl) ?_
          obtain ⟨hk28, hq29, h⟩ := h
          obtain ⟨hi30, h⟩ := h
          refine r_iald hx hb hK hG hk28 hq29 hi30 dX9_isWrong_145 ?_
          exact b_146 (wX9_isWrong_120 Q k0 f9) hL_120 x1 x3 x4 x5 (gX S q26 (Int32.toNatClampNeg ((3 * x3) + x5))) S H locs ls h hsh hG (lv_sub hl [0, 1, 2, 3, 4] rfl)
        · have h := h.2 c_128
          refine lv_iconst (v := 0) hx hb dX9_isWrong_131 (by decide) ?_
          refine lv_goto (tgt := 146) hx hb dX9_isWrong_132 (by decide) ?_
          exact b_146 (wX9_isWrong_120 Q k0 f9) hL_120 x1 x3 x4 x5 0 S H locs ls h hsh hG (lv_sub hl [0, 1, 2, 3, 4] rfl)
  have hl : lv_has ls 7 [(0, .ref (ad k0)), (1, .int x1)] := hl
  have hsh : gSh S S0 := by rw [hS0]; exact gSh.rf S
  obtain ⟨H, eH⟩ : ∃ z : Heap, z = s.heap := ⟨_, rfl⟩
  obtain ⟨locs, eL⟩ : ∃ z : List Loc, z = [] := ⟨_, rfl⟩
  have hG : gS D Y ad A s.heap S H locs := by rw [eH, eL]; exact hG
  suffices hgoal : W p l e (rmD 1) s m args below meth c H locs 0 0 (MQ below (gE D Y za ad S0 s.heap.size (fun r S9 => ∃ x, r = some (vI x) ∧ Q x S9)) args s 0 0 A) (F0 m 0 ls []) by rw [eH, eL] at hgoal; exact hgoal
  unfold wX9_isWrong at h
  refine lv_aload_n hx hb dX9_isWrong_0 rfl (lv_at hl 0 rfl) ?_
  obtain ⟨hk31, hq32, h⟩ := h
  refine g_get (ci := 9) (C := RX9) (T := TX9) (N := 36) hx hb hts hin9 hown hK hG hk31 (cell_9 hq32) rfl 12 (by decide) lk_35 (fun _ h9 => h9) (v := rv ad (gR S k0 12)) rfl dX9_isWrong_1 ?_
  refine lv_iload_n hx hb dX9_isWrong_4 rfl (lv_at hl 1 rfl) ?_
  obtain ⟨q33, e34, h⟩ := h
  refine W.eq (g2 := F0 m 5 ls [.int x1, .ref (ad q33)]) (by rw [e34]; rfl) ?_
  obtain ⟨hk35, hq36, h⟩ := h
  obtain ⟨hi37, h⟩ := h
  refine r_iald hx hb hK hG hk35 hq36 hi37 dX9_isWrong_5 ?_
  refine lv_istore_n (lv' := [(2, .int (gX S q33 (Int32.toNatClampNeg x1))), (0, .ref (ad k0)), (1, .int x1)]) hx hb dX9_isWrong_6 rfl hl (by decide) rfl (fun ls hl => ?_)
  refine lv_iload_n hx hb dX9_isWrong_7 rfl (lv_at hl 0 rfl) ?_
  refine lv_iconst (v := 2) hx hb dX9_isWrong_8 (by decide) ?_
  refine lv_icmp_eq (tgt := 17) hx hb dX9_isWrong_9 (by decide) (fun c_9 => ?_) (fun c_9 => ?_)
  · have h := h.1 c_9
    exact b_17 (gX S q33 (Int32.toNatClampNeg x1)) S H locs ls h hsh hG (lv_sub hl [1, 0] rfl)
  · have h := h.2 c_9
    refine lv_iload_n hx hb dX9_isWrong_12 rfl (lv_at hl 0 rfl) ?_
    refine lv_iconst (v := 3) hx hb dX9_isWrong_13 (by decide) ?_
    refine lv_icmp_ne (tgt := 32) hx hb dX9_isWrong_14 (by decide) (fun c_14 => ?_) (fun c_14 => ?_)
    · have h := h.1 c_14
      refine lv_iload_n hx hb dX9_isWrong_32 rfl (lv_at hl 0 rfl) ?_
      refine lv_iconst (v := 5) hx hb dX9_isWrong_33 (by decide) ?_
      refine lv_icmp_ne (tgt := 47) hx hb dX9_isWrong_34 (by decide) (fun c_34 => ?_) (fun c_34 => ?_)
      · have h := h.1 c_34
        refine lv_iload_n hx hb dX9_isWrong_47 rfl (lv_at hl 0 rfl) ?_
        refine lv_iconst (v := 1) hx hb dX9_isWrong_48 (by decide) ?_
        refine lv_icmp_eq (tgt := 54) hx hb dX9_isWrong_49 (by decide) (fun c_49 => ?_) (fun c_49 => ?_)
        · have h := h.1 c_49
          refine lv_aload_n hx hb dX9_isWrong_54 rfl (lv_at hl 1 rfl) ?_
          refine g_get (ci := 9) (C := RX9) (T := TX9) (N := 36) hx hb hts hin9 hown hK hG hk31 (cell_9 hq32) rfl 13 (by decide) lk_38 (fun _ h9 => h9) (v := rv ad (gR S k0 13)) rfl dX9_isWrong_55 ?_
          refine lv_iload_n hx hb dX9_isWrong_58 rfl (lv_at hl 2 rfl) ?_
          obtain ⟨q38, e39, h⟩ := h
          refine W.eq (g2 := F0 m 59 ls [.int x1, .ref (ad q38)]) (by rw [e39]; rfl) ?_
          obtain ⟨hk40, hq41, h⟩ := h
          obtain ⟨hi42, h⟩ := h
          refine r_iald hx hb hK hG hk40 hq41 hi42 dX9_isWrong_59 ?_
          refine lv_aload_n hx hb dX9_isWrong_60 rfl (lv_at hl 1 rfl) ?_
          refine g_get (ci := 9) (C := RX9) (T := TX9) (N := 36) hx hb hts hin9 hown hK hG hk31 (cell_9 hq32) rfl 13 (by decide) lk_38 (fun _ h9 => h9) (v := rv ad (gR S k0 13)) rfl dX9_isWrong_61 ?_
          refine lv_aload_n hx hb dX9_isWrong_64 rfl (lv_at hl 1 rfl) ?_
          refine g_get (ci := 9) (C := RX9) (T := TX9) (N := 36) hx hb hts hin9 hown hK hG hk31 (cell_9 hq32) rfl 30 (by decide) lk_77 (fun _ h9 => h9) (v := .int (gX S k0 30)) rfl dX9_isWrong_65 ?_
          refine W.eq (g2 := F0 m 68 ls [.int (gX S k0 30), .ref (ad q38), .int (gX S q38 (Int32.toNatClampNeg x1))]) (by rw [e39]; rfl) ?_
          obtain ⟨hi43, h⟩ := h
          refine r_iald hx hb hK hG hk40 hq41 hi43 dX9_isWrong_68 ?_
          refine lv_icmp_ne (tgt := 102) hx hb dX9_isWrong_69 (by decide) (fun c_69 => ?_) (fun c_69 => ?_)
          · have h := h.1 c_69
            exact b_102  S H locs ls h hsh hG (lv_sub hl [] rfl)
          · have h := h.2 c_69
            refine lv_aload_n hx hb dX9_isWrong_72 rfl (lv_at hl 1 rfl) ?_
            refine g_get (ci := 9) (C := RX9) (T := TX9) (N := 36) hx hb hts hin9 hown hK hG hk31 (cell_9 hq32) rfl 14 (by decide) lk_41 (fun _ h9 => h9) (v := rv ad (gR S k0 14)) rfl dX9_isWrong_73 ?_
            refine lv_iload_n hx hb dX9_isWrong_76 rfl (lv_at hl 2 rfl) ?_
            obtain ⟨q44, e45, h⟩ := h
            refine W.eq (g2 := F0 m 77 ls [.int x1, .ref (ad q44)]) (by rw [e45]; rfl) ?_
            obtain ⟨hk46, hq47, h⟩ := h
            obtain ⟨hi48, h⟩ := h
            refine r_iald hx hb hK hG hk46 hq47 hi48 dX9_isWrong_77 ?_
            refine lv_aload_n hx hb dX9_isWrong_78 rfl (lv_at hl 1 rfl) ?_
            refine g_get (ci := 9) (C := RX9) (T := TX9) (N := 36) hx hb hts hin9 hown hK hG hk31 (cell_9 hq32) rfl 14 (by decide) lk_41 (fun _ h9 => h9) (v := rv ad (gR S k0 14)) rfl dX9_isWrong_79 ?_
            refine lv_aload_n hx hb dX9_isWrong_82 rfl (lv_at hl 1 rfl) ?_
            refine g_get (ci := 9) (C := RX9) (T := TX9) (N := 36) hx hb hts hin9 hown hK hG hk31 (cell_9 hq32) rfl 30 (by decide) lk_77 (fun _ h9 => h9) (v := .int (gX S k0 30)) rfl dX9_isWrong_83 ?_
            refine W.eq (g2 := F0 m 86 ls [.int (gX S k0 30), .ref (ad q44), .int (gX S q44 (Int32.toNatClampNeg x1))]) (by rw [e45]; rfl) ?_
            obtain ⟨hi49, h⟩ := h
            refine r_iald hx hb hK hG hk46 hq47 hi49 dX9_isWrong_86 ?_
            refine lv_icmp_ne (tgt := 102) hx hb dX9_isWrong_87 (by decide) (fun c_87 => ?_) (fun c_87 => ?_)
            · have h := h.1 c_87
              exact b_102  S H locs ls h hsh hG (lv_sub hl [] rfl)
            · have h := h.2 c_87
              refine lv_aload_n hx hb dX9_isWrong_90 rfl (lv_at hl 1 rfl) ?_
              refine lv_iload_n hx hb dX9_isWrong_91 rfl (lv_at hl 2 rfl) ?_
              refine lv_aload_n hx hb dX9_isWrong_92 rfl (lv_at hl 1 rfl) ?_
              refine g_get (ci := 9) (C := RX9) (T := TX9) (N := 36) hx hb hts hin9 hown hK hG hk31 (cell_9 hq32) rfl 30 (by decide) lk_77 (fun _ h9 => h9) (v := .int (gX S k0 30)) rfl dX9_isWrong_93 ?_
              refine r_callV (za := za) (k := k0) (ci := 9) (C := RX9) (T := TX9) (N := 36) (As := [vI x1, vI (gX S k0 30)]) (rest := []) (tX9_slow l S k0 x1 (gX S k0 30) _ h) ⟨hx, hb, hml, hown, hts⟩ (cwV 2 hts gX9_isWrong_X9_slow rfl rfl rfl (by decide +kernel) ⟨by decide, by decide⟩) hK hG hA hk31 (cell_9 hq32) rfl rfl hl.1 rfl (Nat.le_of_ble_eq_true rfl) ⟨Nat.le_refl _, Nat.le_refl _⟩ dX9_isWrong_96 (fun r_9 S50 H locs hp hs_S50 hG => ?_)
              obtain ⟨u51, rfl, h⟩ := hp
              have h := h hs_S50
              refine W.eq (g2 := F0 m 99 ls [.int u51]) rfl ?_
              have hsh := hs_S50.tr hsh
              have hk52 := hs_S50.lt hk31
              have hq53 := hs_S50.kd hq32
              have hk54 := hs_S50.lt hk35
              have hq55 := hs_S50.kd hq36
              have hk56 := hs_S50.lt hk40
              have hq57 := hs_S50.kd hq41
              have hk58 := hs_S50.lt hk46
              have hq59 := hs_S50.kd hq47
              refine lv_if_eq (tgt := 104) hx hb dX9_isWrong_99 (by decide) (fun c_99 => ?_) (fun c_99 => ?_)
              · have h := h.1 c_99
                refine lv_aload_n hx hb dX9_isWrong_104 rfl (lv_at hl 1 rfl) ?_
                refine lv_iconst (v := 2) hx hb dX9_isWrong_105 (by decide) ?_
                refine r_callV (za := za) (k := k0) (ci := 9) (C := RX9) (T := TX9) (N := 36) (As := [vI 2]) (rest := []) (tX9_ofOpenPause l S50 k0 2 _ h) ⟨hx, hb, hml, hown, hts⟩ (cwV 1 hts gX9_isWrong_X9_ofOpenPause rfl rfl rfl (by decide +kernel) ⟨by decide, by decide⟩) hK hG hA hk52 (cell_9 hq53) rfl rfl hl.1 rfl (Nat.le_of_ble_eq_true rfl) ⟨Nat.le_refl _, Nat.le_refl _⟩ dX9_isWrong_106 (fun r_9 S60 H locs hp hs_S60 hG => ?_)
                obtain ⟨u61, rfl, h⟩ := hp
                have h := h hs_S60
                refine W.eq (g2 := F0 m 109 ls [.int u61]) rfl ?_
                have hsh := hs_S60.tr hsh
                have hk62 := hs_S60.lt hk52
                have hq63 := hs_S60.kd hq53
                have hk64 := hs_S60.lt hk54
                have hq65 := hs_S60.kd hq55
                have hk66 := hs_S60.lt hk56
                have hq67 := hs_S60.kd hq57
                have hk68 := hs_S60.lt hk58
                have hq69 := hs_S60.kd hq59
                refine lv_istore_n (lv' := [(3, .int u61), (2, .int (gX S q33 (Int32.toNatClampNeg x1))), (0, .ref (ad k0)), (1, .int x1)]) hx hb dX9_isWrong_109 rfl hl (by decide) rfl (fun ls hl => ?_)
                refine lv_aload_n hx hb dX9_isWrong_110 rfl (lv_at hl 2 rfl) ?_
                refine lv_iconst (v := 3) hx hb dX9_isWrong_111 (by decide) ?_
                refine r_callV (za := za) (k := k0) (ci := 9) (C := RX9) (T := TX9) (N := 36) (As := [vI 3]) (rest := []) (tX9_ofOpenPause l S60 k0 3 _ h) ⟨hx, hb, hml, hown, hts⟩ (cwV 1 hts gX9_isWrong_X9_ofOpenPause rfl rfl rfl (by decide +kernel) ⟨by decide, by decide⟩) hK hG hA hk62 (cell_9 hq63) rfl rfl hl.1 rfl (Nat.le_of_ble_eq_true rfl) ⟨Nat.le_refl _, Nat.le_refl _⟩ dX9_isWrong_112 (fun r_9 S70 H locs hp hs_S70 hG => ?_)
                obtain ⟨u71, rfl, h⟩ := hp
                have h := h hs_S70
                refine W.eq (g2 := F0 m 115 ls [.int u71]) rfl ?_
                have hsh := hs_S70.tr hsh
                have hk72 := hs_S70.lt hk62
                have hq73 := hs_S70.kd hq63
                have hk74 := hs_S70.lt hk64
                have hq75 := hs_S70.kd hq65
                have hk76 := hs_S70.lt hk66
                have hq77 := hs_S70.kd hq67
                have hk78 := hs_S70.lt hk68
                have hq79 := hs_S70.kd hq69
                refine lv_istore (lv' := [(4, .int u71), (3, .int u61), (2, .int (gX S q33 (Int32.toNatClampNeg x1))), (0, .ref (ad k0)), (1, .int x1)]) hx hb dX9_isWrong_115 hl (by decide) rfl (fun ls hl => ?_)
                refine lv_iconst (v := 0) hx hb dX9_isWrong_117 (by decide) ?_
                refine lv_istore (lv' := [(5, .int 0), (4, .int u71), (3, .int u61), (2, .int (gX S q33 (Int32.toNatClampNeg x1))), (0, .ref (ad k0)), (1, .int x1)]) hx hb dX9_isWrong_118 hl (by decide) rfl (fun ls hl => ?_)
                obtain ⟨f80, h⟩ := h
                exact b_120 f80 x1 u61 u71 0 S70 H locs ls h hsh hG (lv_sub hl [4, 5, 2, 1, 0] rfl)
              · have h := h.2 c_99
                exact b_102  S50 H locs ls h hsh hG (lv_sub hl [] rfl)
        · have h := h.2 c_49
          refine lv_iconst (v := 0) hx hb dX9_isWrong_52 (by decide) ?_
          exact W.zret (v := 0) hx hb hr rfl (fun t ht hW => r_end (r := some (vI 0)) hAe hG hsh ⟨_, rfl, h⟩ rfl ht) hG.2.2.2.2 dX9_isWrong_53
      · have h := h.2 c_34
        refine lv_aload_n hx hb dX9_isWrong_37 rfl (lv_at hl 1 rfl) ?_
        refine lv_iload_n hx hb dX9_isWrong_38 rfl (lv_at hl 2 rfl) ?_
        refine lv_aload_n hx hb dX9_isWrong_39 rfl (lv_at hl 1 rfl) ?_
        refine g_get (ci := 9) (C := RX9) (T := TX9) (N := 36) hx hb hts hin9 hown hK hG hk31 (cell_9 hq32) rfl 31 (by decide) lk_81 (fun _ h9 => h9) (v := .int (gX S k0 31)) rfl dX9_isWrong_40 ?_
        refine r_callV (za := za) (k := k0) (ci := 9) (C := RX9) (T := TX9) (N := 36) (As := [vI x1, vI (gX S k0 31)]) (rest := []) (tX9_slow l S k0 x1 (gX S k0 31) _ h) ⟨hx, hb, hml, hown, hts⟩ (cwV 2 hts gX9_isWrong_X9_slow rfl rfl rfl (by decide +kernel) ⟨by decide, by decide⟩) hK hG hA hk31 (cell_9 hq32) rfl rfl hl.1 rfl (Nat.le_of_ble_eq_true rfl) ⟨Nat.le_refl _, Nat.le_refl _⟩ dX9_isWrong_43 (fun r_9 S81 H locs hp hs_S81 hG => ?_)
        obtain ⟨u82, rfl, h⟩ := hp
        have h := h hs_S81
        refine W.eq (g2 := F0 m 46 ls [.int u82]) rfl ?_
        have hsh := hs_S81.tr hsh
        have hk83 := hs_S81.lt hk31
        have hq84 := hs_S81.kd hq32
        have hk85 := hs_S81.lt hk35
        have hq86 := hs_S81.kd hq36
        obtain ⟨hz87, h⟩ := h
        exact W.zret (v := u82) hx hb hr (nar01 hz87) (fun t ht hW => r_end (r := some (vI u82)) hAe hG hsh ⟨_, rfl, h⟩ rfl ht) hG.2.2.2.2 dX9_isWrong_46
    · have h := h.2 c_14
      exact b_17 (gX S q33 (Int32.toNatClampNeg x1)) S H locs ls h hsh hG (lv_sub hl [1, 0] rfl)
def wX9_wrongWith_125 (Q : Int32 → GS → Prop) (k0 : Nat)  (S : GS) : Prop :=
  Q 5 S
def wX9_wrongWith_158 (Q : Int32 → GS → Prop) (k0 : Nat) (t0 : Int32) (S : GS) : Prop :=
  Q t0 S
def wX9_wrongWith_157 (Q : Int32 → GS → Prop) (k0 : Nat)  (S : GS) : Prop :=
  wX9_wrongWith_158 Q k0 0 S
def wX9_wrongWith_127 (Q : Int32 → GS → Prop) (k0 : Nat) (x1 : Int32) (x4 : Int32) (S : GS) : Prop :=
  k0 < gN S ∧ gK S k0 = 9 ∧ wX9_isWrong S k0 x1 (fun u4 S3 => gSh S3 S → (u4 = 0 → (x4 = 0 → wX9_wrongWith_157 Q k0  S3) ∧ (¬ x4 = 0 → (¬ (gX S3 k0 25) = 40 → wX9_wrongWith_157 Q k0  S3) ∧ ((gX S3 k0 25) = 40 → wX9_wrongWith_158 Q k0 7 S3))) ∧ (¬ u4 = 0 → Q 6 S3))
def wX9_wrongWith_99 (Q : Int32 → GS → Prop) (k0 : Nat) (x1 : Int32) (x3 : Int32) (x4 : Int32) (x5 : Int32) (S : GS) : Prop :=
  (¬ x3 = 0 → wX9_wrongWith_127 Q k0 x1 x4 S) ∧ (x3 = 0 → (x5 = (-1) → wX9_wrongWith_125 Q k0  S) ∧ (¬ x5 = (-1) → k0 < gN S ∧ gK S k0 = 9 ∧ ∃ q9 : Nat, gR S k0 16 = some q9 ∧ q9 < gN S ∧ gK S q9 = 11 ∧ vp_in x5 (gL S q9) ∧ vp_in x1 (gL S q9) ∧ ((gX S q9 (Int32.toNatClampNeg x5)) = (gX S q9 (Int32.toNatClampNeg x1)) → wX9_wrongWith_127 Q k0 x1 x4 S) ∧ (¬ (gX S q9 (Int32.toNatClampNeg x5)) = (gX S q9 (Int32.toNatClampNeg x1)) → wX9_wrongWith_125 Q k0  S)))
def wX9_wrongWith_87 (Q : Int32 → GS → Prop) (k0 : Nat) (x1 : Int32) (x3 : Int32) (x4 : Int32) (x5 : Int32) (S : GS) : Prop :=
  (x3 = 0 → wX9_wrongWith_99 Q k0 x1 x3 x4 x5 S) ∧ (¬ x3 = 0 → (x5 = (-1) → wX9_wrongWith_99 Q k0 x1 x3 x4 x5 S) ∧ (¬ x5 = (-1) → Q 4 S))
def wX9_wrongWith_61 (Q : Int32 → GS → Prop) (k0 : Nat) (x1 : Int32) (x3 : Int32) (x4 : Int32) (t0 : Int32) (S : GS) : Prop :=
  k0 < gN S ∧ gK S k0 = 9 ∧ wX9_isBack S k0 x1 (fun u18 S17 => gSh S17 S → (u18 = 0 → (x3 = 0 → wX9_wrongWith_87 Q k0 x1 x3 x4 t0 S17) ∧ (¬ x3 = 0 → wX9_isStale S17 k0 x1 (fun u22 S21 => gSh S21 S17 → (u22 = 0 → wX9_wrongWith_87 Q k0 x1 x3 x4 t0 S21) ∧ (¬ u22 = 0 → Q 3 S21)))) ∧ (¬ u18 = 0 → Q 2 S17))
def wX9_wrongWith_43 (Q : Int32 → GS → Prop) (k0 : Nat) (x1 : Int32) (x2 : Int32) (x3 : Int32) (t0 : Int32) (S : GS) : Prop :=
  ((3 : Int32) < x2 → k0 < gN S ∧ gK S k0 = 9 ∧ wX9_wrongWith_61 Q k0 x1 x3 t0 (gX S k0 31) S) ∧ (¬ (3 : Int32) < x2 → k0 < gN S ∧ gK S k0 = 9 ∧ wX9_wrongWith_61 Q k0 x1 x3 t0 (gX S k0 30) S)
def wX9_wrongWith_38 (Q : Int32 → GS → Prop) (k0 : Nat) (x1 : Int32) (x2 : Int32) (x3 : Int32) (S : GS) : Prop :=
  wX9_wrongWith_43 Q k0 x1 x2 x3 1 S
def wX9_wrongWith_21 (Q : Int32 → GS → Prop) (k0 : Nat) (x1 : Int32) (x2 : Int32) (t0 : Int32) (S : GS) : Prop :=
  (x2 = 1 → wX9_wrongWith_38 Q k0 x1 x2 t0 S) ∧ (¬ x2 = 1 → (x2 = 5 → wX9_wrongWith_38 Q k0 x1 x2 t0 S) ∧ (¬ x2 = 5 → (¬ x2 = 6 → wX9_wrongWith_43 Q k0 x1 x2 t0 0 S) ∧ (x2 = 6 → wX9_wrongWith_38 Q k0 x1 x2 t0 S)))
def wX9_wrongWith_16 (Q : Int32 → GS → Prop) (k0 : Nat) (x1 : Int32) (x2 : Int32) (S : GS) : Prop :=
  wX9_wrongWith_21 Q k0 x1 x2 1 S
def wX9_wrongWith (S : GS) (k0 : Nat) (x1 : Int32) (Q : Int32 → GS → Prop) : Prop :=
  k0 < gN S ∧ gK S k0 = 9 ∧ ∃ q31 : Nat, gR S k0 12 = some q31 ∧ q31 < gN S ∧ gK S q31 = 11 ∧ vp_in x1 (gL S q31) ∧ ((gX S q31 (Int32.toNatClampNeg x1)) = 0 → wX9_wrongWith_16 Q k0 x1 (gX S q31 (Int32.toNatClampNeg x1)) S) ∧ (¬ (gX S q31 (Int32.toNatClampNeg x1)) = 0 → (¬ (gX S q31 (Int32.toNatClampNeg x1)) = 4 → wX9_wrongWith_21 Q k0 x1 (gX S q31 (Int32.toNatClampNeg x1)) 0 S) ∧ ((gX S q31 (Int32.toNatClampNeg x1)) = 4 → wX9_wrongWith_16 Q k0 x1 (gX S q31 (Int32.toNatClampNeg x1)) S))
set_option maxHeartbeats 4000000 in
set_option maxRecDepth 100000 in
theorem tX9_wrongWith (l : Launch) (S : GS) (k0 : Nat) (x1 : Int32) (Q : Int32 → GS → Prop) (h : wX9_wrongWith S k0 x1 Q) : CS l yX9_wrongWith wsX9_wrongWith 2 S [vR (some k0), vI x1] (fun r S9 => ∃ x, r = some (vI x) ∧ Q x S9) := by
  refine CS.ofW (cc := cX9_wrongWith) (maxL := 6) (ret := (some .int)) RX9 (by decide) rfl rfl (fun _ _ => Nat.le_of_ble_eq_true rfl) ?_
  intro p e s m args below meth c D Y za ad A ls hAe hx hb hr hml hts hown hlocks hK hA hG hl
  obtain ⟨S0, hS0⟩ : ∃ z : GS, z = S := ⟨_, rfl⟩
  rw [← hS0] at hAe
  rw [← hS0]
  have hin9 : ∀ w ∈ wsX90, w ∈ wsX9_wrongWith := by decide +kernel
  have lk_35 := hts (.fieldLink RX9 35 "PauseLogModel" "shape" "[I") (by decide +kernel)
  have lk_77 := hts (.fieldLink RX9 77 "PauseLogModel" "openPause" "I") (by decide +kernel)
  have lk_81 := hts (.fieldLink RX9 81 "PauseLogModel" "openMark" "I") (by decide +kernel)
  have lk_47 := hts (.fieldLink RX9 47 "PauseLogModel" "id" "[I") (by decide +kernel)
  have lk_205 := hts (.fieldLink RX9 205 "PauseLogModel" "events" "I") (by decide +kernel)
  have b_125 : ∀   (S : GS) (H : Heap) (locs : List Loc) (ls : Array Slot), wX9_wrongWith_125 Q k0  S → gSh S S0 → gS D Y ad A s.heap S H locs → lv_has ls 6 [] → W p l e (rmD 2) s m args below meth c H locs 0 0 (MQ below (gE D Y za ad S0 s.heap.size (fun r S9 => ∃ x, r = some (vI x) ∧ Q x S9)) args s 0 0 A) (F0 m 125 ls []) := by
    intro   S H locs ls h hsh hG hl
    unfold wX9_wrongWith_125 at h
    refine lv_iconst (v := 5) hx hb dX9_wrongWith_125 (by decide) ?_
    exact W.iret (v := 5) hx hb hr (fun t ht hW => r_end (r := some (vI 5)) hAe hG hsh ⟨_, rfl, h⟩ rfl ht) hG.2.2.2.2 dX9_wrongWith_126
  have b_158 : ∀  (t0 : Int32) (S : GS) (H : Heap) (locs : List Loc) (ls : Array Slot), wX9_wrongWith_158 Q k0 t0 S → gSh S S0 → gS D Y ad A s.heap S H locs → lv_has ls 6 [] → W p l e (rmD 2) s m args below meth c H locs 0 0 (MQ below (gE D Y za ad S0 s.heap.size (fun r S9 => ∃ x, r = some (vI x) ∧ Q x S9)) args s 0 0 A) (F0 m 158 ls [.int t0]) := by
    intro  t0 S H locs ls h hsh hG hl
    unfold wX9_wrongWith_158 at h
    exact W.iret (v := t0) hx hb hr (fun t ht hW => r_end (r := some (vI t0)) hAe hG hsh ⟨_, rfl, h⟩ rfl ht) hG.2.2.2.2 dX9_wrongWith_158
  have b_157 : ∀   (S : GS) (H : Heap) (locs : List Loc) (ls : Array Slot), wX9_wrongWith_157 Q k0  S → gSh S S0 → gS D Y ad A s.heap S H locs → lv_has ls 6 [] → W p l e (rmD 2) s m args below meth c H locs 0 0 (MQ below (gE D Y za ad S0 s.heap.size (fun r S9 => ∃ x, r = some (vI x) ∧ Q x S9)) args s 0 0 A) (F0 m 157 ls []) := by
    intro   S H locs ls h hsh hG hl
    unfold wX9_wrongWith_157 at h
    refine lv_iconst (v := 0) hx hb dX9_wrongWith_157 (by decide) ?_
    exact b_158 0 S H locs ls h hsh hG (lv_sub hl [] rfl)
  have b_127 : ∀  (x1 : Int32) (x4 : Int32) (S : GS) (H : Heap) (locs : List Loc) (ls : Array Slot), wX9_wrongWith_127 Q k0 x1 x4 S → gSh S S0 → gS D Y ad A s.heap S H locs → lv_has ls 6 [(0, .ref (ad k0)), (1, .int x1), (4, .int x4)] → W p l e (rmD 2) s m args below meth c H locs 0 0 (MQ below (gE D Y za ad S0 s.heap.size (fun r S9 => ∃ x, r = some (vI x) ∧ Q x S9)) args s 0 0 A) (F0 m 127 ls []) := by
    intro  x1 x4 S H locs ls h hsh hG hl
    unfold wX9_wrongWith_127 at h
    refine lv_aload_n hx hb dX9_wrongWith_127 rfl (lv_at hl 0 rfl) ?_
    refine lv_iload_n hx hb dX9_wrongWith_128 rfl (lv_at hl 1 rfl) ?_
    obtain ⟨hk1, hq2, h⟩ := h
    refine r_callV (za := za) (k := k0) (ci := 9) (C := RX9) (T := TX9) (N := 36) (As := [vI x1]) (rest := []) (tX9_isWrong l S k0 x1 _ h) ⟨hx, hb, hml, hown, hts⟩ (cwV 1 hts gX9_wrongWith_X9_isWrong rfl rfl rfl (by decide +kernel) ⟨by decide, by decide⟩) hK hG hA hk1 (cell_9 hq2) rfl rfl hl.1 rfl (Nat.le_of_ble_eq_true rfl) ⟨Nat.le_refl _, Nat.le_refl _⟩ dX9_wrongWith_129 (fun r_9 S3 H locs hp hs_S3 hG => ?_)
    obtain ⟨u4, rfl, h⟩ := hp
    have h := h hs_S3
    refine W.eq (g2 := F0 m 132 ls [.int u4]) rfl ?_
    have hsh := hs_S3.tr hsh
    have hk5 := hs_S3.lt hk1
    have hq6 := hs_S3.kd hq2
    refine lv_if_eq (tgt := 138) hx hb dX9_wrongWith_132 (by decide) (fun c_132 => ?_) (fun c_132 => ?_)
    · have h := h.1 c_132
      refine lv_iload hx hb dX9_wrongWith_138 (lv_at hl 2 rfl) ?_
      refine lv_if_eq (tgt := 157) hx hb dX9_wrongWith_140 (by decide) (fun c_140 => ?_) (fun c_140 => ?_)
      · have h := h.1 c_140
        exact b_157  S3 H locs ls h hsh hG (lv_sub hl [] rfl)
      · have h := h.2 c_140
        refine lv_aload_n hx hb dX9_wrongWith_143 rfl (lv_at hl 0 rfl) ?_
        refine g_get (ci := 9) (C := RX9) (T := TX9) (N := 36) hx hb hts hin9 hown hK hG hk5 (cell_9 hq6) rfl 25 (by decide) lk_205 (fun _ h9 => h9) (v := .int (gX S3 k0 25)) rfl dX9_wrongWith_144 ?_
        refine lv_bipush (v := 40) hx hb dX9_wrongWith_147 (by decide) ?_
        refine lv_icmp_ne (tgt := 157) hx hb dX9_wrongWith_149 (by decide) (fun c_149 => ?_) (fun c_149 => ?_)
        · have h := h.1 c_149
          exact b_157  S3 H locs ls h hsh hG (lv_sub hl [] rfl)
        · have h := h.2 c_149
          refine lv_bipush (v := 7) hx hb dX9_wrongWith_152 (by decide) ?_
          refine lv_goto (tgt := 158) hx hb dX9_wrongWith_154 (by decide) ?_
          exact b_158 7 S3 H locs ls h hsh hG (lv_sub hl [] rfl)
    · have h := h.2 c_132
      refine lv_bipush (v := 6) hx hb dX9_wrongWith_135 (by decide) ?_
      exact W.iret (v := 6) hx hb hr (fun t ht hW => r_end (r := some (vI 6)) hAe hG hsh ⟨_, rfl, h⟩ rfl ht) hG.2.2.2.2 dX9_wrongWith_137
  have b_99 : ∀  (x1 : Int32) (x3 : Int32) (x4 : Int32) (x5 : Int32) (S : GS) (H : Heap) (locs : List Loc) (ls : Array Slot), wX9_wrongWith_99 Q k0 x1 x3 x4 x5 S → gSh S S0 → gS D Y ad A s.heap S H locs → lv_has ls 6 [(0, .ref (ad k0)), (1, .int x1), (3, .int x3), (4, .int x4), (5, .int x5)] → W p l e (rmD 2) s m args below meth c H locs 0 0 (MQ below (gE D Y za ad S0 s.heap.size (fun r S9 => ∃ x, r = some (vI x) ∧ Q x S9)) args s 0 0 A) (F0 m 99 ls []) := by
    intro  x1 x3 x4 x5 S H locs ls h hsh hG hl
    unfold wX9_wrongWith_99 at h
    refine lv_iload_n hx hb dX9_wrongWith_99 rfl (lv_at hl 2 rfl) ?_
    refine lv_if_ne (tgt := 127) hx hb dX9_wrongWith_100 (by decide) (fun c_100 => ?_) (fun c_100 => ?_)
    · have h := h.1 c_100
      exact b_127 x1 x4 S H locs ls h hsh hG (lv_sub hl [0, 1, 3] rfl)
    · have h := h.2 c_100
      refine lv_iload hx hb dX9_wrongWith_103 (lv_at hl 4 rfl) ?_
      refine lv_iconst (v := (-1)) hx hb dX9_wrongWith_105 (by decide) ?_
      refine lv_icmp_eq (tgt := 125) hx hb dX9_wrongWith_106 (by decide) (fun c_106 => ?_) (fun c_106 => ?_)
      · have h := h.1 c_106
        exact b_125  S H locs ls h hsh hG (lv_sub hl [] rfl)
      · have h := h.2 c_106
        refine lv_aload_n hx hb dX9_wrongWith_109 rfl (lv_at hl 0 rfl) ?_
        obtain ⟨hk7, hq8, h⟩ := h
        refine g_get (ci := 9) (C := RX9) (T := TX9) (N := 36) hx hb hts hin9 hown hK hG hk7 (cell_9 hq8) rfl 16 (by decide) lk_47 (fun _ h9 => h9) (v := rv ad (gR S k0 16)) rfl dX9_wrongWith_110 ?_
        refine lv_iload hx hb dX9_wrongWith_113 (lv_at hl 4 rfl) ?_
        obtain ⟨q9, e10, h⟩ := h
        refine W.eq (g2 := F0 m 115 ls [.int x5, .ref (ad q9)]) (by rw [e10]; rfl) ?_
        obtain ⟨hk11, hq12, h⟩ := h
        obtain ⟨hi13, h⟩ := h
        refine r_iald hx hb hK hG hk11 hq12 hi13 dX9_wrongWith_115 ?_
        refine lv_aload_n hx hb dX9_wrongWith_116 rfl (lv_at hl 0 rfl) ?_
        refine g_get (ci := 9) (C := RX9) (T := TX9) (N := 36) hx hb hts hin9 hown hK hG hk7 (cell_9 hq8) rfl 16 (by decide) lk_47 (fun _ h9 => h9) (v := rv ad (gR S k0 16)) rfl dX9_wrongWith_117 ?_
        refine lv_iload_n hx hb dX9_wrongWith_120 rfl (lv_at hl 1 rfl) ?_
        refine W.eq (g2 := F0 m 121 ls [.int x1, .ref (ad q9), .int (gX S q9 (Int32.toNatClampNeg x5))]) (by rw [e10]; rfl) ?_
        obtain ⟨hi14, h⟩ := h
        refine r_iald hx hb hK hG hk11 hq12 hi14 dX9_wrongWith_121 ?_
        refine lv_icmp_eq (tgt := 127) hx hb dX9_wrongWith_122 (by decide) (fun c_122 => ?_) (fun c_122 => ?_)
        · have h := h.1 c_122
          exact b_127 x1 x4 S H locs ls h hsh hG (lv_sub hl [0, 1, 3] rfl)
        · have h := h.2 c_122
          exact b_125  S H locs ls h hsh hG (lv_sub hl [] rfl)
  have b_87 : ∀  (x1 : Int32) (x3 : Int32) (x4 : Int32) (x5 : Int32) (S : GS) (H : Heap) (locs : List Loc) (ls : Array Slot), wX9_wrongWith_87 Q k0 x1 x3 x4 x5 S → gSh S S0 → gS D Y ad A s.heap S H locs → lv_has ls 6 [(0, .ref (ad k0)), (1, .int x1), (3, .int x3), (4, .int x4), (5, .int x5)] → W p l e (rmD 2) s m args below meth c H locs 0 0 (MQ below (gE D Y za ad S0 s.heap.size (fun r S9 => ∃ x, r = some (vI x) ∧ Q x S9)) args s 0 0 A) (F0 m 87 ls []) := by
    intro  x1 x3 x4 x5 S H locs ls h hsh hG hl
    unfold wX9_wrongWith_87 at h
    refine lv_iload_n hx hb dX9_wrongWith_87 rfl (lv_at hl 2 rfl) ?_
    refine lv_if_eq (tgt := 99) hx hb dX9_wrongWith_88 (by decide) (fun c_88 => ?_) (fun c_88 => ?_)
    · have h := h.1 c_88
      exact b_99 x1 x3 x4 x5 S H locs ls h hsh hG (lv_sub hl [0, 1, 2, 3, 4] rfl)
    · have h := h.2 c_88
      refine lv_iload hx hb dX9_wrongWith_91 (lv_at hl 4 rfl) ?_
      refine lv_iconst (v := (-1)) hx hb dX9_wrongWith_93 (by decide) ?_
      refine lv_icmp_eq (tgt := 99) hx hb dX9_wrongWith_94 (by decide) (fun c_94 => ?_) (fun c_94 => ?_)
      · have h := h.1 c_94
        exact b_99 x1 x3 x4 x5 S H locs ls h hsh hG (lv_sub hl [0, 1, 2, 3, 4] rfl)
      · have h := h.2 c_94
        refine lv_iconst (v := 4) hx hb dX9_wrongWith_97 (by decide) ?_
        exact W.iret (v := 4) hx hb hr (fun t ht hW => r_end (r := some (vI 4)) hAe hG hsh ⟨_, rfl, h⟩ rfl ht) hG.2.2.2.2 dX9_wrongWith_98
  have b_61 : ∀  (x1 : Int32) (x3 : Int32) (x4 : Int32) (t0 : Int32) (S : GS) (H : Heap) (locs : List Loc) (ls : Array Slot), wX9_wrongWith_61 Q k0 x1 x3 x4 t0 S → gSh S S0 → gS D Y ad A s.heap S H locs → lv_has ls 6 [(0, .ref (ad k0)), (1, .int x1), (3, .int x3), (4, .int x4)] → W p l e (rmD 2) s m args below meth c H locs 0 0 (MQ below (gE D Y za ad S0 s.heap.size (fun r S9 => ∃ x, r = some (vI x) ∧ Q x S9)) args s 0 0 A) (F0 m 61 ls [.int t0]) := by
    intro  x1 x3 x4 t0 S H locs ls h hsh hG hl
    unfold wX9_wrongWith_61 at h
    refine lv_istore (lv' := [(5, .int t0), (0, .ref (ad k0)), (1, .int x1), (3, .int x3), (4, .int x4)]) hx hb dX9_wrongWith_61 hl (by decide) rfl (fun ls hl => ?_)
    refine lv_aload_n hx hb dX9_wrongWith_63 rfl (lv_at hl 1 rfl) ?_
    refine lv_iload_n hx hb dX9_wrongWith_64 rfl (lv_at hl 2 rfl) ?_
    obtain ⟨hk15, hq16, h⟩ := h
    refine r_callV (za := za) (k := k0) (ci := 9) (C := RX9) (T := TX9) (N := 36) (As := [vI x1]) (rest := []) (tX9_isBack l S k0 x1 _ h) ⟨hx, hb, hml, hown, hts⟩ (cwV 1 hts gX9_wrongWith_X9_isBack rfl rfl rfl (by decide +kernel) ⟨by decide, by decide⟩) hK hG hA hk15 (cell_9 hq16) rfl rfl hl.1 rfl (Nat.le_of_ble_eq_true rfl) ⟨Nat.le_refl _, Nat.le_refl _⟩ dX9_wrongWith_65 (fun r_9 S17 H locs hp hs_S17 hG => ?_)
    obtain ⟨u18, rfl, h⟩ := hp
    have h := h hs_S17
    refine W.eq (g2 := F0 m 68 ls [.int u18]) rfl ?_
    have hsh := hs_S17.tr hsh
    have hk19 := hs_S17.lt hk15
    have hq20 := hs_S17.kd hq16
    refine lv_if_eq (tgt := 73) hx hb dX9_wrongWith_68 (by decide) (fun c_68 => ?_) (fun c_68 => ?_)
    · have h := h.1 c_68
      refine lv_iload_n hx hb dX9_wrongWith_73 rfl (lv_at hl 3 rfl) ?_
      refine lv_if_eq (tgt := 87) hx hb dX9_wrongWith_74 (by decide) (fun c_74 => ?_) (fun c_74 => ?_)
      · have h := h.1 c_74
        exact b_87 x1 x3 x4 t0 S17 H locs ls h hsh hG (lv_sub hl [1, 2, 3, 4, 0] rfl)
      · have h := h.2 c_74
        refine lv_aload_n hx hb dX9_wrongWith_77 rfl (lv_at hl 1 rfl) ?_
        refine lv_iload_n hx hb dX9_wrongWith_78 rfl (lv_at hl 2 rfl) ?_
        refine r_callV (za := za) (k := k0) (ci := 9) (C := RX9) (T := TX9) (N := 36) (As := [vI x1]) (rest := []) (tX9_isStale l S17 k0 x1 _ h) ⟨hx, hb, hml, hown, hts⟩ (cwV 1 hts gX9_wrongWith_X9_isStale rfl rfl rfl (by decide +kernel) ⟨by decide, by decide⟩) hK hG hA hk19 (cell_9 hq20) rfl rfl hl.1 rfl (Nat.le_of_ble_eq_true rfl) ⟨Nat.le_refl _, Nat.le_refl _⟩ dX9_wrongWith_79 (fun r_9 S21 H locs hp hs_S21 hG => ?_)
        obtain ⟨u22, rfl, h⟩ := hp
        have h := h hs_S21
        refine W.eq (g2 := F0 m 82 ls [.int u22]) rfl ?_
        have hsh := hs_S21.tr hsh
        have hk23 := hs_S21.lt hk19
        have hq24 := hs_S21.kd hq20
        refine lv_if_eq (tgt := 87) hx hb dX9_wrongWith_82 (by decide) (fun c_82 => ?_) (fun c_82 => ?_)
        · have h := h.1 c_82
          exact b_87 x1 x3 x4 t0 S21 H locs ls h hsh hG (lv_sub hl [1, 2, 3, 4, 0] rfl)
        · have h := h.2 c_82
          refine lv_iconst (v := 3) hx hb dX9_wrongWith_85 (by decide) ?_
          exact W.iret (v := 3) hx hb hr (fun t ht hW => r_end (r := some (vI 3)) hAe hG hsh ⟨_, rfl, h⟩ rfl ht) hG.2.2.2.2 dX9_wrongWith_86
    · have h := h.2 c_68
      refine lv_iconst (v := 2) hx hb dX9_wrongWith_71 (by decide) ?_
      exact W.iret (v := 2) hx hb hr (fun t ht hW => r_end (r := some (vI 2)) hAe hG hsh ⟨_, rfl, h⟩ rfl ht) hG.2.2.2.2 dX9_wrongWith_72
  have b_43 : ∀  (x1 : Int32) (x2 : Int32) (x3 : Int32) (t0 : Int32) (S : GS) (H : Heap) (locs : List Loc) (ls : Array Slot), wX9_wrongWith_43 Q k0 x1 x2 x3 t0 S → gSh S S0 → gS D Y ad A s.heap S H locs → lv_has ls 6 [(0, .ref (ad k0)), (1, .int x1), (2, .int x2), (3, .int x3)] → W p l e (rmD 2) s m args below meth c H locs 0 0 (MQ below (gE D Y za ad S0 s.heap.size (fun r S9 => ∃ x, r = some (vI x) ∧ Q x S9)) args s 0 0 A) (F0 m 43 ls [.int t0]) := by
    intro  x1 x2 x3 t0 S H locs ls h hsh hG hl
    unfold wX9_wrongWith_43 at h
    refine lv_istore (lv' := [(4, .int t0), (0, .ref (ad k0)), (1, .int x1), (2, .int x2), (3, .int x3)]) hx hb dX9_wrongWith_43 hl (by decide) rfl (fun ls hl => ?_)
    refine lv_iload_n hx hb dX9_wrongWith_45 rfl (lv_at hl 3 rfl) ?_
    refine lv_iconst (v := 3) hx hb dX9_wrongWith_46 (by decide) ?_
    refine lv_icmp_gt (tgt := 57) hx hb dX9_wrongWith_47 (by decide) (fun c_47 => ?_) (fun c_47 => ?_)
    · have h := h.1 c_47
      refine lv_aload_n hx hb dX9_wrongWith_57 rfl (lv_at hl 1 rfl) ?_
      obtain ⟨hk25, hq26, h⟩ := h
      refine g_get (ci := 9) (C := RX9) (T := TX9) (N := 36) hx hb hts hin9 hown hK hG hk25 (cell_9 hq26) rfl 31 (by decide) lk_81 (fun _ h9 => h9) (v := .int (gX S k0 31)) rfl dX9_wrongWith_58 ?_
      exact b_61 x1 x3 t0 (gX S k0 31) S H locs ls h hsh hG (lv_sub hl [1, 2, 4, 0] rfl)
    · have h := h.2 c_47
      refine lv_aload_n hx hb dX9_wrongWith_50 rfl (lv_at hl 1 rfl) ?_
      obtain ⟨hk27, hq28, h⟩ := h
      refine g_get (ci := 9) (C := RX9) (T := TX9) (N := 36) hx hb hts hin9 hown hK hG hk27 (cell_9 hq28) rfl 30 (by decide) lk_77 (fun _ h9 => h9) (v := .int (gX S k0 30)) rfl dX9_wrongWith_51 ?_
      refine lv_goto (tgt := 61) hx hb dX9_wrongWith_54 (by decide) ?_
      exact b_61 x1 x3 t0 (gX S k0 30) S H locs ls h hsh hG (lv_sub hl [1, 2, 4, 0] rfl)
  have b_38 : ∀  (x1 : Int32) (x2 : Int32) (x3 : Int32) (S : GS) (H : Heap) (locs : List Loc) (ls : Array Slot), wX9_wrongWith_38 Q k0 x1 x2 x3 S → gSh S S0 → gS D Y ad A s.heap S H locs → lv_has ls 6 [(0, .ref (ad k0)), (1, .int x1), (2, .int x2), (3, .int x3)] → W p l e (rmD 2) s m args below meth c H locs 0 0 (MQ below (gE D Y za ad S0 s.heap.size (fun r S9 => ∃ x, r = some (vI x) ∧ Q x S9)) args s 0 0 A) (F0 m 38 ls []) := by
    intro  x1 x2 x3 S H locs ls h hsh hG hl
    unfold wX9_wrongWith_38 at h
    refine lv_iconst (v := 1) hx hb dX9_wrongWith_38 (by decide) ?_
    refine lv_goto (tgt := 43) hx hb dX9_wrongWith_39 (by decide) ?_
    exact b_43 x1 x2 x3 1 S H locs ls h hsh hG (lv_sub hl [0, 1, 2, 3] rfl)
  have b_21 : ∀  (x1 : Int32) (x2 : Int32) (t0 : Int32) (S : GS) (H : Heap) (locs : List Loc) (ls : Array Slot), wX9_wrongWith_21 Q k0 x1 x2 t0 S → gSh S S0 → gS D Y ad A s.heap S H locs → lv_has ls 6 [(0, .ref (ad k0)), (1, .int x1), (2, .int x2)] → W p l e (rmD 2) s m args below meth c H locs 0 0 (MQ below (gE D Y za ad S0 s.heap.size (fun r S9 => ∃ x, r = some (vI x) ∧ Q x S9)) args s 0 0 A) (F0 m 21 ls [.int t0]) := by
    intro  x1 x2 t0 S H locs ls h hsh hG hl
    unfold wX9_wrongWith_21 at h
    refine lv_istore_n (lv' := [(3, .int t0), (0, .ref (ad k0)), (1, .int x1), (2, .int x2)]) hx hb dX9_wrongWith_21 rfl hl (by decide) rfl (fun ls hl => ?_)
    refine lv_iload_n hx hb dX9_wrongWith_22 rfl (lv_at hl 3 rfl) ?_
    refine lv_iconst (v := 1) hx hb dX9_wrongWith_23 (by decide) ?_
    refine lv_icmp_eq (tgt := 38) hx hb dX9_wrongWith_24 (by decide) (fun c_24 => ?_) (fun c_24 => ?_)
    · have h := h.1 c_24
      exact b_38 x1 x2 t0 S H locs ls h hsh hG (lv_sub hl [1, 2, 3, 0] rfl)
    · have h := h.2 c_24
      refine lv_iload_n hx hb dX9_wrongWith_27 rfl (lv_at hl 3 rfl) ?_
      refine lv_iconst (v := 5) hx hb dX9_wrongWith_28 (by decide) ?_
      refine lv_icmp_eq (tgt := 38) hx hb dX9_wrongWith_29 (by decide) (fun c_29 => ?_) (fun c_29 => ?_)
      · have h := h.1 c_29
        exact b_38 x1 x2 t0 S H locs ls h hsh hG (lv_sub hl [1, 2, 3, 0] rfl)
      · have h := h.2 c_29
        refine lv_iload_n hx hb dX9_wrongWith_32 rfl (lv_at hl 3 rfl) ?_
        refine lv_bipush (v := 6) hx hb dX9_wrongWith_33 (by decide) ?_
        refine lv_icmp_ne (tgt := 42) hx hb dX9_wrongWith_35 (by decide) (fun c_35 => ?_) (fun c_35 => ?_)
        · have h := h.1 c_35
          refine lv_iconst (v := 0) hx hb dX9_wrongWith_42 (by decide) ?_
          exact b_43 x1 x2 t0 0 S H locs ls h hsh hG (lv_sub hl [1, 2, 3, 0] rfl)
        · have h := h.2 c_35
          exact b_38 x1 x2 t0 S H locs ls h hsh hG (lv_sub hl [1, 2, 3, 0] rfl)
  have b_16 : ∀  (x1 : Int32) (x2 : Int32) (S : GS) (H : Heap) (locs : List Loc) (ls : Array Slot), wX9_wrongWith_16 Q k0 x1 x2 S → gSh S S0 → gS D Y ad A s.heap S H locs → lv_has ls 6 [(0, .ref (ad k0)), (1, .int x1), (2, .int x2)] → W p l e (rmD 2) s m args below meth c H locs 0 0 (MQ below (gE D Y za ad S0 s.heap.size (fun r S9 => ∃ x, r = some (vI x) ∧ Q x S9)) args s 0 0 A) (F0 m 16 ls []) := by
    intro  x1 x2 S H locs ls h hsh hG hl
    unfold wX9_wrongWith_16 at h
    refine lv_iconst (v := 1) hx hb dX9_wrongWith_16 (by decide) ?_
    refine lv_goto (tgt := 21) hx hb dX9_wrongWith_17 (by decide) ?_
    exact b_21 x1 x2 1 S H locs ls h hsh hG (lv_sub hl [0, 1, 2] rfl)
  have hl : lv_has ls 6 [(0, .ref (ad k0)), (1, .int x1)] := hl
  have hsh : gSh S S0 := by rw [hS0]; exact gSh.rf S
  obtain ⟨H, eH⟩ : ∃ z : Heap, z = s.heap := ⟨_, rfl⟩
  obtain ⟨locs, eL⟩ : ∃ z : List Loc, z = [] := ⟨_, rfl⟩
  have hG : gS D Y ad A s.heap S H locs := by rw [eH, eL]; exact hG
  suffices hgoal : W p l e (rmD 2) s m args below meth c H locs 0 0 (MQ below (gE D Y za ad S0 s.heap.size (fun r S9 => ∃ x, r = some (vI x) ∧ Q x S9)) args s 0 0 A) (F0 m 0 ls []) by rw [eH, eL] at hgoal; exact hgoal
  unfold wX9_wrongWith at h
  refine lv_aload_n hx hb dX9_wrongWith_0 rfl (lv_at hl 0 rfl) ?_
  obtain ⟨hk29, hq30, h⟩ := h
  refine g_get (ci := 9) (C := RX9) (T := TX9) (N := 36) hx hb hts hin9 hown hK hG hk29 (cell_9 hq30) rfl 12 (by decide) lk_35 (fun _ h9 => h9) (v := rv ad (gR S k0 12)) rfl dX9_wrongWith_1 ?_
  refine lv_iload_n hx hb dX9_wrongWith_4 rfl (lv_at hl 1 rfl) ?_
  obtain ⟨q31, e32, h⟩ := h
  refine W.eq (g2 := F0 m 5 ls [.int x1, .ref (ad q31)]) (by rw [e32]; rfl) ?_
  obtain ⟨hk33, hq34, h⟩ := h
  obtain ⟨hi35, h⟩ := h
  refine r_iald hx hb hK hG hk33 hq34 hi35 dX9_wrongWith_5 ?_
  refine lv_istore_n (lv' := [(2, .int (gX S q31 (Int32.toNatClampNeg x1))), (0, .ref (ad k0)), (1, .int x1)]) hx hb dX9_wrongWith_6 rfl hl (by decide) rfl (fun ls hl => ?_)
  refine lv_iload_n hx hb dX9_wrongWith_7 rfl (lv_at hl 0 rfl) ?_
  refine lv_if_eq (tgt := 16) hx hb dX9_wrongWith_8 (by decide) (fun c_8 => ?_) (fun c_8 => ?_)
  · have h := h.1 c_8
    exact b_16 x1 (gX S q31 (Int32.toNatClampNeg x1)) S H locs ls h hsh hG (lv_sub hl [1, 2, 0] rfl)
  · have h := h.2 c_8
    refine lv_iload_n hx hb dX9_wrongWith_11 rfl (lv_at hl 0 rfl) ?_
    refine lv_iconst (v := 4) hx hb dX9_wrongWith_12 (by decide) ?_
    refine lv_icmp_ne (tgt := 20) hx hb dX9_wrongWith_13 (by decide) (fun c_13 => ?_) (fun c_13 => ?_)
    · have h := h.1 c_13
      refine lv_iconst (v := 0) hx hb dX9_wrongWith_20 (by decide) ?_
      exact b_21 x1 (gX S q31 (Int32.toNatClampNeg x1)) 0 S H locs ls h hsh hG (lv_sub hl [1, 2, 0] rfl)
    · have h := h.2 c_13
      exact b_16 x1 (gX S q31 (Int32.toNatClampNeg x1)) S H locs ls h hsh hG (lv_sub hl [1, 2, 0] rfl)
def wX9_diagnose (S : GS) (k0 : Nat) (x1 : Int32) (x2 : Int32) (x3 : Int32) (Q : GS → Prop) : Prop :=
  k0 < gN S ∧ gK S k0 = 9 ∧ ∃ q3 : Nat, gR S k0 26 = some q3 ∧ q3 < gN S ∧ gK S q3 = 11 ∧ vp_in (gX S k0 29) (gL S q3) ∧ ∀ S8 : GS, S8 = sX S q3 (Int32.toNatClampNeg (gX S k0 29)) x1 → ∃ q13 : Nat, gR S8 k0 27 = some q13 ∧ q13 < gN S8 ∧ gK S8 q13 = 11 ∧ vp_in (gX S8 k0 29) (gL S8 q13) ∧ ∀ S18 : GS, S18 = sX S8 q13 (Int32.toNatClampNeg (gX S8 k0 29)) x2 → ∃ q25 : Nat, gR S18 k0 28 = some q25 ∧ q25 < gN S18 ∧ gK S18 q25 = 11 ∧ vp_in (gX S18 k0 29) (gL S18 q25) ∧ ∀ S30 : GS, S30 = sX S18 q25 (Int32.toNatClampNeg (gX S18 k0 29)) x3 → ∀ S39 : GS, S39 = sX S30 k0 29 ((gX S30 k0 29) + 1) → ∃ q48 : Nat, gR S39 k0 11 = some q48 ∧ q48 < gN S39 ∧ gK S39 q48 = 11 ∧ vp_in x2 (gL S39 q48) ∧ ∀ S53 : GS, S53 = sX S39 q48 (Int32.toNatClampNeg x2) 2 → Q S53
set_option maxHeartbeats 4000000 in
set_option maxRecDepth 100000 in
theorem tX9_diagnose (l : Launch) (S : GS) (k0 : Nat) (x1 : Int32) (x2 : Int32) (x3 : Int32) (Q : GS → Prop) (h : wX9_diagnose S k0 x1 x2 x3 Q) : CS l yX9_diagnose wsX9_diagnose 0 S [vR (some k0), vI x1, vI x2, vI x3] (fun r S9 => r = none ∧ Q S9) := by
  refine CS.ofW (cc := cX9_diagnose) (maxL := 4) (ret := none) RX9 (by decide) rfl rfl (fun _ _ => Nat.le_of_ble_eq_true rfl) ?_
  intro p e s m args below meth c D Y za ad A ls hAe hx hb hr hml hts hown hlocks hK hA hG hl
  obtain ⟨S0, hS0⟩ : ∃ z : GS, z = S := ⟨_, rfl⟩
  rw [← hS0] at hAe
  rw [← hS0]
  have hin9 : ∀ w ∈ wsX90, w ∈ wsX9_diagnose := by decide +kernel
  have lk_68 := hts (.fieldLink RX9 68 "PauseLogModel" "problem" "[I") (by decide +kernel)
  have lk_208 := hts (.fieldLink RX9 208 "PauseLogModel" "problems" "I") (by decide +kernel)
  have lk_71 := hts (.fieldLink RX9 71 "PauseLogModel" "problemLine" "[I") (by decide +kernel)
  have lk_74 := hts (.fieldLink RX9 74 "PauseLogModel" "problemFault" "[I") (by decide +kernel)
  have lk_32 := hts (.fieldLink RX9 32 "PauseLogModel" "owner" "[I") (by decide +kernel)
  have hl : lv_has ls 4 [(0, .ref (ad k0)), (1, .int x1), (2, .int x2), (3, .int x3)] := hl
  have hsh : gSh S S0 := by rw [hS0]; exact gSh.rf S
  obtain ⟨H, eH⟩ : ∃ z : Heap, z = s.heap := ⟨_, rfl⟩
  obtain ⟨locs, eL⟩ : ∃ z : List Loc, z = [] := ⟨_, rfl⟩
  have hG : gS D Y ad A s.heap S H locs := by rw [eH, eL]; exact hG
  suffices hgoal : W p l e (rmD 0) s m args below meth c H locs 0 0 (MQ below (gE D Y za ad S0 s.heap.size (fun r S9 => r = none ∧ Q S9)) args s 0 0 A) (F0 m 0 ls []) by rw [eH, eL] at hgoal; exact hgoal
  unfold wX9_diagnose at h
  refine lv_aload_n hx hb dX9_diagnose_0 rfl (lv_at hl 0 rfl) ?_
  obtain ⟨hk1, hq2, h⟩ := h
  refine g_get (ci := 9) (C := RX9) (T := TX9) (N := 36) hx hb hts hin9 hown hK hG hk1 (cell_9 hq2) rfl 26 (by decide) lk_68 (fun _ h9 => h9) (v := rv ad (gR S k0 26)) rfl dX9_diagnose_1 ?_
  refine lv_aload_n hx hb dX9_diagnose_4 rfl (lv_at hl 0 rfl) ?_
  refine g_get (ci := 9) (C := RX9) (T := TX9) (N := 36) hx hb hts hin9 hown hK hG hk1 (cell_9 hq2) rfl 29 (by decide) lk_208 (fun _ h9 => h9) (v := .int (gX S k0 29)) rfl dX9_diagnose_5 ?_
  refine lv_iload_n hx hb dX9_diagnose_8 rfl (lv_at hl 1 rfl) ?_
  obtain ⟨q3, e4, h⟩ := h
  refine W.eq (g2 := F0 m 9 ls [.int x1, .int (gX S k0 29), .ref (ad q3)]) (by rw [e4]; rfl) ?_
  obtain ⟨hk5, hq6, h⟩ := h
  obtain ⟨hi7, h⟩ := h
  refine r_iast hx hb hK hG hk5 hq6 hi7 dX9_diagnose_9 (fun H locs hG => ?_)
  obtain ⟨S8, eS_S8⟩ : ∃ z : GS, z = sX S q3 (Int32.toNatClampNeg (gX S k0 29)) x1 := ⟨_, rfl⟩
  have h := h S8 eS_S8
  rw [← eS_S8] at hG
  have hs_S8 : gSh S8 S := by rw [eS_S8]; exact gSh.x _ _ _ _
  have hsh := hs_S8.tr hsh
  have hk9 := hs_S8.lt hk1
  have hq10 := hs_S8.kd hq2
  have hk11 := hs_S8.lt hk5
  have hq12 := hs_S8.kd hq6
  refine lv_aload_n hx hb dX9_diagnose_10 rfl (lv_at hl 0 rfl) ?_
  refine g_get (ci := 9) (C := RX9) (T := TX9) (N := 36) hx hb hts hin9 hown hK hG hk9 (cell_9 hq10) rfl 27 (by decide) lk_71 (fun _ h9 => h9) (v := rv ad (gR S8 k0 27)) rfl dX9_diagnose_11 ?_
  refine lv_aload_n hx hb dX9_diagnose_14 rfl (lv_at hl 0 rfl) ?_
  refine g_get (ci := 9) (C := RX9) (T := TX9) (N := 36) hx hb hts hin9 hown hK hG hk9 (cell_9 hq10) rfl 29 (by decide) lk_208 (fun _ h9 => h9) (v := .int (gX S8 k0 29)) rfl dX9_diagnose_15 ?_
  refine lv_iload_n hx hb dX9_diagnose_18 rfl (lv_at hl 2 rfl) ?_
  obtain ⟨q13, e14, h⟩ := h
  refine W.eq (g2 := F0 m 19 ls [.int x2, .int (gX S8 k0 29), .ref (ad q13)]) (by rw [e14]; rfl) ?_
  obtain ⟨hk15, hq16, h⟩ := h
  obtain ⟨hi17, h⟩ := h
  refine r_iast hx hb hK hG hk15 hq16 hi17 dX9_diagnose_19 (fun H locs hG => ?_)
  obtain ⟨S18, eS_S18⟩ : ∃ z : GS, z = sX S8 q13 (Int32.toNatClampNeg (gX S8 k0 29)) x2 := ⟨_, rfl⟩
  have h := h S18 eS_S18
  rw [← eS_S18] at hG
  have hs_S18 : gSh S18 S8 := by rw [eS_S18]; exact gSh.x _ _ _ _
  have hsh := hs_S18.tr hsh
  have hk19 := hs_S18.lt hk9
  have hq20 := hs_S18.kd hq10
  have hk21 := hs_S18.lt hk11
  have hq22 := hs_S18.kd hq12
  have hk23 := hs_S18.lt hk15
  have hq24 := hs_S18.kd hq16
  refine lv_aload_n hx hb dX9_diagnose_20 rfl (lv_at hl 0 rfl) ?_
  refine g_get (ci := 9) (C := RX9) (T := TX9) (N := 36) hx hb hts hin9 hown hK hG hk19 (cell_9 hq20) rfl 28 (by decide) lk_74 (fun _ h9 => h9) (v := rv ad (gR S18 k0 28)) rfl dX9_diagnose_21 ?_
  refine lv_aload_n hx hb dX9_diagnose_24 rfl (lv_at hl 0 rfl) ?_
  refine g_get (ci := 9) (C := RX9) (T := TX9) (N := 36) hx hb hts hin9 hown hK hG hk19 (cell_9 hq20) rfl 29 (by decide) lk_208 (fun _ h9 => h9) (v := .int (gX S18 k0 29)) rfl dX9_diagnose_25 ?_
  refine lv_iload_n hx hb dX9_diagnose_28 rfl (lv_at hl 3 rfl) ?_
  obtain ⟨q25, e26, h⟩ := h
  refine W.eq (g2 := F0 m 29 ls [.int x3, .int (gX S18 k0 29), .ref (ad q25)]) (by rw [e26]; rfl) ?_
  obtain ⟨hk27, hq28, h⟩ := h
  obtain ⟨hi29, h⟩ := h
  refine r_iast hx hb hK hG hk27 hq28 hi29 dX9_diagnose_29 (fun H locs hG => ?_)
  obtain ⟨S30, eS_S30⟩ : ∃ z : GS, z = sX S18 q25 (Int32.toNatClampNeg (gX S18 k0 29)) x3 := ⟨_, rfl⟩
  have h := h S30 eS_S30
  rw [← eS_S30] at hG
  have hs_S30 : gSh S30 S18 := by rw [eS_S30]; exact gSh.x _ _ _ _
  have hsh := hs_S30.tr hsh
  have hk31 := hs_S30.lt hk19
  have hq32 := hs_S30.kd hq20
  have hk33 := hs_S30.lt hk21
  have hq34 := hs_S30.kd hq22
  have hk35 := hs_S30.lt hk23
  have hq36 := hs_S30.kd hq24
  have hk37 := hs_S30.lt hk27
  have hq38 := hs_S30.kd hq28
  refine lv_aload_n hx hb dX9_diagnose_30 rfl (lv_at hl 0 rfl) ?_
  refine lv_dup hx hb dX9_diagnose_31 rfl ?_
  refine g_get (ci := 9) (C := RX9) (T := TX9) (N := 36) hx hb hts hin9 hown hK hG hk31 (cell_9 hq32) rfl 29 (by decide) lk_208 (fun _ h9 => h9) (v := .int (gX S30 k0 29)) rfl dX9_diagnose_32 ?_
  refine lv_iconst (v := 1) hx hb dX9_diagnose_35 (by decide) ?_
  refine lv_iadd hx hb dX9_diagnose_36 ?_
  refine r_put (ci := 9) (C := RX9) (T := TX9) (N := 36) hx hb hts hin9 tyX9 tyX9_ok nmX9 hown hK hG hk31 (cell_9 hq32) rfl 29 (by decide) lk_208 (fun _ h9 => h9) rfl rfl rfl (Nat.le_of_ble_eq_true rfl) (S' := sX S30 k0 29 ((gX S30 k0 29) + 1)) rfl (pu_9_29 hq32 ((gX S30 k0 29) + 1)) dX9_diagnose_37 (fun H locs hG => ?_)
  obtain ⟨S39, eS_S39⟩ : ∃ z : GS, z = sX S30 k0 29 ((gX S30 k0 29) + 1) := ⟨_, rfl⟩
  have h := h S39 eS_S39
  rw [← eS_S39] at hG
  have hs_S39 : gSh S39 S30 := by rw [eS_S39]; exact gSh.x _ _ _ _
  have hsh := hs_S39.tr hsh
  have hk40 := hs_S39.lt hk31
  have hq41 := hs_S39.kd hq32
  have hk42 := hs_S39.lt hk33
  have hq43 := hs_S39.kd hq34
  have hk44 := hs_S39.lt hk35
  have hq45 := hs_S39.kd hq36
  have hk46 := hs_S39.lt hk37
  have hq47 := hs_S39.kd hq38
  refine lv_aload_n hx hb dX9_diagnose_40 rfl (lv_at hl 0 rfl) ?_
  refine g_get (ci := 9) (C := RX9) (T := TX9) (N := 36) hx hb hts hin9 hown hK hG hk40 (cell_9 hq41) rfl 11 (by decide) lk_32 (fun _ h9 => h9) (v := rv ad (gR S39 k0 11)) rfl dX9_diagnose_41 ?_
  refine lv_iload_n hx hb dX9_diagnose_44 rfl (lv_at hl 2 rfl) ?_
  refine lv_iconst (v := 2) hx hb dX9_diagnose_45 (by decide) ?_
  obtain ⟨q48, e49, h⟩ := h
  refine W.eq (g2 := F0 m 46 ls [.int 2, .int x2, .ref (ad q48)]) (by rw [e49]; rfl) ?_
  obtain ⟨hk50, hq51, h⟩ := h
  obtain ⟨hi52, h⟩ := h
  refine r_iast hx hb hK hG hk50 hq51 hi52 dX9_diagnose_46 (fun H locs hG => ?_)
  obtain ⟨S53, eS_S53⟩ : ∃ z : GS, z = sX S39 q48 (Int32.toNatClampNeg x2) 2 := ⟨_, rfl⟩
  have h := h S53 eS_S53
  rw [← eS_S53] at hG
  have hs_S53 : gSh S53 S39 := by rw [eS_S53]; exact gSh.x _ _ _ _
  have hsh := hs_S53.tr hsh
  have hk54 := hs_S53.lt hk40
  have hq55 := hs_S53.kd hq41
  have hk56 := hs_S53.lt hk42
  have hq57 := hs_S53.kd hq43
  have hk58 := hs_S53.lt hk44
  have hq59 := hs_S53.kd hq45
  have hk60 := hs_S53.lt hk46
  have hq61 := hs_S53.kd hq47
  have hk62 := hs_S53.lt hk50
  have hq63 := hs_S53.kd hq51
  exact W.vret hx hb hr (fun t ht hW => r_end (r := none) hAe hG hsh ⟨rfl, h⟩ rfl ht) hG.2.2.2.2 dX9_diagnose_47
def wX9_makeEvent_199 (Q : GS → Prop) (k0 : Nat)  (S : GS) : Prop :=
  Q S
def wX9_makeEvent_172 (Q : GS → Prop) (k0 : Nat) (x2 : Int32) (S : GS) : Prop :=
  k0 < gN S ∧ gK S k0 = 9 ∧ ∀ S3 : GS, S3 = sX S k0 25 ((gX S k0 25) + 1) → (x2 = 0 → ∀ S6 : GS, S6 = sX S3 k0 31 (-1) → wX9_makeEvent_199 Q k0  S6) ∧ (¬ x2 = 0 → ∀ S9 : GS, S9 = sX S3 k0 30 (-1) → wX9_makeEvent_199 Q k0  S9)
def wX9_makeEvent_144 (Q : GS → Prop) (k0 : Nat) (x2 : Int32) (S : GS) : Prop :=
  k0 < gN S ∧ gK S k0 = 9 ∧ ∃ q14 : Nat, gR S k0 24 = some q14 ∧ q14 < gN S ∧ gK S q14 = 11 ∧ vp_in (gX S k0 25) (gL S q14) ∧ ((gX S q14 (Int32.toNatClampNeg (gX S k0 25))) = (-1) → wX9_makeEvent_172 Q k0 x2 S) ∧ (¬ (gX S q14 (Int32.toNatClampNeg (gX S k0 25))) = (-1) → vp_in (gX S k0 25) (gL S q14) ∧ ∃ q20 : Nat, gR S k0 11 = some q20 ∧ q20 < gN S ∧ gK S q20 = 11 ∧ vp_in (gX S q14 (Int32.toNatClampNeg (gX S k0 25))) (gL S q20) ∧ ∀ S25 : GS, S25 = sX S q20 (Int32.toNatClampNeg (gX S q14 (Int32.toNatClampNeg (gX S k0 25)))) 1 → wX9_makeEvent_172 Q k0 x2 S25)
def wX9_makeEvent_93 (Q : GS → Prop) (k0 : Nat) (x1 : Int32) (x2 : Int32) (t0 : Option Nat) (t1 : Int32) (t2 : Int32) (S : GS) : Prop :=
  ∃ q32 : Nat, t0 = some q32 ∧ q32 < gN S ∧ gK S q32 = 11 ∧ vp_in t1 (gL S q32) ∧ ∀ S37 : GS, S37 = sX S q32 (Int32.toNatClampNeg t1) t2 → k0 < gN S37 ∧ gK S37 k0 = 9 ∧ ∃ q42 : Nat, gR S37 k0 21 = some q42 ∧ q42 < gN S37 ∧ gK S37 q42 = 11 ∧ vp_in (gX S37 k0 25) (gL S37 q42) ∧ ∃ q47 : Nat, gR S37 k0 11 = some q47 ∧ q47 < gN S37 ∧ gK S37 q47 = 11 ∧ vp_in (gX S37 q42 (Int32.toNatClampNeg (gX S37 k0 25))) (gL S37 q47) ∧ ∀ S52 : GS, S52 = sX S37 q47 (Int32.toNatClampNeg (gX S37 q42 (Int32.toNatClampNeg (gX S37 k0 25)))) 1 → ∃ q61 : Nat, gR S52 k0 11 = some q61 ∧ q61 < gN S52 ∧ gK S52 q61 = 11 ∧ vp_in x1 (gL S52 q61) ∧ ∀ S66 : GS, S66 = sX S52 q61 (Int32.toNatClampNeg x1) 1 → ∃ q77 : Nat, gR S66 k0 23 = some q77 ∧ q77 < gN S66 ∧ gK S66 q77 = 11 ∧ vp_in (gX S66 k0 25) (gL S66 q77) ∧ ((gX S66 q77 (Int32.toNatClampNeg (gX S66 k0 25))) = (-1) → wX9_makeEvent_144 Q k0 x2 S66) ∧ (¬ (gX S66 q77 (Int32.toNatClampNeg (gX S66 k0 25))) = (-1) → vp_in (gX S66 k0 25) (gL S66 q77) ∧ ∃ q83 : Nat, gR S66 k0 11 = some q83 ∧ q83 < gN S66 ∧ gK S66 q83 = 11 ∧ vp_in (gX S66 q77 (Int32.toNatClampNeg (gX S66 k0 25))) (gL S66 q83) ∧ ∀ S88 : GS, S88 = sX S66 q83 (Int32.toNatClampNeg (gX S66 q77 (Int32.toNatClampNeg (gX S66 k0 25)))) 1 → wX9_makeEvent_144 Q k0 x2 S88)
def wX9_makeEvent_71 (Q : GS → Prop) (k0 : Nat) (x1 : Int32) (x2 : Int32) (t0 : Option Nat) (t1 : Int32) (t2 : Int32) (S : GS) : Prop :=
  ∃ q103 : Nat, t0 = some q103 ∧ q103 < gN S ∧ gK S q103 = 11 ∧ vp_in t1 (gL S q103) ∧ ∀ S108 : GS, S108 = sX S q103 (Int32.toNatClampNeg t1) t2 → k0 < gN S108 ∧ gK S108 k0 = 9 ∧ (x2 = 0 → wX9_makeEvent_93 Q k0 x1 x2 (gR S108 k0 24) (gX S108 k0 25) (-1) S108) ∧ (¬ x2 = 0 → wX9_ofOpenPause S108 k0 3 (fun u114 S113 => gSh S113 S108 → wX9_makeEvent_93 Q k0 x1 x2 (gR S108 k0 24) (gX S108 k0 25) u114 S113))
def wX9_makeEvent_39 (Q : GS → Prop) (k0 : Nat) (x1 : Int32) (x2 : Int32) (t0 : Option Nat) (t1 : Int32) (t2 : Int32) (S : GS) : Prop :=
  ∃ q119 : Nat, t0 = some q119 ∧ q119 < gN S ∧ gK S q119 = 11 ∧ vp_in t1 (gL S q119) ∧ ∀ S124 : GS, S124 = sX S q119 (Int32.toNatClampNeg t1) t2 → k0 < gN S124 ∧ gK S124 k0 = 9 ∧ ∃ q129 : Nat, gR S124 k0 22 = some q129 ∧ q129 < gN S124 ∧ gK S124 q129 = 11 ∧ vp_in (gX S124 k0 25) (gL S124 q129) ∧ ∀ S134 : GS, S134 = sX S124 q129 (Int32.toNatClampNeg (gX S124 k0 25)) x1 → (x2 = 0 → wX9_makeEvent_71 Q k0 x1 x2 (gR S134 k0 23) (gX S134 k0 25) (-1) S134) ∧ (¬ x2 = 0 → wX9_ofOpenPause S134 k0 2 (fun u142 S141 => gSh S141 S134 → wX9_makeEvent_71 Q k0 x1 x2 (gR S134 k0 23) (gX S134 k0 25) u142 S141))
def wX9_makeEvent_15 (Q : GS → Prop) (k0 : Nat) (x1 : Int32) (t0 : Int32) (S : GS) : Prop :=
  k0 < gN S ∧ gK S k0 = 9 ∧ (t0 = 0 → wX9_makeEvent_39 Q k0 x1 t0 (gR S k0 21) (gX S k0 25) (gX S k0 31) S) ∧ (¬ t0 = 0 → wX9_makeEvent_39 Q k0 x1 t0 (gR S k0 21) (gX S k0 25) (gX S k0 30) S)
def wX9_makeEvent (S : GS) (k0 : Nat) (x1 : Int32) (Q : GS → Prop) : Prop :=
  k0 < gN S ∧ gK S k0 = 9 ∧ ∃ q153 : Nat, gR S k0 12 = some q153 ∧ q153 < gN S ∧ gK S q153 = 11 ∧ vp_in x1 (gL S q153) ∧ (¬ (gX S q153 (Int32.toNatClampNeg x1)) = 1 → wX9_makeEvent_15 Q k0 x1 0 S) ∧ ((gX S q153 (Int32.toNatClampNeg x1)) = 1 → wX9_makeEvent_15 Q k0 x1 1 S)
set_option maxHeartbeats 4000000 in
set_option maxRecDepth 100000 in
theorem tX9_makeEvent (l : Launch) (S : GS) (k0 : Nat) (x1 : Int32) (Q : GS → Prop) (h : wX9_makeEvent S k0 x1 Q) : CS l yX9_makeEvent wsX9_makeEvent 1 S [vR (some k0), vI x1] (fun r S9 => r = none ∧ Q S9) := by
  refine CS.ofW (cc := cX9_makeEvent) (maxL := 3) (ret := none) RX9 (by decide) rfl rfl (fun _ _ => Nat.le_of_ble_eq_true rfl) ?_
  intro p e s m args below meth c D Y za ad A ls hAe hx hb hr hml hts hown hlocks hK hA hG hl
  obtain ⟨S0, hS0⟩ : ∃ z : GS, z = S := ⟨_, rfl⟩
  rw [← hS0] at hAe
  rw [← hS0]
  have hin9 : ∀ w ∈ wsX90, w ∈ wsX9_makeEvent := by decide +kernel
  have lk_35 := hts (.fieldLink RX9 35 "PauseLogModel" "shape" "[I") (by decide +kernel)
  have lk_56 := hts (.fieldLink RX9 56 "PauseLogModel" "beginLine" "[I") (by decide +kernel)
  have lk_205 := hts (.fieldLink RX9 205 "PauseLogModel" "events" "I") (by decide +kernel)
  have lk_77 := hts (.fieldLink RX9 77 "PauseLogModel" "openPause" "I") (by decide +kernel)
  have lk_81 := hts (.fieldLink RX9 81 "PauseLogModel" "openMark" "I") (by decide +kernel)
  have lk_59 := hts (.fieldLink RX9 59 "PauseLogModel" "endLine" "[I") (by decide +kernel)
  have lk_62 := hts (.fieldLink RX9 62 "PauseLogModel" "edenLine" "[I") (by decide +kernel)
  have lk_65 := hts (.fieldLink RX9 65 "PauseLogModel" "oldLine" "[I") (by decide +kernel)
  have lk_32 := hts (.fieldLink RX9 32 "PauseLogModel" "owner" "[I") (by decide +kernel)
  have b_199 : ∀   (S : GS) (H : Heap) (locs : List Loc) (ls : Array Slot), wX9_makeEvent_199 Q k0  S → gSh S S0 → gS D Y ad A s.heap S H locs → lv_has ls 3 [] → W p l e (rmD 1) s m args below meth c H locs 0 0 (MQ below (gE D Y za ad S0 s.heap.size (fun r S9 => r = none ∧ Q S9)) args s 0 0 A) (F0 m 199 ls []) := by
    intro   S H locs ls h hsh hG hl
    unfold wX9_makeEvent_199 at h
    exact W.vret hx hb hr (fun t ht hW => r_end (r := none) hAe hG hsh ⟨rfl, h⟩ rfl ht) hG.2.2.2.2 dX9_makeEvent_199
  have b_172 : ∀  (x2 : Int32) (S : GS) (H : Heap) (locs : List Loc) (ls : Array Slot), wX9_makeEvent_172 Q k0 x2 S → gSh S S0 → gS D Y ad A s.heap S H locs → lv_has ls 3 [(0, .ref (ad k0)), (2, .int x2)] → W p l e (rmD 1) s m args below meth c H locs 0 0 (MQ below (gE D Y za ad S0 s.heap.size (fun r S9 => r = none ∧ Q S9)) args s 0 0 A) (F0 m 172 ls []) := by
    intro  x2 S H locs ls h hsh hG hl
    unfold wX9_makeEvent_172 at h
    refine lv_aload_n hx hb dX9_makeEvent_172 rfl (lv_at hl 0 rfl) ?_
    refine lv_dup hx hb dX9_makeEvent_173 rfl ?_
    obtain ⟨hk1, hq2, h⟩ := h
    refine g_get (ci := 9) (C := RX9) (T := TX9) (N := 36) hx hb hts hin9 hown hK hG hk1 (cell_9 hq2) rfl 25 (by decide) lk_205 (fun _ h9 => h9) (v := .int (gX S k0 25)) rfl dX9_makeEvent_174 ?_
    refine lv_iconst (v := 1) hx hb dX9_makeEvent_177 (by decide) ?_
    refine lv_iadd hx hb dX9_makeEvent_178 ?_
    refine r_put (ci := 9) (C := RX9) (T := TX9) (N := 36) hx hb hts hin9 tyX9 tyX9_ok nmX9 hown hK hG hk1 (cell_9 hq2) rfl 25 (by decide) lk_205 (fun _ h9 => h9) rfl rfl rfl (Nat.le_of_ble_eq_true rfl) (S' := sX S k0 25 ((gX S k0 25) + 1)) rfl (pu_9_25 hq2 ((gX S k0 25) + 1)) dX9_makeEvent_179 (fun H locs hG => ?_)
    obtain ⟨S3, eS_S3⟩ : ∃ z : GS, z = sX S k0 25 ((gX S k0 25) + 1) := ⟨_, rfl⟩
    have h := h S3 eS_S3
    rw [← eS_S3] at hG
    have hs_S3 : gSh S3 S := by rw [eS_S3]; exact gSh.x _ _ _ _
    have hsh := hs_S3.tr hsh
    have hk4 := hs_S3.lt hk1
    have hq5 := hs_S3.kd hq2
    refine lv_iload_n hx hb dX9_makeEvent_182 rfl (lv_at hl 1 rfl) ?_
    refine lv_if_eq (tgt := 194) hx hb dX9_makeEvent_183 (by decide) (fun c_183 => ?_) (fun c_183 => ?_)
    · have h := h.1 c_183
      refine lv_aload_n hx hb dX9_makeEvent_194 rfl (lv_at hl 0 rfl) ?_
      refine lv_iconst (v := (-1)) hx hb dX9_makeEvent_195 (by decide) ?_
      refine r_put (ci := 9) (C := RX9) (T := TX9) (N := 36) hx hb hts hin9 tyX9 tyX9_ok nmX9 hown hK hG hk4 (cell_9 hq5) rfl 31 (by decide) lk_81 (fun _ h9 => h9) rfl rfl rfl (Nat.le_of_ble_eq_true rfl) (S' := sX S3 k0 31 (-1)) rfl (pu_9_31 hq5 (-1)) dX9_makeEvent_196 (fun H locs hG => ?_)
      obtain ⟨S6, eS_S6⟩ : ∃ z : GS, z = sX S3 k0 31 (-1) := ⟨_, rfl⟩
      have h := h S6 eS_S6
      rw [← eS_S6] at hG
      have hs_S6 : gSh S6 S3 := by rw [eS_S6]; exact gSh.x _ _ _ _
      have hsh := hs_S6.tr hsh
      have hk7 := hs_S6.lt hk4
      have hq8 := hs_S6.kd hq5
      exact b_199  S6 H locs ls h hsh hG (lv_sub hl [] rfl)
    · have h := h.2 c_183
      refine lv_aload_n hx hb dX9_makeEvent_186 rfl (lv_at hl 0 rfl) ?_
      refine lv_iconst (v := (-1)) hx hb dX9_makeEvent_187 (by decide) ?_
      refine r_put (ci := 9) (C := RX9) (T := TX9) (N := 36) hx hb hts hin9 tyX9 tyX9_ok nmX9 hown hK hG hk4 (cell_9 hq5) rfl 30 (by decide) lk_77 (fun _ h9 => h9) rfl rfl rfl (Nat.le_of_ble_eq_true rfl) (S' := sX S3 k0 30 (-1)) rfl (pu_9_30 hq5 (-1)) dX9_makeEvent_188 (fun H locs hG => ?_)
      obtain ⟨S9, eS_S9⟩ : ∃ z : GS, z = sX S3 k0 30 (-1) := ⟨_, rfl⟩
      have h := h S9 eS_S9
      rw [← eS_S9] at hG
      have hs_S9 : gSh S9 S3 := by rw [eS_S9]; exact gSh.x _ _ _ _
      have hsh := hs_S9.tr hsh
      have hk10 := hs_S9.lt hk4
      have hq11 := hs_S9.kd hq5
      refine lv_goto (tgt := 199) hx hb dX9_makeEvent_191 (by decide) ?_
      exact b_199  S9 H locs ls h hsh hG (lv_sub hl [] rfl)
  have b_144 : ∀  (x2 : Int32) (S : GS) (H : Heap) (locs : List Loc) (ls : Array Slot), wX9_makeEvent_144 Q k0 x2 S → gSh S S0 → gS D Y ad A s.heap S H locs → lv_has ls 3 [(0, .ref (ad k0)), (2, .int x2)] → W p l e (rmD 1) s m args below meth c H locs 0 0 (MQ below (gE D Y za ad S0 s.heap.size (fun r S9 => r = none ∧ Q S9)) args s 0 0 A) (F0 m 144 ls []) := by
    intro  x2 S H locs ls h hsh hG hl
    unfold wX9_makeEvent_144 at h
    refine lv_aload_n hx hb dX9_makeEvent_144 rfl (lv_at hl 0 rfl) ?_
    obtain ⟨hk12, hq13, h⟩ := h
    refine g_get (ci := 9) (C := RX9) (T := TX9) (N := 36) hx hb hts hin9 hown hK hG hk12 (cell_9 hq13) rfl 24 (by decide) lk_65 (fun _ h9 => h9) (v := rv ad (gR S k0 24)) rfl dX9_makeEvent_145 ?_
    refine lv_aload_n hx hb dX9_makeEvent_148 rfl (lv_at hl 0 rfl) ?_
    refine g_get (ci := 9) (C := RX9) (T := TX9) (N := 36) hx hb hts hin9 hown hK hG hk12 (cell_9 hq13) rfl 25 (by decide) lk_205 (fun _ h9 => h9) (v := .int (gX S k0 25)) rfl dX9_makeEvent_149 ?_
    obtain ⟨q14, e15, h⟩ := h
    refine W.eq (g2 := F0 m 152 ls [.int (gX S k0 25), .ref (ad q14)]) (by rw [e15]; rfl) ?_
    obtain ⟨hk16, hq17, h⟩ := h
    obtain ⟨hi18, h⟩ := h
    refine r_iald hx hb hK hG hk16 hq17 hi18 dX9_makeEvent_152 ?_
    refine lv_iconst (v := (-1)) hx hb dX9_makeEvent_153 (by decide) ?_
    refine lv_icmp_eq (tgt := 172) hx hb dX9_makeEvent_154 (by decide) (fun c_154 => ?_) (fun c_154 => ?_)
    · have h := h.1 c_154
      exact b_172 x2 S H locs ls h hsh hG (lv_sub hl [0, 1] rfl)
    · have h := h.2 c_154
      refine lv_aload_n hx hb dX9_makeEvent_157 rfl (lv_at hl 0 rfl) ?_
      refine g_get (ci := 9) (C := RX9) (T := TX9) (N := 36) hx hb hts hin9 hown hK hG hk12 (cell_9 hq13) rfl 11 (by decide) lk_32 (fun _ h9 => h9) (v := rv ad (gR S k0 11)) rfl dX9_makeEvent_158 ?_
      refine lv_aload_n hx hb dX9_makeEvent_161 rfl (lv_at hl 0 rfl) ?_
      refine g_get (ci := 9) (C := RX9) (T := TX9) (N := 36) hx hb hts hin9 hown hK hG hk12 (cell_9 hq13) rfl 24 (by decide) lk_65 (fun _ h9 => h9) (v := rv ad (gR S k0 24)) rfl dX9_makeEvent_162 ?_
      refine lv_aload_n hx hb dX9_makeEvent_165 rfl (lv_at hl 0 rfl) ?_
      refine g_get (ci := 9) (C := RX9) (T := TX9) (N := 36) hx hb hts hin9 hown hK hG hk12 (cell_9 hq13) rfl 25 (by decide) lk_205 (fun _ h9 => h9) (v := .int (gX S k0 25)) rfl dX9_makeEvent_166 ?_
      refine W.eq (g2 := F0 m 169 ls [.int (gX S k0 25), .ref (ad q14), rv ad (gR S k0 11)]) (by rw [e15]; rfl) ?_
      obtain ⟨hi19, h⟩ := h
      refine r_iald hx hb hK hG hk16 hq17 hi19 dX9_makeEvent_169 ?_
      refine lv_iconst (v := 1) hx hb dX9_makeEvent_170 (by decide) ?_
      obtain ⟨q20, e21, h⟩ := h
      refine W.eq (g2 := F0 m 171 ls [.int 1, .int (gX S q14 (Int32.toNatClampNeg (gX S k0 25))), .ref (ad q20)]) (by rw [e21]; rfl) ?_
      obtain ⟨hk22, hq23, h⟩ := h
      obtain ⟨hi24, h⟩ := h
      refine r_iast hx hb hK hG hk22 hq23 hi24 dX9_makeEvent_171 (fun H locs hG => ?_)
      obtain ⟨S25, eS_S25⟩ : ∃ z : GS, z = sX S q20 (Int32.toNatClampNeg (gX S q14 (Int32.toNatClampNeg (gX S k0 25)))) 1 := ⟨_, rfl⟩
      have h := h S25 eS_S25
      rw [← eS_S25] at hG
      have hs_S25 : gSh S25 S := by rw [eS_S25]; exact gSh.x _ _ _ _
      have hsh := hs_S25.tr hsh
      have hk26 := hs_S25.lt hk12
      have hq27 := hs_S25.kd hq13
      have hk28 := hs_S25.lt hk16
      have hq29 := hs_S25.kd hq17
      have hk30 := hs_S25.lt hk22
      have hq31 := hs_S25.kd hq23
      exact b_172 x2 S25 H locs ls h hsh hG (lv_sub hl [0, 1] rfl)
  have b_93 : ∀  (x1 : Int32) (x2 : Int32) (t0 : Option Nat) (t1 : Int32) (t2 : Int32) (S : GS) (H : Heap) (locs : List Loc) (ls : Array Slot), wX9_makeEvent_93 Q k0 x1 x2 t0 t1 t2 S → gSh S S0 → gS D Y ad A s.heap S H locs → lv_has ls 3 [(0, .ref (ad k0)), (1, .int x1), (2, .int x2)] → W p l e (rmD 1) s m args below meth c H locs 0 0 (MQ below (gE D Y za ad S0 s.heap.size (fun r S9 => r = none ∧ Q S9)) args s 0 0 A) (F0 m 93 ls [.int t2, .int t1, rv ad t0]) := by
    intro  x1 x2 t0 t1 t2 S H locs ls h hsh hG hl
    unfold wX9_makeEvent_93 at h
    obtain ⟨q32, e33, h⟩ := h
    refine W.eq (g2 := F0 m 93 ls [.int t2, .int t1, .ref (ad q32)]) (by rw [e33]; rfl) ?_
    obtain ⟨hk34, hq35, h⟩ := h
    obtain ⟨hi36, h⟩ := h
    refine r_iast hx hb hK hG hk34 hq35 hi36 dX9_makeEvent_93 (fun H locs hG => ?_)
    obtain ⟨S37, eS_S37⟩ : ∃ z : GS, z = sX S q32 (Int32.toNatClampNeg t1) t2 := ⟨_, rfl⟩
    have h := h S37 eS_S37
    rw [← eS_S37] at hG
    have hs_S37 : gSh S37 S := by rw [eS_S37]; exact gSh.x _ _ _ _
    have hsh := hs_S37.tr hsh
    have hk38 := hs_S37.lt hk34
    have hq39 := hs_S37.kd hq35
    refine lv_aload_n hx hb dX9_makeEvent_94 rfl (lv_at hl 0 rfl) ?_
    obtain ⟨hk40, hq41, h⟩ := h
    refine g_get (ci := 9) (C := RX9) (T := TX9) (N := 36) hx hb hts hin9 hown hK hG hk40 (cell_9 hq41) rfl 11 (by decide) lk_32 (fun _ h9 => h9) (v := rv ad (gR S37 k0 11)) rfl dX9_makeEvent_95 ?_
    refine lv_aload_n hx hb dX9_makeEvent_98 rfl (lv_at hl 0 rfl) ?_
    refine g_get (ci := 9) (C := RX9) (T := TX9) (N := 36) hx hb hts hin9 hown hK hG hk40 (cell_9 hq41) rfl 21 (by decide) lk_56 (fun _ h9 => h9) (v := rv ad (gR S37 k0 21)) rfl dX9_makeEvent_99 ?_
    refine lv_aload_n hx hb dX9_makeEvent_102 rfl (lv_at hl 0 rfl) ?_
    refine g_get (ci := 9) (C := RX9) (T := TX9) (N := 36) hx hb hts hin9 hown hK hG hk40 (cell_9 hq41) rfl 25 (by decide) lk_205 (fun _ h9 => h9) (v := .int (gX S37 k0 25)) rfl dX9_makeEvent_103 ?_
    obtain ⟨q42, e43, h⟩ := h
    refine W.eq (g2 := F0 m 106 ls [.int (gX S37 k0 25), .ref (ad q42), rv ad (gR S37 k0 11)]) (by rw [e43]; rfl) ?_
    obtain ⟨hk44, hq45, h⟩ := h
    obtain ⟨hi46, h⟩ := h
    refine r_iald hx hb hK hG hk44 hq45 hi46 dX9_makeEvent_106 ?_
    refine lv_iconst (v := 1) hx hb dX9_makeEvent_107 (by decide) ?_
    obtain ⟨q47, e48, h⟩ := h
    refine W.eq (g2 := F0 m 108 ls [.int 1, .int (gX S37 q42 (Int32.toNatClampNeg (gX S37 k0 25))), .ref (ad q47)]) (by rw [e48]; rfl) ?_
    obtain ⟨hk49, hq50, h⟩ := h
    obtain ⟨hi51, h⟩ := h
    refine r_iast hx hb hK hG hk49 hq50 hi51 dX9_makeEvent_108 (fun H locs hG => ?_)
    obtain ⟨S52, eS_S52⟩ : ∃ z : GS, z = sX S37 q47 (Int32.toNatClampNeg (gX S37 q42 (Int32.toNatClampNeg (gX S37 k0 25)))) 1 := ⟨_, rfl⟩
    have h := h S52 eS_S52
    rw [← eS_S52] at hG
    have hs_S52 : gSh S52 S37 := by rw [eS_S52]; exact gSh.x _ _ _ _
    have hsh := hs_S52.tr hsh
    have hk53 := hs_S52.lt hk38
    have hq54 := hs_S52.kd hq39
    have hk55 := hs_S52.lt hk40
    have hq56 := hs_S52.kd hq41
    have hk57 := hs_S52.lt hk44
    have hq58 := hs_S52.kd hq45
    have hk59 := hs_S52.lt hk49
    have hq60 := hs_S52.kd hq50
    refine lv_aload_n hx hb dX9_makeEvent_109 rfl (lv_at hl 0 rfl) ?_
    refine g_get (ci := 9) (C := RX9) (T := TX9) (N := 36) hx hb hts hin9 hown hK hG hk55 (cell_9 hq56) rfl 11 (by decide) lk_32 (fun _ h9 => h9) (v := rv ad (gR S52 k0 11)) rfl dX9_makeEvent_110 ?_
    refine lv_iload_n hx hb dX9_makeEvent_113 rfl (lv_at hl 1 rfl) ?_
    refine lv_iconst (v := 1) hx hb dX9_makeEvent_114 (by decide) ?_
    obtain ⟨q61, e62, h⟩ := h
    refine W.eq (g2 := F0 m 115 ls [.int 1, .int x1, .ref (ad q61)]) (by rw [e62]; rfl) ?_
    obtain ⟨hk63, hq64, h⟩ := h
    obtain ⟨hi65, h⟩ := h
    refine r_iast hx hb hK hG hk63 hq64 hi65 dX9_makeEvent_115 (fun H locs hG => ?_)
    obtain ⟨S66, eS_S66⟩ : ∃ z : GS, z = sX S52 q61 (Int32.toNatClampNeg x1) 1 := ⟨_, rfl⟩
    have h := h S66 eS_S66
    rw [← eS_S66] at hG
    have hs_S66 : gSh S66 S52 := by rw [eS_S66]; exact gSh.x _ _ _ _
    have hsh := hs_S66.tr hsh
    have hk67 := hs_S66.lt hk53
    have hq68 := hs_S66.kd hq54
    have hk69 := hs_S66.lt hk55
    have hq70 := hs_S66.kd hq56
    have hk71 := hs_S66.lt hk57
    have hq72 := hs_S66.kd hq58
    have hk73 := hs_S66.lt hk59
    have hq74 := hs_S66.kd hq60
    have hk75 := hs_S66.lt hk63
    have hq76 := hs_S66.kd hq64
    refine lv_aload_n hx hb dX9_makeEvent_116 rfl (lv_at hl 0 rfl) ?_
    refine g_get (ci := 9) (C := RX9) (T := TX9) (N := 36) hx hb hts hin9 hown hK hG hk69 (cell_9 hq70) rfl 23 (by decide) lk_62 (fun _ h9 => h9) (v := rv ad (gR S66 k0 23)) rfl dX9_makeEvent_117 ?_
    refine lv_aload_n hx hb dX9_makeEvent_120 rfl (lv_at hl 0 rfl) ?_
    refine g_get (ci := 9) (C := RX9) (T := TX9) (N := 36) hx hb hts hin9 hown hK hG hk69 (cell_9 hq70) rfl 25 (by decide) lk_205 (fun _ h9 => h9) (v := .int (gX S66 k0 25)) rfl dX9_makeEvent_121 ?_
    obtain ⟨q77, e78, h⟩ := h
    refine W.eq (g2 := F0 m 124 ls [.int (gX S66 k0 25), .ref (ad q77)]) (by rw [e78]; rfl) ?_
    obtain ⟨hk79, hq80, h⟩ := h
    obtain ⟨hi81, h⟩ := h
    refine r_iald hx hb hK hG hk79 hq80 hi81 dX9_makeEvent_124 ?_
    refine lv_iconst (v := (-1)) hx hb dX9_makeEvent_125 (by decide) ?_
    refine lv_icmp_eq (tgt := 144) hx hb dX9_makeEvent_126 (by decide) (fun c_126 => ?_) (fun c_126 => ?_)
    · have h := h.1 c_126
      exact b_144 x2 S66 H locs ls h hsh hG (lv_sub hl [0, 2] rfl)
    · have h := h.2 c_126
      refine lv_aload_n hx hb dX9_makeEvent_129 rfl (lv_at hl 0 rfl) ?_
      refine g_get (ci := 9) (C := RX9) (T := TX9) (N := 36) hx hb hts hin9 hown hK hG hk69 (cell_9 hq70) rfl 11 (by decide) lk_32 (fun _ h9 => h9) (v := rv ad (gR S66 k0 11)) rfl dX9_makeEvent_130 ?_
      refine lv_aload_n hx hb dX9_makeEvent_133 rfl (lv_at hl 0 rfl) ?_
      refine g_get (ci := 9) (C := RX9) (T := TX9) (N := 36) hx hb hts hin9 hown hK hG hk69 (cell_9 hq70) rfl 23 (by decide) lk_62 (fun _ h9 => h9) (v := rv ad (gR S66 k0 23)) rfl dX9_makeEvent_134 ?_
      refine lv_aload_n hx hb dX9_makeEvent_137 rfl (lv_at hl 0 rfl) ?_
      refine g_get (ci := 9) (C := RX9) (T := TX9) (N := 36) hx hb hts hin9 hown hK hG hk69 (cell_9 hq70) rfl 25 (by decide) lk_205 (fun _ h9 => h9) (v := .int (gX S66 k0 25)) rfl dX9_makeEvent_138 ?_
      refine W.eq (g2 := F0 m 141 ls [.int (gX S66 k0 25), .ref (ad q77), rv ad (gR S66 k0 11)]) (by rw [e78]; rfl) ?_
      obtain ⟨hi82, h⟩ := h
      refine r_iald hx hb hK hG hk79 hq80 hi82 dX9_makeEvent_141 ?_
      refine lv_iconst (v := 1) hx hb dX9_makeEvent_142 (by decide) ?_
      obtain ⟨q83, e84, h⟩ := h
      refine W.eq (g2 := F0 m 143 ls [.int 1, .int (gX S66 q77 (Int32.toNatClampNeg (gX S66 k0 25))), .ref (ad q83)]) (by rw [e84]; rfl) ?_
      obtain ⟨hk85, hq86, h⟩ := h
      obtain ⟨hi87, h⟩ := h
      refine r_iast hx hb hK hG hk85 hq86 hi87 dX9_makeEvent_143 (fun H locs hG => ?_)
      obtain ⟨S88, eS_S88⟩ : ∃ z : GS, z = sX S66 q83 (Int32.toNatClampNeg (gX S66 q77 (Int32.toNatClampNeg (gX S66 k0 25)))) 1 := ⟨_, rfl⟩
      have h := h S88 eS_S88
      rw [← eS_S88] at hG
      have hs_S88 : gSh S88 S66 := by rw [eS_S88]; exact gSh.x _ _ _ _
      have hsh := hs_S88.tr hsh
      have hk89 := hs_S88.lt hk67
      have hq90 := hs_S88.kd hq68
      have hk91 := hs_S88.lt hk69
      have hq92 := hs_S88.kd hq70
      have hk93 := hs_S88.lt hk71
      have hq94 := hs_S88.kd hq72
      have hk95 := hs_S88.lt hk73
      have hq96 := hs_S88.kd hq74
      have hk97 := hs_S88.lt hk75
      have hq98 := hs_S88.kd hq76
      have hk99 := hs_S88.lt hk79
      have hq100 := hs_S88.kd hq80
      have hk101 := hs_S88.lt hk85
      have hq102 := hs_S88.kd hq86
      exact b_144 x2 S88 H locs ls h hsh hG (lv_sub hl [0, 2] rfl)
  have b_71 : ∀  (x1 : Int32) (x2 : Int32) (t0 : Option Nat) (t1 : Int32) (t2 : Int32) (S : GS) (H : Heap) (locs : List Loc) (ls : Array Slot), wX9_makeEvent_71 Q k0 x1 x2 t0 t1 t2 S → gSh S S0 → gS D Y ad A s.heap S H locs → lv_has ls 3 [(0, .ref (ad k0)), (1, .int x1), (2, .int x2)] → W p l e (rmD 1) s m args below meth c H locs 0 0 (MQ below (gE D Y za ad S0 s.heap.size (fun r S9 => r = none ∧ Q S9)) args s 0 0 A) (F0 m 71 ls [.int t2, .int t1, rv ad t0]) := by
    intro  x1 x2 t0 t1 t2 S H locs ls h hsh hG hl
    unfold wX9_makeEvent_71 at h
    obtain ⟨q103, e104, h⟩ := h
    refine W.eq (g2 := F0 m 71 ls [.int t2, .int t1, .ref (ad q103)]) (by rw [e104]; rfl) ?_
    obtain ⟨hk105, hq106, h⟩ := h
    obtain ⟨hi107, h⟩ := h
    refine r_iast hx hb hK hG hk105 hq106 hi107 dX9_makeEvent_71 (fun H locs hG => ?_)
    obtain ⟨S108, eS_S108⟩ : ∃ z : GS, z = sX S q103 (Int32.toNatClampNeg t1) t2 := ⟨_, rfl⟩
    have h := h S108 eS_S108
    rw [← eS_S108] at hG
    have hs_S108 : gSh S108 S := by rw [eS_S108]; exact gSh.x _ _ _ _
    have hsh := hs_S108.tr hsh
    have hk109 := hs_S108.lt hk105
    have hq110 := hs_S108.kd hq106
    refine lv_aload_n hx hb dX9_makeEvent_72 rfl (lv_at hl 0 rfl) ?_
    obtain ⟨hk111, hq112, h⟩ := h
    refine g_get (ci := 9) (C := RX9) (T := TX9) (N := 36) hx hb hts hin9 hown hK hG hk111 (cell_9 hq112) rfl 24 (by decide) lk_65 (fun _ h9 => h9) (v := rv ad (gR S108 k0 24)) rfl dX9_makeEvent_73 ?_
    refine lv_aload_n hx hb dX9_makeEvent_76 rfl (lv_at hl 0 rfl) ?_
    refine g_get (ci := 9) (C := RX9) (T := TX9) (N := 36) hx hb hts hin9 hown hK hG hk111 (cell_9 hq112) rfl 25 (by decide) lk_205 (fun _ h9 => h9) (v := .int (gX S108 k0 25)) rfl dX9_makeEvent_77 ?_
    refine lv_iload_n hx hb dX9_makeEvent_80 rfl (lv_at hl 2 rfl) ?_
    refine lv_if_eq (tgt := 92) hx hb dX9_makeEvent_81 (by decide) (fun c_81 => ?_) (fun c_81 => ?_)
    · have h := h.1 c_81
      refine lv_iconst (v := (-1)) hx hb dX9_makeEvent_92 (by decide) ?_
      exact b_93 x1 x2 (gR S108 k0 24) (gX S108 k0 25) (-1) S108 H locs ls h hsh hG (lv_sub hl [0, 1, 2] rfl)
    · have h := h.2 c_81
      refine lv_aload_n hx hb dX9_makeEvent_84 rfl (lv_at hl 0 rfl) ?_
      refine lv_iconst (v := 3) hx hb dX9_makeEvent_85 (by decide) ?_
      refine r_callV (za := za) (k := k0) (ci := 9) (C := RX9) (T := TX9) (N := 36) (As := [vI 3]) (rest := [.int (gX S108 k0 25), rv ad (gR S108 k0 24)]) (tX9_ofOpenPause l S108 k0 3 _ h) ⟨hx, hb, hml, hown, hts⟩ (cwV 1 hts gX9_makeEvent_X9_ofOpenPause rfl rfl rfl (by decide +kernel) ⟨by decide, by decide⟩) hK hG hA hk111 (cell_9 hq112) rfl rfl hl.1 rfl (by simp only [List.map_cons, List.map_nil, List.sum_cons, List.sum_nil, rv_cat, cat_i, cat_l, cat_d, cat_r, cat_n]; decide) ⟨Nat.le_refl _, Nat.le_refl _⟩ dX9_makeEvent_86 (fun r_9 S113 H locs hp hs_S113 hG => ?_)
      obtain ⟨u114, rfl, h⟩ := hp
      have h := h hs_S113
      refine W.eq (g2 := F0 m 89 ls [.int u114, .int (gX S108 k0 25), rv ad (gR S108 k0 24)]) rfl ?_
      have hsh := hs_S113.tr hsh
      have hk115 := hs_S113.lt hk109
      have hq116 := hs_S113.kd hq110
      have hk117 := hs_S113.lt hk111
      have hq118 := hs_S113.kd hq112
      refine lv_goto (tgt := 93) hx hb dX9_makeEvent_89 (by decide) ?_
      exact b_93 x1 x2 (gR S108 k0 24) (gX S108 k0 25) u114 S113 H locs ls h hsh hG (lv_sub hl [0, 1, 2] rfl)
  have b_39 : ∀  (x1 : Int32) (x2 : Int32) (t0 : Option Nat) (t1 : Int32) (t2 : Int32) (S : GS) (H : Heap) (locs : List Loc) (ls : Array Slot), wX9_makeEvent_39 Q k0 x1 x2 t0 t1 t2 S → gSh S S0 → gS D Y ad A s.heap S H locs → lv_has ls 3 [(0, .ref (ad k0)), (1, .int x1), (2, .int x2)] → W p l e (rmD 1) s m args below meth c H locs 0 0 (MQ below (gE D Y za ad S0 s.heap.size (fun r S9 => r = none ∧ Q S9)) args s 0 0 A) (F0 m 39 ls [.int t2, .int t1, rv ad t0]) := by
    intro  x1 x2 t0 t1 t2 S H locs ls h hsh hG hl
    unfold wX9_makeEvent_39 at h
    obtain ⟨q119, e120, h⟩ := h
    refine W.eq (g2 := F0 m 39 ls [.int t2, .int t1, .ref (ad q119)]) (by rw [e120]; rfl) ?_
    obtain ⟨hk121, hq122, h⟩ := h
    obtain ⟨hi123, h⟩ := h
    refine r_iast hx hb hK hG hk121 hq122 hi123 dX9_makeEvent_39 (fun H locs hG => ?_)
    obtain ⟨S124, eS_S124⟩ : ∃ z : GS, z = sX S q119 (Int32.toNatClampNeg t1) t2 := ⟨_, rfl⟩
    have h := h S124 eS_S124
    rw [← eS_S124] at hG
    have hs_S124 : gSh S124 S := by rw [eS_S124]; exact gSh.x _ _ _ _
    have hsh := hs_S124.tr hsh
    have hk125 := hs_S124.lt hk121
    have hq126 := hs_S124.kd hq122
    refine lv_aload_n hx hb dX9_makeEvent_40 rfl (lv_at hl 0 rfl) ?_
    obtain ⟨hk127, hq128, h⟩ := h
    refine g_get (ci := 9) (C := RX9) (T := TX9) (N := 36) hx hb hts hin9 hown hK hG hk127 (cell_9 hq128) rfl 22 (by decide) lk_59 (fun _ h9 => h9) (v := rv ad (gR S124 k0 22)) rfl dX9_makeEvent_41 ?_
    refine lv_aload_n hx hb dX9_makeEvent_44 rfl (lv_at hl 0 rfl) ?_
    refine g_get (ci := 9) (C := RX9) (T := TX9) (N := 36) hx hb hts hin9 hown hK hG hk127 (cell_9 hq128) rfl 25 (by decide) lk_205 (fun _ h9 => h9) (v := .int (gX S124 k0 25)) rfl dX9_makeEvent_45 ?_
    refine lv_iload_n hx hb dX9_makeEvent_48 rfl (lv_at hl 1 rfl) ?_
    obtain ⟨q129, e130, h⟩ := h
    refine W.eq (g2 := F0 m 49 ls [.int x1, .int (gX S124 k0 25), .ref (ad q129)]) (by rw [e130]; rfl) ?_
    obtain ⟨hk131, hq132, h⟩ := h
    obtain ⟨hi133, h⟩ := h
    refine r_iast hx hb hK hG hk131 hq132 hi133 dX9_makeEvent_49 (fun H locs hG => ?_)
    obtain ⟨S134, eS_S134⟩ : ∃ z : GS, z = sX S124 q129 (Int32.toNatClampNeg (gX S124 k0 25)) x1 := ⟨_, rfl⟩
    have h := h S134 eS_S134
    rw [← eS_S134] at hG
    have hs_S134 : gSh S134 S124 := by rw [eS_S134]; exact gSh.x _ _ _ _
    have hsh := hs_S134.tr hsh
    have hk135 := hs_S134.lt hk125
    have hq136 := hs_S134.kd hq126
    have hk137 := hs_S134.lt hk127
    have hq138 := hs_S134.kd hq128
    have hk139 := hs_S134.lt hk131
    have hq140 := hs_S134.kd hq132
    refine lv_aload_n hx hb dX9_makeEvent_50 rfl (lv_at hl 0 rfl) ?_
    refine g_get (ci := 9) (C := RX9) (T := TX9) (N := 36) hx hb hts hin9 hown hK hG hk137 (cell_9 hq138) rfl 23 (by decide) lk_62 (fun _ h9 => h9) (v := rv ad (gR S134 k0 23)) rfl dX9_makeEvent_51 ?_
    refine lv_aload_n hx hb dX9_makeEvent_54 rfl (lv_at hl 0 rfl) ?_
    refine g_get (ci := 9) (C := RX9) (T := TX9) (N := 36) hx hb hts hin9 hown hK hG hk137 (cell_9 hq138) rfl 25 (by decide) lk_205 (fun _ h9 => h9) (v := .int (gX S134 k0 25)) rfl dX9_makeEvent_55 ?_
    refine lv_iload_n hx hb dX9_makeEvent_58 rfl (lv_at hl 2 rfl) ?_
    refine lv_if_eq (tgt := 70) hx hb dX9_makeEvent_59 (by decide) (fun c_59 => ?_) (fun c_59 => ?_)
    · have h := h.1 c_59
      refine lv_iconst (v := (-1)) hx hb dX9_makeEvent_70 (by decide) ?_
      exact b_71 x1 x2 (gR S134 k0 23) (gX S134 k0 25) (-1) S134 H locs ls h hsh hG (lv_sub hl [0, 1, 2] rfl)
    · have h := h.2 c_59
      refine lv_aload_n hx hb dX9_makeEvent_62 rfl (lv_at hl 0 rfl) ?_
      refine lv_iconst (v := 2) hx hb dX9_makeEvent_63 (by decide) ?_
      refine r_callV (za := za) (k := k0) (ci := 9) (C := RX9) (T := TX9) (N := 36) (As := [vI 2]) (rest := [.int (gX S134 k0 25), rv ad (gR S134 k0 23)]) (tX9_ofOpenPause l S134 k0 2 _ h) ⟨hx, hb, hml, hown, hts⟩ (cwV 1 hts gX9_makeEvent_X9_ofOpenPause rfl rfl rfl (by decide +kernel) ⟨by decide, by decide⟩) hK hG hA hk137 (cell_9 hq138) rfl rfl hl.1 rfl (by simp only [List.map_cons, List.map_nil, List.sum_cons, List.sum_nil, rv_cat, cat_i, cat_l, cat_d, cat_r, cat_n]; decide) ⟨Nat.le_refl _, Nat.le_refl _⟩ dX9_makeEvent_64 (fun r_9 S141 H locs hp hs_S141 hG => ?_)
      obtain ⟨u142, rfl, h⟩ := hp
      have h := h hs_S141
      refine W.eq (g2 := F0 m 67 ls [.int u142, .int (gX S134 k0 25), rv ad (gR S134 k0 23)]) rfl ?_
      have hsh := hs_S141.tr hsh
      have hk143 := hs_S141.lt hk135
      have hq144 := hs_S141.kd hq136
      have hk145 := hs_S141.lt hk137
      have hq146 := hs_S141.kd hq138
      have hk147 := hs_S141.lt hk139
      have hq148 := hs_S141.kd hq140
      refine lv_goto (tgt := 71) hx hb dX9_makeEvent_67 (by decide) ?_
      exact b_71 x1 x2 (gR S134 k0 23) (gX S134 k0 25) u142 S141 H locs ls h hsh hG (lv_sub hl [0, 1, 2] rfl)
  have b_15 : ∀  (x1 : Int32) (t0 : Int32) (S : GS) (H : Heap) (locs : List Loc) (ls : Array Slot), wX9_makeEvent_15 Q k0 x1 t0 S → gSh S S0 → gS D Y ad A s.heap S H locs → lv_has ls 3 [(0, .ref (ad k0)), (1, .int x1)] → W p l e (rmD 1) s m args below meth c H locs 0 0 (MQ below (gE D Y za ad S0 s.heap.size (fun r S9 => r = none ∧ Q S9)) args s 0 0 A) (F0 m 15 ls [.int t0]) := by
    intro  x1 t0 S H locs ls h hsh hG hl
    unfold wX9_makeEvent_15 at h
    refine lv_istore_n (lv' := [(2, .int t0), (0, .ref (ad k0)), (1, .int x1)]) hx hb dX9_makeEvent_15 rfl hl (by decide) rfl (fun ls hl => ?_)
    refine lv_aload_n hx hb dX9_makeEvent_16 rfl (lv_at hl 1 rfl) ?_
    obtain ⟨hk149, hq150, h⟩ := h
    refine g_get (ci := 9) (C := RX9) (T := TX9) (N := 36) hx hb hts hin9 hown hK hG hk149 (cell_9 hq150) rfl 21 (by decide) lk_56 (fun _ h9 => h9) (v := rv ad (gR S k0 21)) rfl dX9_makeEvent_17 ?_
    refine lv_aload_n hx hb dX9_makeEvent_20 rfl (lv_at hl 1 rfl) ?_
    refine g_get (ci := 9) (C := RX9) (T := TX9) (N := 36) hx hb hts hin9 hown hK hG hk149 (cell_9 hq150) rfl 25 (by decide) lk_205 (fun _ h9 => h9) (v := .int (gX S k0 25)) rfl dX9_makeEvent_21 ?_
    refine lv_iload_n hx hb dX9_makeEvent_24 rfl (lv_at hl 0 rfl) ?_
    refine lv_if_eq (tgt := 35) hx hb dX9_makeEvent_25 (by decide) (fun c_25 => ?_) (fun c_25 => ?_)
    · have h := h.1 c_25
      refine lv_aload_n hx hb dX9_makeEvent_35 rfl (lv_at hl 1 rfl) ?_
      refine g_get (ci := 9) (C := RX9) (T := TX9) (N := 36) hx hb hts hin9 hown hK hG hk149 (cell_9 hq150) rfl 31 (by decide) lk_81 (fun _ h9 => h9) (v := .int (gX S k0 31)) rfl dX9_makeEvent_36 ?_
      exact b_39 x1 t0 (gR S k0 21) (gX S k0 25) (gX S k0 31) S H locs ls h hsh hG (lv_sub hl [1, 2, 0] rfl)
    · have h := h.2 c_25
      refine lv_aload_n hx hb dX9_makeEvent_28 rfl (lv_at hl 1 rfl) ?_
      refine g_get (ci := 9) (C := RX9) (T := TX9) (N := 36) hx hb hts hin9 hown hK hG hk149 (cell_9 hq150) rfl 30 (by decide) lk_77 (fun _ h9 => h9) (v := .int (gX S k0 30)) rfl dX9_makeEvent_29 ?_
      refine lv_goto (tgt := 39) hx hb dX9_makeEvent_32 (by decide) ?_
      exact b_39 x1 t0 (gR S k0 21) (gX S k0 25) (gX S k0 30) S H locs ls h hsh hG (lv_sub hl [1, 2, 0] rfl)
  have hl : lv_has ls 3 [(0, .ref (ad k0)), (1, .int x1)] := hl
  have hsh : gSh S S0 := by rw [hS0]; exact gSh.rf S
  obtain ⟨H, eH⟩ : ∃ z : Heap, z = s.heap := ⟨_, rfl⟩
  obtain ⟨locs, eL⟩ : ∃ z : List Loc, z = [] := ⟨_, rfl⟩
  have hG : gS D Y ad A s.heap S H locs := by rw [eH, eL]; exact hG
  suffices hgoal : W p l e (rmD 1) s m args below meth c H locs 0 0 (MQ below (gE D Y za ad S0 s.heap.size (fun r S9 => r = none ∧ Q S9)) args s 0 0 A) (F0 m 0 ls []) by rw [eH, eL] at hgoal; exact hgoal
  unfold wX9_makeEvent at h
  refine lv_aload_n hx hb dX9_makeEvent_0 rfl (lv_at hl 0 rfl) ?_
  obtain ⟨hk151, hq152, h⟩ := h
  refine g_get (ci := 9) (C := RX9) (T := TX9) (N := 36) hx hb hts hin9 hown hK hG hk151 (cell_9 hq152) rfl 12 (by decide) lk_35 (fun _ h9 => h9) (v := rv ad (gR S k0 12)) rfl dX9_makeEvent_1 ?_
  refine lv_iload_n hx hb dX9_makeEvent_4 rfl (lv_at hl 1 rfl) ?_
  obtain ⟨q153, e154, h⟩ := h
  refine W.eq (g2 := F0 m 5 ls [.int x1, .ref (ad q153)]) (by rw [e154]; rfl) ?_
  obtain ⟨hk155, hq156, h⟩ := h
  obtain ⟨hi157, h⟩ := h
  refine r_iald hx hb hK hG hk155 hq156 hi157 dX9_makeEvent_5 ?_
  refine lv_iconst (v := 1) hx hb dX9_makeEvent_6 (by decide) ?_
  refine lv_icmp_ne (tgt := 14) hx hb dX9_makeEvent_7 (by decide) (fun c_7 => ?_) (fun c_7 => ?_)
  · have h := h.1 c_7
    refine lv_iconst (v := 0) hx hb dX9_makeEvent_14 (by decide) ?_
    exact b_15 x1 0 S H locs ls h hsh hG (lv_sub hl [0, 1] rfl)
  · have h := h.2 c_7
    refine lv_iconst (v := 1) hx hb dX9_makeEvent_10 (by decide) ?_
    refine lv_goto (tgt := 15) hx hb dX9_makeEvent_11 (by decide) ?_
    exact b_15 x1 1 S H locs ls h hsh hG (lv_sub hl [0, 1] rfl)
def wX9_line_115 (Q : Int32 → GS → Prop) (k0 : Nat) (x3 : Int32) (t0 : Nat) (t1 : Int32) (t2 : Int32) (t3 : Int32) (S : GS) : Prop :=
  t0 < gN S ∧ gK S t0 = 9 ∧ wX9_diagnose S t0 t1 t2 t3 (fun S3 => gSh S3 S → Q (-x3) S3)
def wX9_line_190 (Q : Int32 → GS → Prop) (k0 : Nat) (x1 : Int32) (S : GS) : Prop :=
  k0 < gN S ∧ gK S k0 = 9 ∧ wX9_makeEvent S k0 x1 (fun S9 => gSh S9 S → Q 1 S9)
def wX9_line_157 (Q : Int32 → GS → Prop) (k0 : Nat) (x1 : Int32) (S : GS) : Prop :=
  k0 < gN S ∧ gK S k0 = 9 ∧ ∃ q15 : Nat, gR S k0 12 = some q15 ∧ q15 < gN S ∧ gK S q15 = 11 ∧ vp_in x1 (gL S q15) ∧ ((gX S q15 (Int32.toNatClampNeg x1)) = 1 → wX9_line_190 Q k0 x1 S) ∧ (¬ (gX S q15 (Int32.toNatClampNeg x1)) = 1 → vp_in x1 (gL S q15) ∧ ((gX S q15 (Int32.toNatClampNeg x1)) = 5 → wX9_line_190 Q k0 x1 S) ∧ (¬ (gX S q15 (Int32.toNatClampNeg x1)) = 5 → vp_in x1 (gL S q15) ∧ ((gX S q15 (Int32.toNatClampNeg x1)) = 6 → wX9_line_190 Q k0 x1 S) ∧ (¬ (gX S q15 (Int32.toNatClampNeg x1)) = 6 → Q 0 S)))
def wX9_line_142 (Q : Int32 → GS → Prop) (k0 : Nat) (x1 : Int32) (S : GS) : Prop :=
  k0 < gN S ∧ gK S k0 = 9 ∧ ∃ q24 : Nat, gR S k0 12 = some q24 ∧ q24 < gN S ∧ gK S q24 = 11 ∧ vp_in x1 (gL S q24) ∧ (¬ (gX S q24 (Int32.toNatClampNeg x1)) = 4 → wX9_line_157 Q k0 x1 S) ∧ ((gX S q24 (Int32.toNatClampNeg x1)) = 4 → ∀ S29 : GS, S29 = sX S k0 31 x1 → wX9_line_157 Q k0 x1 S29)
def wX9_line_87 (Q : Int32 → GS → Prop) (k0 : Nat) (x1 : Int32) (x2 : Int32) (x3 : Int32) (t0 : Option Nat) (t1 : Int32) (t2 : Int32) (S : GS) : Prop :=
  ∃ q34 : Nat, t0 = some q34 ∧ q34 < gN S ∧ gK S q34 = 12 ∧ vp_in t1 (gL S q34) ∧ ∀ S39 : GS, S39 = sX S q34 (Int32.toNatClampNeg t1) (vp_nar .boolean t2) → k0 < gN S39 ∧ gK S39 k0 = 9 ∧ ∀ S44 : GS, S44 = sX S39 k0 19 ((gX S39 k0 19) + 1) → (x3 = 0 → ∃ q49 : Nat, gR S44 k0 11 = some q49 ∧ q49 < gN S44 ∧ gK S44 q49 = 11 ∧ vp_in x1 (gL S44 q49) ∧ ∀ S54 : GS, S54 = sX S44 q49 (Int32.toNatClampNeg x1) 0 → ∃ q61 : Nat, gR S54 k0 12 = some q61 ∧ q61 < gN S54 ∧ gK S54 q61 = 11 ∧ vp_in x1 (gL S54 q61) ∧ (¬ (gX S54 q61 (Int32.toNatClampNeg x1)) = 0 → wX9_line_142 Q k0 x1 S54) ∧ ((gX S54 q61 (Int32.toNatClampNeg x1)) = 0 → ∀ S66 : GS, S66 = sX S54 k0 30 x1 → wX9_line_142 Q k0 x1 S66)) ∧ (¬ x3 = 0 → (¬ x3 = 1 → wX9_line_115 Q k0 x3 k0 x3 x1 0 S44) ∧ (x3 = 1 → wX9_line_115 Q k0 x3 k0 x3 x1 x2 S44))
def wX9_line_72 (Q : Int32 → GS → Prop) (k0 : Nat) (x1 : Int32) (x2 : Int32) (x3 : Int32) (t0 : Option Nat) (t1 : Int32) (t2 : Int32) (S : GS) : Prop :=
  ∃ q75 : Nat, t0 = some q75 ∧ q75 < gN S ∧ gK S q75 = 12 ∧ vp_in t1 (gL S q75) ∧ ∀ S80 : GS, S80 = sX S q75 (Int32.toNatClampNeg t1) (vp_nar .boolean t2) → k0 < gN S80 ∧ gK S80 k0 = 9 ∧ (¬ x3 = 0 → wX9_line_87 Q k0 x1 x2 x3 (gR S80 k0 10) x1 0 S80) ∧ (x3 = 0 → wX9_line_87 Q k0 x1 x2 x3 (gR S80 k0 10) x1 1 S80)
def wX9_line_71 (Q : Int32 → GS → Prop) (k0 : Nat) (x1 : Int32) (x2 : Int32) (x3 : Int32) (t0 : Option Nat) (t1 : Int32) (S : GS) : Prop :=
  wX9_line_72 Q k0 x1 x2 x3 t0 t1 0 S
def wX9_line_51 (Q : Int32 → GS → Prop) (k0 : Nat) (x1 : Int32) (x2 : Int32) (t0 : Int32) (S : GS) : Prop :=
  k0 < gN S ∧ gK S k0 = 9 ∧ (t0 = 1 → wX9_line_71 Q k0 x1 x2 t0 (gR S k0 9) x1 S) ∧ (¬ t0 = 1 → (t0 = 2 → wX9_line_71 Q k0 x1 x2 t0 (gR S k0 9) x1 S) ∧ (¬ t0 = 2 → wX9_line_72 Q k0 x1 x2 t0 (gR S k0 9) x1 1 S))
def wX9_line (S : GS) (k0 : Nat) (Q : Int32 → GS → Prop) : Prop :=
  k0 < gN S ∧ gK S k0 = 9 ∧ ∀ S89 : GS, S89 = sX S k0 32 0 → wX9_read S89 k0  (fun u93 S92 => gSh S92 S89 → ∀ S96 : GS, S96 = sX S92 k0 1 0 → ∃ q99 : Nat, gR S96 k0 8 = some q99 ∧ q99 < gN S96 ∧ gK S96 q99 = 11 ∧ vp_in (gX S89 k0 19) (gL S96 q99) ∧ ∀ S104 : GS, S104 = sX S96 q99 (Int32.toNatClampNeg (gX S89 k0 19)) (gX S96 k0 20) → ∃ q109 : Nat, gR S104 k0 10 = some q109 ∧ q109 < gN S104 ∧ gK S104 q109 = 12 ∧ vp_in (gX S89 k0 19) (gL S104 q109) ∧ ∀ S114 : GS, S114 = sX S104 q109 (Int32.toNatClampNeg (gX S89 k0 19)) (vp_nar .boolean 0) → (¬ u93 = (-1) → wX9_line_51 Q k0 (gX S89 k0 19) u93 1 S114) ∧ (u93 = (-1) → wX9_wrongWith S114 k0 (gX S89 k0 19) (fun u122 S121 => gSh S121 S114 → wX9_line_51 Q k0 (gX S89 k0 19) u93 u122 S121)))
set_option maxHeartbeats 4000000 in
set_option maxRecDepth 100000 in
theorem tX9_line (l : Launch) (S : GS) (k0 : Nat) (Q : Int32 → GS → Prop) (h : wX9_line S k0 Q) : CS l yX9_line wsX9_line 5 S [vR (some k0)] (fun r S9 => ∃ x, r = some (vI x) ∧ Q x S9) := by
  refine CS.ofW (cc := cX9_line) (maxL := 4) (ret := (some .int)) RX9 (by decide) rfl rfl (fun _ _ => Nat.le_of_ble_eq_true rfl) ?_
  intro p e s m args below meth c D Y za ad A ls hAe hx hb hr hml hts hown hlocks hK hA hG hl
  obtain ⟨S0, hS0⟩ : ∃ z : GS, z = S := ⟨_, rfl⟩
  rw [← hS0] at hAe
  rw [← hS0]
  have hin9 : ∀ w ∈ wsX90, w ∈ wsX9_line := by decide +kernel
  have lk_84 := hts (.fieldLink RX9 84 "PauseLogModel" "thrown" "I") (by decide +kernel)
  have lk_175 := hts (.fieldLink RX9 175 "PauseLogModel" "lines" "I") (by decide +kernel)
  have lk_143 := hts (.fieldLink RX9 143 "PauseLogModel" "padLong" "I") (by decide +kernel)
  have lk_22 := hts (.fieldLink RX9 22 "PauseLogModel" "log" "[I") (by decide +kernel)
  have lk_182 := hts (.fieldLink RX9 182 "PauseLogModel" "logs" "I") (by decide +kernel)
  have lk_29 := hts (.fieldLink RX9 29 "PauseLogModel" "taken" "[Z") (by decide +kernel)
  have lk_25 := hts (.fieldLink RX9 25 "PauseLogModel" "inTime" "[Z") (by decide +kernel)
  have lk_32 := hts (.fieldLink RX9 32 "PauseLogModel" "owner" "[I") (by decide +kernel)
  have lk_35 := hts (.fieldLink RX9 35 "PauseLogModel" "shape" "[I") (by decide +kernel)
  have lk_77 := hts (.fieldLink RX9 77 "PauseLogModel" "openPause" "I") (by decide +kernel)
  have lk_81 := hts (.fieldLink RX9 81 "PauseLogModel" "openMark" "I") (by decide +kernel)
  have b_115 : ∀  (x3 : Int32) (t0 : Nat) (t1 : Int32) (t2 : Int32) (t3 : Int32) (S : GS) (H : Heap) (locs : List Loc) (ls : Array Slot), wX9_line_115 Q k0 x3 t0 t1 t2 t3 S → gSh S S0 → gS D Y ad A s.heap S H locs → lv_has ls 4 [(3, .int x3)] → W p l e (rmD 5) s m args below meth c H locs 0 0 (MQ below (gE D Y za ad S0 s.heap.size (fun r S9 => ∃ x, r = some (vI x) ∧ Q x S9)) args s 0 0 A) (F0 m 115 ls [.int t3, .int t2, .int t1, .ref (ad t0)]) := by
    intro  x3 t0 t1 t2 t3 S H locs ls h hsh hG hl
    unfold wX9_line_115 at h
    obtain ⟨hk1, hq2, h⟩ := h
    refine r_callV (za := za) (k := t0) (ci := 9) (C := RX9) (T := TX9) (N := 36) (As := [vI t1, vI t2, vI t3]) (rest := []) (tX9_diagnose l S t0 t1 t2 t3 _ h) ⟨hx, hb, hml, hown, hts⟩ (cwV 3 hts gX9_line_X9_diagnose rfl rfl rfl (by decide +kernel) ⟨by decide, by decide⟩) hK hG hA hk1 (cell_9 hq2) rfl rfl hl.1 rfl (Nat.le_of_ble_eq_true rfl) ⟨Nat.le_refl _, Nat.le_refl _⟩ dX9_line_115 (fun r_9 S3 H locs hp hs_S3 hG => ?_)
    obtain ⟨rfl, h⟩ := hp
    have h := h hs_S3
    refine W.eq (g2 := F0 m 118 ls []) rfl ?_
    have hsh := hs_S3.tr hsh
    have hk5 := hs_S3.lt hk1
    have hq6 := hs_S3.kd hq2
    refine lv_iload_n hx hb dX9_line_118 rfl (lv_at hl 0 rfl) ?_
    refine lv_ineg hx hb dX9_line_119 ?_
    exact W.iret (v := -x3) hx hb hr (fun t ht hW => r_end (r := some (vI (-x3))) hAe hG hsh ⟨_, rfl, h⟩ rfl ht) hG.2.2.2.2 dX9_line_120
  have b_190 : ∀  (x1 : Int32) (S : GS) (H : Heap) (locs : List Loc) (ls : Array Slot), wX9_line_190 Q k0 x1 S → gSh S S0 → gS D Y ad A s.heap S H locs → lv_has ls 4 [(0, .ref (ad k0)), (1, .int x1)] → W p l e (rmD 5) s m args below meth c H locs 0 0 (MQ below (gE D Y za ad S0 s.heap.size (fun r S9 => ∃ x, r = some (vI x) ∧ Q x S9)) args s 0 0 A) (F0 m 190 ls []) := by
    intro  x1 S H locs ls h hsh hG hl
    unfold wX9_line_190 at h
    refine lv_aload_n hx hb dX9_line_190 rfl (lv_at hl 0 rfl) ?_
    refine lv_iload_n hx hb dX9_line_191 rfl (lv_at hl 1 rfl) ?_
    obtain ⟨hk7, hq8, h⟩ := h
    refine r_callV (za := za) (k := k0) (ci := 9) (C := RX9) (T := TX9) (N := 36) (As := [vI x1]) (rest := []) (tX9_makeEvent l S k0 x1 _ h) ⟨hx, hb, hml, hown, hts⟩ (cwV 1 hts gX9_line_X9_makeEvent rfl rfl rfl (by decide +kernel) ⟨by decide, by decide⟩) hK hG hA hk7 (cell_9 hq8) rfl rfl hl.1 rfl (Nat.le_of_ble_eq_true rfl) ⟨Nat.le_refl _, Nat.le_refl _⟩ dX9_line_192 (fun r_9 S9 H locs hp hs_S9 hG => ?_)
    obtain ⟨rfl, h⟩ := hp
    have h := h hs_S9
    refine W.eq (g2 := F0 m 195 ls []) rfl ?_
    have hsh := hs_S9.tr hsh
    have hk11 := hs_S9.lt hk7
    have hq12 := hs_S9.kd hq8
    refine lv_iconst (v := 1) hx hb dX9_line_195 (by decide) ?_
    exact W.iret (v := 1) hx hb hr (fun t ht hW => r_end (r := some (vI 1)) hAe hG hsh ⟨_, rfl, h⟩ rfl ht) hG.2.2.2.2 dX9_line_196
  have b_157 : ∀  (x1 : Int32) (S : GS) (H : Heap) (locs : List Loc) (ls : Array Slot), wX9_line_157 Q k0 x1 S → gSh S S0 → gS D Y ad A s.heap S H locs → lv_has ls 4 [(0, .ref (ad k0)), (1, .int x1)] → W p l e (rmD 5) s m args below meth c H locs 0 0 (MQ below (gE D Y za ad S0 s.heap.size (fun r S9 => ∃ x, r = some (vI x) ∧ Q x S9)) args s 0 0 A) (F0 m 157 ls []) := by
    intro  x1 S H locs ls h hsh hG hl
    unfold wX9_line_157 at h
    refine lv_aload_n hx hb dX9_line_157 rfl (lv_at hl 0 rfl) ?_
    obtain ⟨hk13, hq14, h⟩ := h
    refine g_get (ci := 9) (C := RX9) (T := TX9) (N := 36) hx hb hts hin9 hown hK hG hk13 (cell_9 hq14) rfl 12 (by decide) lk_35 (fun _ h9 => h9) (v := rv ad (gR S k0 12)) rfl dX9_line_158 ?_
    refine lv_iload_n hx hb dX9_line_161 rfl (lv_at hl 1 rfl) ?_
    obtain ⟨q15, e16, h⟩ := h
    refine W.eq (g2 := F0 m 162 ls [.int x1, .ref (ad q15)]) (by rw [e16]; rfl) ?_
    obtain ⟨hk17, hq18, h⟩ := h
    obtain ⟨hi19, h⟩ := h
    refine r_iald hx hb hK hG hk17 hq18 hi19 dX9_line_162 ?_
    refine lv_iconst (v := 1) hx hb dX9_line_163 (by decide) ?_
    refine lv_icmp_eq (tgt := 190) hx hb dX9_line_164 (by decide) (fun c_164 => ?_) (fun c_164 => ?_)
    · have h := h.1 c_164
      exact b_190 x1 S H locs ls h hsh hG (lv_sub hl [0, 1] rfl)
    · have h := h.2 c_164
      refine lv_aload_n hx hb dX9_line_167 rfl (lv_at hl 0 rfl) ?_
      refine g_get (ci := 9) (C := RX9) (T := TX9) (N := 36) hx hb hts hin9 hown hK hG hk13 (cell_9 hq14) rfl 12 (by decide) lk_35 (fun _ h9 => h9) (v := rv ad (gR S k0 12)) rfl dX9_line_168 ?_
      refine lv_iload_n hx hb dX9_line_171 rfl (lv_at hl 1 rfl) ?_
      refine W.eq (g2 := F0 m 172 ls [.int x1, .ref (ad q15)]) (by rw [e16]; rfl) ?_
      obtain ⟨hi20, h⟩ := h
      refine r_iald hx hb hK hG hk17 hq18 hi20 dX9_line_172 ?_
      refine lv_iconst (v := 5) hx hb dX9_line_173 (by decide) ?_
      refine lv_icmp_eq (tgt := 190) hx hb dX9_line_174 (by decide) (fun c_174 => ?_) (fun c_174 => ?_)
      · have h := h.1 c_174
        exact b_190 x1 S H locs ls h hsh hG (lv_sub hl [0, 1] rfl)
      · have h := h.2 c_174
        refine lv_aload_n hx hb dX9_line_177 rfl (lv_at hl 0 rfl) ?_
        refine g_get (ci := 9) (C := RX9) (T := TX9) (N := 36) hx hb hts hin9 hown hK hG hk13 (cell_9 hq14) rfl 12 (by decide) lk_35 (fun _ h9 => h9) (v := rv ad (gR S k0 12)) rfl dX9_line_178 ?_
        refine lv_iload_n hx hb dX9_line_181 rfl (lv_at hl 1 rfl) ?_
        refine W.eq (g2 := F0 m 182 ls [.int x1, .ref (ad q15)]) (by rw [e16]; rfl) ?_
        obtain ⟨hi21, h⟩ := h
        refine r_iald hx hb hK hG hk17 hq18 hi21 dX9_line_182 ?_
        refine lv_bipush (v := 6) hx hb dX9_line_183 (by decide) ?_
        refine lv_icmp_eq (tgt := 190) hx hb dX9_line_185 (by decide) (fun c_185 => ?_) (fun c_185 => ?_)
        · have h := h.1 c_185
          exact b_190 x1 S H locs ls h hsh hG (lv_sub hl [0, 1] rfl)
        · have h := h.2 c_185
          refine lv_iconst (v := 0) hx hb dX9_line_188 (by decide) ?_
          exact W.iret (v := 0) hx hb hr (fun t ht hW => r_end (r := some (vI 0)) hAe hG hsh ⟨_, rfl, h⟩ rfl ht) hG.2.2.2.2 dX9_line_189
  have b_142 : ∀  (x1 : Int32) (S : GS) (H : Heap) (locs : List Loc) (ls : Array Slot), wX9_line_142 Q k0 x1 S → gSh S S0 → gS D Y ad A s.heap S H locs → lv_has ls 4 [(0, .ref (ad k0)), (1, .int x1)] → W p l e (rmD 5) s m args below meth c H locs 0 0 (MQ below (gE D Y za ad S0 s.heap.size (fun r S9 => ∃ x, r = some (vI x) ∧ Q x S9)) args s 0 0 A) (F0 m 142 ls []) := by
    intro  x1 S H locs ls h hsh hG hl
    unfold wX9_line_142 at h
    refine lv_aload_n hx hb dX9_line_142 rfl (lv_at hl 0 rfl) ?_
    obtain ⟨hk22, hq23, h⟩ := h
    refine g_get (ci := 9) (C := RX9) (T := TX9) (N := 36) hx hb hts hin9 hown hK hG hk22 (cell_9 hq23) rfl 12 (by decide) lk_35 (fun _ h9 => h9) (v := rv ad (gR S k0 12)) rfl dX9_line_143 ?_
    refine lv_iload_n hx hb dX9_line_146 rfl (lv_at hl 1 rfl) ?_
    obtain ⟨q24, e25, h⟩ := h
    refine W.eq (g2 := F0 m 147 ls [.int x1, .ref (ad q24)]) (by rw [e25]; rfl) ?_
    obtain ⟨hk26, hq27, h⟩ := h
    obtain ⟨hi28, h⟩ := h
    refine r_iald hx hb hK hG hk26 hq27 hi28 dX9_line_147 ?_
    refine lv_iconst (v := 4) hx hb dX9_line_148 (by decide) ?_
    refine lv_icmp_ne (tgt := 157) hx hb dX9_line_149 (by decide) (fun c_149 => ?_) (fun c_149 => ?_)
    · have h := h.1 c_149
      exact b_157 x1 S H locs ls h hsh hG (lv_sub hl [0, 1] rfl)
    · have h := h.2 c_149
      refine lv_aload_n hx hb dX9_line_152 rfl (lv_at hl 0 rfl) ?_
      refine lv_iload_n hx hb dX9_line_153 rfl (lv_at hl 1 rfl) ?_
      refine r_put (ci := 9) (C := RX9) (T := TX9) (N := 36) hx hb hts hin9 tyX9 tyX9_ok nmX9 hown hK hG hk22 (cell_9 hq23) rfl 31 (by decide) lk_81 (fun _ h9 => h9) rfl rfl rfl (Nat.le_of_ble_eq_true rfl) (S' := sX S k0 31 x1) rfl (pu_9_31 hq23 x1) dX9_line_154 (fun H locs hG => ?_)
      obtain ⟨S29, eS_S29⟩ : ∃ z : GS, z = sX S k0 31 x1 := ⟨_, rfl⟩
      have h := h S29 eS_S29
      rw [← eS_S29] at hG
      have hs_S29 : gSh S29 S := by rw [eS_S29]; exact gSh.x _ _ _ _
      have hsh := hs_S29.tr hsh
      have hk30 := hs_S29.lt hk22
      have hq31 := hs_S29.kd hq23
      have hk32 := hs_S29.lt hk26
      have hq33 := hs_S29.kd hq27
      exact b_157 x1 S29 H locs ls h hsh hG (lv_sub hl [0, 1] rfl)
  have b_87 : ∀  (x1 : Int32) (x2 : Int32) (x3 : Int32) (t0 : Option Nat) (t1 : Int32) (t2 : Int32) (S : GS) (H : Heap) (locs : List Loc) (ls : Array Slot), wX9_line_87 Q k0 x1 x2 x3 t0 t1 t2 S → gSh S S0 → gS D Y ad A s.heap S H locs → lv_has ls 4 [(0, .ref (ad k0)), (1, .int x1), (2, .int x2), (3, .int x3)] → W p l e (rmD 5) s m args below meth c H locs 0 0 (MQ below (gE D Y za ad S0 s.heap.size (fun r S9 => ∃ x, r = some (vI x) ∧ Q x S9)) args s 0 0 A) (F0 m 87 ls [.int t2, .int t1, rv ad t0]) := by
    intro  x1 x2 x3 t0 t1 t2 S H locs ls h hsh hG hl
    unfold wX9_line_87 at h
    obtain ⟨q34, e35, h⟩ := h
    refine W.eq (g2 := F0 m 87 ls [.int t2, .int t1, .ref (ad q34)]) (by rw [e35]; rfl) ?_
    obtain ⟨hk36, hq37, h⟩ := h
    obtain ⟨hi38, h⟩ := h
    refine r_zast hx hb hK hG hk36 hq37 hi38 dX9_line_87 (fun H locs hG => ?_)
    obtain ⟨S39, eS_S39⟩ : ∃ z : GS, z = sX S q34 (Int32.toNatClampNeg t1) (vp_nar .boolean t2) := ⟨_, rfl⟩
    have h := h S39 eS_S39
    rw [← eS_S39] at hG
    have hs_S39 : gSh S39 S := by rw [eS_S39]; exact gSh.x _ _ _ _
    have hsh := hs_S39.tr hsh
    have hk40 := hs_S39.lt hk36
    have hq41 := hs_S39.kd hq37
    refine lv_aload_n hx hb dX9_line_88 rfl (lv_at hl 0 rfl) ?_
    refine lv_dup hx hb dX9_line_89 rfl ?_
    obtain ⟨hk42, hq43, h⟩ := h
    refine g_get (ci := 9) (C := RX9) (T := TX9) (N := 36) hx hb hts hin9 hown hK hG hk42 (cell_9 hq43) rfl 19 (by decide) lk_175 (fun _ h9 => h9) (v := .int (gX S39 k0 19)) rfl dX9_line_90 ?_
    refine lv_iconst (v := 1) hx hb dX9_line_93 (by decide) ?_
    refine lv_iadd hx hb dX9_line_94 ?_
    refine r_put (ci := 9) (C := RX9) (T := TX9) (N := 36) hx hb hts hin9 tyX9 tyX9_ok nmX9 hown hK hG hk42 (cell_9 hq43) rfl 19 (by decide) lk_175 (fun _ h9 => h9) rfl rfl rfl (Nat.le_of_ble_eq_true rfl) (S' := sX S39 k0 19 ((gX S39 k0 19) + 1)) rfl (pu_9_19 hq43 ((gX S39 k0 19) + 1)) dX9_line_95 (fun H locs hG => ?_)
    obtain ⟨S44, eS_S44⟩ : ∃ z : GS, z = sX S39 k0 19 ((gX S39 k0 19) + 1) := ⟨_, rfl⟩
    have h := h S44 eS_S44
    rw [← eS_S44] at hG
    have hs_S44 : gSh S44 S39 := by rw [eS_S44]; exact gSh.x _ _ _ _
    have hsh := hs_S44.tr hsh
    have hk45 := hs_S44.lt hk40
    have hq46 := hs_S44.kd hq41
    have hk47 := hs_S44.lt hk42
    have hq48 := hs_S44.kd hq43
    refine lv_iload_n hx hb dX9_line_98 rfl (lv_at hl 3 rfl) ?_
    refine lv_if_eq (tgt := 121) hx hb dX9_line_99 (by decide) (fun c_99 => ?_) (fun c_99 => ?_)
    · have h := h.1 c_99
      refine lv_aload_n hx hb dX9_line_121 rfl (lv_at hl 0 rfl) ?_
      refine g_get (ci := 9) (C := RX9) (T := TX9) (N := 36) hx hb hts hin9 hown hK hG hk47 (cell_9 hq48) rfl 11 (by decide) lk_32 (fun _ h9 => h9) (v := rv ad (gR S44 k0 11)) rfl dX9_line_122 ?_
      refine lv_iload_n hx hb dX9_line_125 rfl (lv_at hl 1 rfl) ?_
      refine lv_iconst (v := 0) hx hb dX9_line_126 (by decide) ?_
      obtain ⟨q49, e50, h⟩ := h
      refine W.eq (g2 := F0 m 127 ls [.int 0, .int x1, .ref (ad q49)]) (by rw [e50]; rfl) ?_
      obtain ⟨hk51, hq52, h⟩ := h
      obtain ⟨hi53, h⟩ := h
      refine r_iast hx hb hK hG hk51 hq52 hi53 dX9_line_127 (fun H locs hG => ?_)
      obtain ⟨S54, eS_S54⟩ : ∃ z : GS, z = sX S44 q49 (Int32.toNatClampNeg x1) 0 := ⟨_, rfl⟩
      have h := h S54 eS_S54
      rw [← eS_S54] at hG
      have hs_S54 : gSh S54 S44 := by rw [eS_S54]; exact gSh.x _ _ _ _
      have hsh := hs_S54.tr hsh
      have hk55 := hs_S54.lt hk45
      have hq56 := hs_S54.kd hq46
      have hk57 := hs_S54.lt hk47
      have hq58 := hs_S54.kd hq48
      have hk59 := hs_S54.lt hk51
      have hq60 := hs_S54.kd hq52
      refine lv_aload_n hx hb dX9_line_128 rfl (lv_at hl 0 rfl) ?_
      refine g_get (ci := 9) (C := RX9) (T := TX9) (N := 36) hx hb hts hin9 hown hK hG hk57 (cell_9 hq58) rfl 12 (by decide) lk_35 (fun _ h9 => h9) (v := rv ad (gR S54 k0 12)) rfl dX9_line_129 ?_
      refine lv_iload_n hx hb dX9_line_132 rfl (lv_at hl 1 rfl) ?_
      obtain ⟨q61, e62, h⟩ := h
      refine W.eq (g2 := F0 m 133 ls [.int x1, .ref (ad q61)]) (by rw [e62]; rfl) ?_
      obtain ⟨hk63, hq64, h⟩ := h
      obtain ⟨hi65, h⟩ := h
      refine r_iald hx hb hK hG hk63 hq64 hi65 dX9_line_133 ?_
      refine lv_if_ne (tgt := 142) hx hb dX9_line_134 (by decide) (fun c_134 => ?_) (fun c_134 => ?_)
      · have h := h.1 c_134
        exact b_142 x1 S54 H locs ls h hsh hG (lv_sub hl [0, 1] rfl)
      · have h := h.2 c_134
        refine lv_aload_n hx hb dX9_line_137 rfl (lv_at hl 0 rfl) ?_
        refine lv_iload_n hx hb dX9_line_138 rfl (lv_at hl 1 rfl) ?_
        refine r_put (ci := 9) (C := RX9) (T := TX9) (N := 36) hx hb hts hin9 tyX9 tyX9_ok nmX9 hown hK hG hk57 (cell_9 hq58) rfl 30 (by decide) lk_77 (fun _ h9 => h9) rfl rfl rfl (Nat.le_of_ble_eq_true rfl) (S' := sX S54 k0 30 x1) rfl (pu_9_30 hq58 x1) dX9_line_139 (fun H locs hG => ?_)
        obtain ⟨S66, eS_S66⟩ : ∃ z : GS, z = sX S54 k0 30 x1 := ⟨_, rfl⟩
        have h := h S66 eS_S66
        rw [← eS_S66] at hG
        have hs_S66 : gSh S66 S54 := by rw [eS_S66]; exact gSh.x _ _ _ _
        have hsh := hs_S66.tr hsh
        have hk67 := hs_S66.lt hk55
        have hq68 := hs_S66.kd hq56
        have hk69 := hs_S66.lt hk57
        have hq70 := hs_S66.kd hq58
        have hk71 := hs_S66.lt hk59
        have hq72 := hs_S66.kd hq60
        have hk73 := hs_S66.lt hk63
        have hq74 := hs_S66.kd hq64
        exact b_142 x1 S66 H locs ls h hsh hG (lv_sub hl [0, 1] rfl)
    · have h := h.2 c_99
      refine lv_aload_n hx hb dX9_line_102 rfl (lv_at hl 0 rfl) ?_
      refine lv_iload_n hx hb dX9_line_103 rfl (lv_at hl 3 rfl) ?_
      refine lv_iload_n hx hb dX9_line_104 rfl (lv_at hl 1 rfl) ?_
      refine lv_iload_n hx hb dX9_line_105 rfl (lv_at hl 3 rfl) ?_
      refine lv_iconst (v := 1) hx hb dX9_line_106 (by decide) ?_
      refine lv_icmp_ne (tgt := 114) hx hb dX9_line_107 (by decide) (fun c_107 => ?_) (fun c_107 => ?_)
      · have h := h.1 c_107
        refine lv_iconst (v := 0) hx hb dX9_line_114 (by decide) ?_
        exact b_115 x3 k0 x3 x1 0 S44 H locs ls h hsh hG (lv_sub hl [3] rfl)
      · have h := h.2 c_107
        refine lv_iload_n hx hb dX9_line_110 rfl (lv_at hl 2 rfl) ?_
        refine lv_goto (tgt := 115) hx hb dX9_line_111 (by decide) ?_
        exact b_115 x3 k0 x3 x1 x2 S44 H locs ls h hsh hG (lv_sub hl [3] rfl)
  have b_72 : ∀  (x1 : Int32) (x2 : Int32) (x3 : Int32) (t0 : Option Nat) (t1 : Int32) (t2 : Int32) (S : GS) (H : Heap) (locs : List Loc) (ls : Array Slot), wX9_line_72 Q k0 x1 x2 x3 t0 t1 t2 S → gSh S S0 → gS D Y ad A s.heap S H locs → lv_has ls 4 [(0, .ref (ad k0)), (1, .int x1), (2, .int x2), (3, .int x3)] → W p l e (rmD 5) s m args below meth c H locs 0 0 (MQ below (gE D Y za ad S0 s.heap.size (fun r S9 => ∃ x, r = some (vI x) ∧ Q x S9)) args s 0 0 A) (F0 m 72 ls [.int t2, .int t1, rv ad t0]) := by
    intro  x1 x2 x3 t0 t1 t2 S H locs ls h hsh hG hl
    unfold wX9_line_72 at h
    obtain ⟨q75, e76, h⟩ := h
    refine W.eq (g2 := F0 m 72 ls [.int t2, .int t1, .ref (ad q75)]) (by rw [e76]; rfl) ?_
    obtain ⟨hk77, hq78, h⟩ := h
    obtain ⟨hi79, h⟩ := h
    refine r_zast hx hb hK hG hk77 hq78 hi79 dX9_line_72 (fun H locs hG => ?_)
    obtain ⟨S80, eS_S80⟩ : ∃ z : GS, z = sX S q75 (Int32.toNatClampNeg t1) (vp_nar .boolean t2) := ⟨_, rfl⟩
    have h := h S80 eS_S80
    rw [← eS_S80] at hG
    have hs_S80 : gSh S80 S := by rw [eS_S80]; exact gSh.x _ _ _ _
    have hsh := hs_S80.tr hsh
    have hk81 := hs_S80.lt hk77
    have hq82 := hs_S80.kd hq78
    refine lv_aload_n hx hb dX9_line_73 rfl (lv_at hl 0 rfl) ?_
    obtain ⟨hk83, hq84, h⟩ := h
    refine g_get (ci := 9) (C := RX9) (T := TX9) (N := 36) hx hb hts hin9 hown hK hG hk83 (cell_9 hq84) rfl 10 (by decide) lk_29 (fun _ h9 => h9) (v := rv ad (gR S80 k0 10)) rfl dX9_line_74 ?_
    refine lv_iload_n hx hb dX9_line_77 rfl (lv_at hl 1 rfl) ?_
    refine lv_iload_n hx hb dX9_line_78 rfl (lv_at hl 3 rfl) ?_
    refine lv_if_ne (tgt := 86) hx hb dX9_line_79 (by decide) (fun c_79 => ?_) (fun c_79 => ?_)
    · have h := h.1 c_79
      refine lv_iconst (v := 0) hx hb dX9_line_86 (by decide) ?_
      exact b_87 x1 x2 x3 (gR S80 k0 10) x1 0 S80 H locs ls h hsh hG (lv_sub hl [0, 1, 2, 3] rfl)
    · have h := h.2 c_79
      refine lv_iconst (v := 1) hx hb dX9_line_82 (by decide) ?_
      refine lv_goto (tgt := 87) hx hb dX9_line_83 (by decide) ?_
      exact b_87 x1 x2 x3 (gR S80 k0 10) x1 1 S80 H locs ls h hsh hG (lv_sub hl [0, 1, 2, 3] rfl)
  have b_71 : ∀  (x1 : Int32) (x2 : Int32) (x3 : Int32) (t0 : Option Nat) (t1 : Int32) (S : GS) (H : Heap) (locs : List Loc) (ls : Array Slot), wX9_line_71 Q k0 x1 x2 x3 t0 t1 S → gSh S S0 → gS D Y ad A s.heap S H locs → lv_has ls 4 [(0, .ref (ad k0)), (1, .int x1), (2, .int x2), (3, .int x3)] → W p l e (rmD 5) s m args below meth c H locs 0 0 (MQ below (gE D Y za ad S0 s.heap.size (fun r S9 => ∃ x, r = some (vI x) ∧ Q x S9)) args s 0 0 A) (F0 m 71 ls [.int t1, rv ad t0]) := by
    intro  x1 x2 x3 t0 t1 S H locs ls h hsh hG hl
    unfold wX9_line_71 at h
    refine lv_iconst (v := 0) hx hb dX9_line_71 (by decide) ?_
    exact b_72 x1 x2 x3 t0 t1 0 S H locs ls h hsh hG (lv_sub hl [0, 1, 2, 3] rfl)
  have b_51 : ∀  (x1 : Int32) (x2 : Int32) (t0 : Int32) (S : GS) (H : Heap) (locs : List Loc) (ls : Array Slot), wX9_line_51 Q k0 x1 x2 t0 S → gSh S S0 → gS D Y ad A s.heap S H locs → lv_has ls 4 [(0, .ref (ad k0)), (1, .int x1), (2, .int x2)] → W p l e (rmD 5) s m args below meth c H locs 0 0 (MQ below (gE D Y za ad S0 s.heap.size (fun r S9 => ∃ x, r = some (vI x) ∧ Q x S9)) args s 0 0 A) (F0 m 51 ls [.int t0]) := by
    intro  x1 x2 t0 S H locs ls h hsh hG hl
    unfold wX9_line_51 at h
    refine lv_istore_n (lv' := [(3, .int t0), (0, .ref (ad k0)), (1, .int x1), (2, .int x2)]) hx hb dX9_line_51 rfl hl (by decide) rfl (fun ls hl => ?_)
    refine lv_aload_n hx hb dX9_line_52 rfl (lv_at hl 1 rfl) ?_
    obtain ⟨hk85, hq86, h⟩ := h
    refine g_get (ci := 9) (C := RX9) (T := TX9) (N := 36) hx hb hts hin9 hown hK hG hk85 (cell_9 hq86) rfl 9 (by decide) lk_25 (fun _ h9 => h9) (v := rv ad (gR S k0 9)) rfl dX9_line_53 ?_
    refine lv_iload_n hx hb dX9_line_56 rfl (lv_at hl 2 rfl) ?_
    refine lv_iload_n hx hb dX9_line_57 rfl (lv_at hl 0 rfl) ?_
    refine lv_iconst (v := 1) hx hb dX9_line_58 (by decide) ?_
    refine lv_icmp_eq (tgt := 71) hx hb dX9_line_59 (by decide) (fun c_59 => ?_) (fun c_59 => ?_)
    · have h := h.1 c_59
      exact b_71 x1 x2 t0 (gR S k0 9) x1 S H locs ls h hsh hG (lv_sub hl [1, 2, 3, 0] rfl)
    · have h := h.2 c_59
      refine lv_iload_n hx hb dX9_line_62 rfl (lv_at hl 0 rfl) ?_
      refine lv_iconst (v := 2) hx hb dX9_line_63 (by decide) ?_
      refine lv_icmp_eq (tgt := 71) hx hb dX9_line_64 (by decide) (fun c_64 => ?_) (fun c_64 => ?_)
      · have h := h.1 c_64
        exact b_71 x1 x2 t0 (gR S k0 9) x1 S H locs ls h hsh hG (lv_sub hl [1, 2, 3, 0] rfl)
      · have h := h.2 c_64
        refine lv_iconst (v := 1) hx hb dX9_line_67 (by decide) ?_
        refine lv_goto (tgt := 72) hx hb dX9_line_68 (by decide) ?_
        exact b_72 x1 x2 t0 (gR S k0 9) x1 1 S H locs ls h hsh hG (lv_sub hl [1, 2, 3, 0] rfl)
  have hl : lv_has ls 4 [(0, .ref (ad k0))] := hl
  have hsh : gSh S S0 := by rw [hS0]; exact gSh.rf S
  obtain ⟨H, eH⟩ : ∃ z : Heap, z = s.heap := ⟨_, rfl⟩
  obtain ⟨locs, eL⟩ : ∃ z : List Loc, z = [] := ⟨_, rfl⟩
  have hG : gS D Y ad A s.heap S H locs := by rw [eH, eL]; exact hG
  suffices hgoal : W p l e (rmD 5) s m args below meth c H locs 0 0 (MQ below (gE D Y za ad S0 s.heap.size (fun r S9 => ∃ x, r = some (vI x) ∧ Q x S9)) args s 0 0 A) (F0 m 0 ls []) by rw [eH, eL] at hgoal; exact hgoal
  unfold wX9_line at h
  refine lv_aload_n hx hb dX9_line_0 rfl (lv_at hl 0 rfl) ?_
  refine lv_iconst (v := 0) hx hb dX9_line_1 (by decide) ?_
  obtain ⟨hk87, hq88, h⟩ := h
  refine r_put (ci := 9) (C := RX9) (T := TX9) (N := 36) hx hb hts hin9 tyX9 tyX9_ok nmX9 hown hK hG hk87 (cell_9 hq88) rfl 32 (by decide) lk_84 (fun _ h9 => h9) rfl rfl rfl (Nat.le_of_ble_eq_true rfl) (S' := sX S k0 32 0) rfl (pu_9_32 hq88 0) dX9_line_2 (fun H locs hG => ?_)
  obtain ⟨S89, eS_S89⟩ : ∃ z : GS, z = sX S k0 32 0 := ⟨_, rfl⟩
  have h := h S89 eS_S89
  rw [← eS_S89] at hG
  have hs_S89 : gSh S89 S := by rw [eS_S89]; exact gSh.x _ _ _ _
  have hsh := hs_S89.tr hsh
  have hk90 := hs_S89.lt hk87
  have hq91 := hs_S89.kd hq88
  refine lv_aload_n hx hb dX9_line_5 rfl (lv_at hl 0 rfl) ?_
  refine g_get (ci := 9) (C := RX9) (T := TX9) (N := 36) hx hb hts hin9 hown hK hG hk90 (cell_9 hq91) rfl 19 (by decide) lk_175 (fun _ h9 => h9) (v := .int (gX S89 k0 19)) rfl dX9_line_6 ?_
  refine lv_istore_n (lv' := [(1, .int (gX S89 k0 19)), (0, .ref (ad k0))]) hx hb dX9_line_9 rfl hl (by decide) rfl (fun ls hl => ?_)
  refine lv_aload_n hx hb dX9_line_10 rfl (lv_at hl 1 rfl) ?_
  refine r_callV (za := za) (k := k0) (ci := 9) (C := RX9) (T := TX9) (N := 36) (As := []) (rest := []) (tX9_read l S89 k0  _ h) ⟨hx, hb, hml, hown, hts⟩ (cwV 0 hts gX9_line_X9_read rfl rfl rfl (by decide +kernel) ⟨by decide, by decide⟩) hK hG hA hk90 (cell_9 hq91) rfl rfl hl.1 rfl (Nat.le_of_ble_eq_true rfl) ⟨Nat.le_refl _, Nat.le_refl _⟩ dX9_line_11 (fun r_9 S92 H locs hp hs_S92 hG => ?_)
  obtain ⟨u93, rfl, h⟩ := hp
  have h := h hs_S92
  refine W.eq (g2 := F0 m 14 ls [.int u93]) rfl ?_
  have hsh := hs_S92.tr hsh
  have hk94 := hs_S92.lt hk90
  have hq95 := hs_S92.kd hq91
  refine lv_istore_n (lv' := [(2, .int u93), (1, .int (gX S89 k0 19)), (0, .ref (ad k0))]) hx hb dX9_line_14 rfl hl (by decide) rfl (fun ls hl => ?_)
  refine lv_aload_n hx hb dX9_line_15 rfl (lv_at hl 2 rfl) ?_
  refine lv_iconst (v := 0) hx hb dX9_line_16 (by decide) ?_
  refine r_put (ci := 9) (C := RX9) (T := TX9) (N := 36) hx hb hts hin9 tyX9 tyX9_ok nmX9 hown hK hG hk94 (cell_9 hq95) rfl 1 (by decide) lk_143 (fun _ h9 => h9) rfl rfl rfl (Nat.le_of_ble_eq_true rfl) (S' := sX S92 k0 1 0) rfl (pu_9_1 hq95 0) dX9_line_17 (fun H locs hG => ?_)
  obtain ⟨S96, eS_S96⟩ : ∃ z : GS, z = sX S92 k0 1 0 := ⟨_, rfl⟩
  have h := h S96 eS_S96
  rw [← eS_S96] at hG
  have hs_S96 : gSh S96 S92 := by rw [eS_S96]; exact gSh.x _ _ _ _
  have hsh := hs_S96.tr hsh
  have hk97 := hs_S96.lt hk94
  have hq98 := hs_S96.kd hq95
  refine lv_aload_n hx hb dX9_line_20 rfl (lv_at hl 2 rfl) ?_
  refine g_get (ci := 9) (C := RX9) (T := TX9) (N := 36) hx hb hts hin9 hown hK hG hk97 (cell_9 hq98) rfl 8 (by decide) lk_22 (fun _ h9 => h9) (v := rv ad (gR S96 k0 8)) rfl dX9_line_21 ?_
  refine lv_iload_n hx hb dX9_line_24 rfl (lv_at hl 1 rfl) ?_
  refine lv_aload_n hx hb dX9_line_25 rfl (lv_at hl 2 rfl) ?_
  refine g_get (ci := 9) (C := RX9) (T := TX9) (N := 36) hx hb hts hin9 hown hK hG hk97 (cell_9 hq98) rfl 20 (by decide) lk_182 (fun _ h9 => h9) (v := .int (gX S96 k0 20)) rfl dX9_line_26 ?_
  obtain ⟨q99, e100, h⟩ := h
  refine W.eq (g2 := F0 m 29 ls [.int (gX S96 k0 20), .int (gX S89 k0 19), .ref (ad q99)]) (by rw [e100]; rfl) ?_
  obtain ⟨hk101, hq102, h⟩ := h
  obtain ⟨hi103, h⟩ := h
  refine r_iast hx hb hK hG hk101 hq102 hi103 dX9_line_29 (fun H locs hG => ?_)
  obtain ⟨S104, eS_S104⟩ : ∃ z : GS, z = sX S96 q99 (Int32.toNatClampNeg (gX S89 k0 19)) (gX S96 k0 20) := ⟨_, rfl⟩
  have h := h S104 eS_S104
  rw [← eS_S104] at hG
  have hs_S104 : gSh S104 S96 := by rw [eS_S104]; exact gSh.x _ _ _ _
  have hsh := hs_S104.tr hsh
  have hk105 := hs_S104.lt hk97
  have hq106 := hs_S104.kd hq98
  have hk107 := hs_S104.lt hk101
  have hq108 := hs_S104.kd hq102
  refine lv_aload_n hx hb dX9_line_30 rfl (lv_at hl 2 rfl) ?_
  refine g_get (ci := 9) (C := RX9) (T := TX9) (N := 36) hx hb hts hin9 hown hK hG hk105 (cell_9 hq106) rfl 10 (by decide) lk_29 (fun _ h9 => h9) (v := rv ad (gR S104 k0 10)) rfl dX9_line_31 ?_
  refine lv_iload_n hx hb dX9_line_34 rfl (lv_at hl 1 rfl) ?_
  refine lv_iconst (v := 0) hx hb dX9_line_35 (by decide) ?_
  obtain ⟨q109, e110, h⟩ := h
  refine W.eq (g2 := F0 m 36 ls [.int 0, .int (gX S89 k0 19), .ref (ad q109)]) (by rw [e110]; rfl) ?_
  obtain ⟨hk111, hq112, h⟩ := h
  obtain ⟨hi113, h⟩ := h
  refine r_zast hx hb hK hG hk111 hq112 hi113 dX9_line_36 (fun H locs hG => ?_)
  obtain ⟨S114, eS_S114⟩ : ∃ z : GS, z = sX S104 q109 (Int32.toNatClampNeg (gX S89 k0 19)) (vp_nar .boolean 0) := ⟨_, rfl⟩
  have h := h S114 eS_S114
  rw [← eS_S114] at hG
  have hs_S114 : gSh S114 S104 := by rw [eS_S114]; exact gSh.x _ _ _ _
  have hsh := hs_S114.tr hsh
  have hk115 := hs_S114.lt hk105
  have hq116 := hs_S114.kd hq106
  have hk117 := hs_S114.lt hk107
  have hq118 := hs_S114.kd hq108
  have hk119 := hs_S114.lt hk111
  have hq120 := hs_S114.kd hq112
  refine lv_iload_n hx hb dX9_line_37 rfl (lv_at hl 0 rfl) ?_
  refine lv_iconst (v := (-1)) hx hb dX9_line_38 (by decide) ?_
  refine lv_icmp_ne (tgt := 50) hx hb dX9_line_39 (by decide) (fun c_39 => ?_) (fun c_39 => ?_)
  · have h := h.1 c_39
    refine lv_iconst (v := 1) hx hb dX9_line_50 (by decide) ?_
    exact b_51 (gX S89 k0 19) u93 1 S114 H locs ls h hsh hG (lv_sub hl [2, 1, 0] rfl)
  · have h := h.2 c_39
    refine lv_aload_n hx hb dX9_line_42 rfl (lv_at hl 2 rfl) ?_
    refine lv_iload_n hx hb dX9_line_43 rfl (lv_at hl 1 rfl) ?_
    refine r_callV (za := za) (k := k0) (ci := 9) (C := RX9) (T := TX9) (N := 36) (As := [vI (gX S89 k0 19)]) (rest := []) (tX9_wrongWith l S114 k0 (gX S89 k0 19) _ h) ⟨hx, hb, hml, hown, hts⟩ (cwV 1 hts gX9_line_X9_wrongWith rfl rfl rfl (by decide +kernel) ⟨by decide, by decide⟩) hK hG hA hk115 (cell_9 hq116) rfl rfl hl.1 rfl (Nat.le_of_ble_eq_true rfl) ⟨Nat.le_refl _, Nat.le_refl _⟩ dX9_line_44 (fun r_9 S121 H locs hp hs_S121 hG => ?_)
    obtain ⟨u122, rfl, h⟩ := hp
    have h := h hs_S121
    refine W.eq (g2 := F0 m 47 ls [.int u122]) rfl ?_
    have hsh := hs_S121.tr hsh
    have hk123 := hs_S121.lt hk115
    have hq124 := hs_S121.kd hq116
    have hk125 := hs_S121.lt hk117
    have hq126 := hs_S121.kd hq118
    have hk127 := hs_S121.lt hk119
    have hq128 := hs_S121.kd hq120
    refine lv_goto (tgt := 51) hx hb dX9_line_47 (by decide) ?_
    exact b_51 (gX S89 k0 19) u93 u122 S121 H locs ls h hsh hG (lv_sub hl [2, 1, 0] rfl)
def wX9_owned_25 (Q : Int32 → GS → Prop) (L_4 : Int32 → Int32 → Int32 → GS → Prop) (k0 : Nat) (x1 : Int32) (x2 : Int32) (x3 : Int32) (S : GS) : Prop :=
  L_4 x1 x2 (x3 + 1) S
def wX9_owned_4 (Q : Int32 → GS → Prop) (k0 : Nat) : Nat → Int32 → Int32 → Int32 → GS → Prop
  | 0, _, _, _, _ => False
  | f9 + 1, x1, x2, x3, S =>
  k0 < gN S ∧ gK S k0 = 9 ∧ ((gX S k0 19) ≤ x3 → Q x2 S) ∧ (¬ (gX S k0 19) ≤ x3 → ∃ q3 : Nat, gR S k0 11 = some q3 ∧ q3 < gN S ∧ gK S q3 = 11 ∧ vp_in x3 (gL S q3) ∧ (¬ (gX S q3 (Int32.toNatClampNeg x3)) = x1 → wX9_owned_25 Q (wX9_owned_4 Q k0 f9) k0 x1 x2 x3 S) ∧ ((gX S q3 (Int32.toNatClampNeg x3)) = x1 → wX9_owned_25 Q (wX9_owned_4 Q k0 f9) k0 x1 (x2 + 1) x3 S))
def wX9_owned (S : GS) (k0 : Nat) (x1 : Int32) (Q : Int32 → GS → Prop) : Prop :=
  ∃ f8 : Nat, wX9_owned_4 Q k0 f8 x1 0 0 S
set_option maxHeartbeats 4000000 in
set_option maxRecDepth 100000 in
theorem tX9_owned (l : Launch) (S : GS) (k0 : Nat) (x1 : Int32) (Q : Int32 → GS → Prop) (h : wX9_owned S k0 x1 Q) : CS l yX9_owned wsX9_owned 0 S [vR (some k0), vI x1] (fun r S9 => ∃ x, r = some (vI x) ∧ Q x S9) := by
  refine CS.ofW (cc := cX9_owned) (maxL := 4) (ret := (some .int)) RX9 (by decide) rfl rfl (fun _ _ => Nat.le_of_ble_eq_true rfl) ?_
  intro p e s m args below meth c D Y za ad A ls hAe hx hb hr hml hts hown hlocks hK hA hG hl
  obtain ⟨S0, hS0⟩ : ∃ z : GS, z = S := ⟨_, rfl⟩
  rw [← hS0] at hAe
  rw [← hS0]
  have hin9 : ∀ w ∈ wsX90, w ∈ wsX9_owned := by decide +kernel
  have lk_175 := hts (.fieldLink RX9 175 "PauseLogModel" "lines" "I") (by decide +kernel)
  have lk_32 := hts (.fieldLink RX9 32 "PauseLogModel" "owner" "[I") (by decide +kernel)
  have b_25 : ∀ (L_4 : Int32 → Int32 → Int32 → GS → Prop) (hL_4 : ∀ (x1 : Int32) (x2 : Int32) (x3 : Int32) (S : GS) (H : Heap) (locs : List Loc) (ls : Array Slot), L_4 x1 x2 x3 S → gSh S S0 → gS D Y ad A s.heap S H locs → lv_has ls 4 [(0, .ref (ad k0)), (1, .int x1), (2, .int x2), (3, .int x3)] → W p l e (rmD 0) s m args below meth c H locs 0 0 (MQ below (gE D Y za ad S0 s.heap.size (fun r S9 => ∃ x, r = some (vI x) ∧ Q x S9)) args s 0 0 A) (F0 m 4 ls [])) (x1 : Int32) (x2 : Int32) (x3 : Int32) (S : GS) (H : Heap) (locs : List Loc) (ls : Array Slot), wX9_owned_25 Q L_4 k0 x1 x2 x3 S → gSh S S0 → gS D Y ad A s.heap S H locs → lv_has ls 4 [(0, .ref (ad k0)), (1, .int x1), (2, .int x2), (3, .int x3)] → W p l e (rmD 0) s m args below meth c H locs 0 0 (MQ below (gE D Y za ad S0 s.heap.size (fun r S9 => ∃ x, r = some (vI x) ∧ Q x S9)) args s 0 0 A) (F0 m 25 ls []) := by
    intro L_4 hL_4 x1 x2 x3 S H locs ls h hsh hG hl
    unfold wX9_owned_25 at h
    refine lv_iinc (v := x3 + 1) (lv' := [(3, .int (x3 + 1)), (0, .ref (ad k0)), (1, .int x1), (2, .int x2)]) hx hb dX9_owned_25 hl (k := 3) rfl rfl (by decide) rfl (fun ls hl => ?_)
    refine lv_goto (tgt := 4) hx hb dX9_owned_28 (by decide) ?_
    exact hL_4 x1 x2 (x3 + 1) S H locs ls h hsh hG (lv_sub hl [1, 2, 3, 0] rfl)
  have b_4 : ∀  (f9 : Nat) (x1 : Int32) (x2 : Int32) (x3 : Int32) (S : GS) (H : Heap) (locs : List Loc) (ls : Array Slot), wX9_owned_4 Q k0 f9 x1 x2 x3 S → gSh S S0 → gS D Y ad A s.heap S H locs → lv_has ls 4 [(0, .ref (ad k0)), (1, .int x1), (2, .int x2), (3, .int x3)] → W p l e (rmD 0) s m args below meth c H locs 0 0 (MQ below (gE D Y za ad S0 s.heap.size (fun r S9 => ∃ x, r = some (vI x) ∧ Q x S9)) args s 0 0 A) (F0 m 4 ls []) := by
    intro  f9
    induction f9 with
    | zero =>
      intro x1 x2 x3 S H locs ls h
      exact False.elim (by unfold wX9_owned_4 at h; exact h)
    | succ f9 hL_4 =>
      intro x1 x2 x3 S H locs ls h hsh hG hl
      unfold wX9_owned_4 at h
      refine lv_iload_n hx hb dX9_owned_4 rfl (lv_at hl 3 rfl) ?_
      refine lv_aload_n hx hb dX9_owned_5 rfl (lv_at hl 0 rfl) ?_
      obtain ⟨hk1, hq2, h⟩ := h
      refine g_get (ci := 9) (C := RX9) (T := TX9) (N := 36) hx hb hts hin9 hown hK hG hk1 (cell_9 hq2) rfl 19 (by decide) lk_175 (fun _ h9 => h9) (v := .int (gX S k0 19)) rfl dX9_owned_6 ?_
      refine lv_icmp_ge (tgt := 31) hx hb dX9_owned_9 (by decide) (fun c_9 => ?_) (fun c_9 => ?_)
      · have h := h.1 c_9
        refine lv_iload_n hx hb dX9_owned_31 rfl (lv_at hl 2 rfl) ?_
        exact W.iret (v := x2) hx hb hr (fun t ht hW => r_end (r := some (vI x2)) hAe hG hsh ⟨_, rfl, h⟩ rfl ht) hG.2.2.2.2 dX9_owned_32
      · have h := h.2 c_9
        refine lv_aload_n hx hb dX9_owned_12 rfl (lv_at hl 0 rfl) ?_
        refine g_get (ci := 9) (C := RX9) (T := TX9) (N := 36) hx hb hts hin9 hown hK hG hk1 (cell_9 hq2) rfl 11 (by decide) lk_32 (fun _ h9 => h9) (v := rv ad (gR S k0 11)) rfl dX9_owned_13 ?_
        refine lv_iload_n hx hb dX9_owned_16 rfl (lv_at hl 3 rfl) ?_
        obtain ⟨q3, e4, h⟩ := h
        refine W.eq (g2 := F0 m 17 ls [.int x3, .ref (ad q3)]) (by rw [e4]; rfl) ?_
        obtain ⟨hk5, hq6, h⟩ := h
        obtain ⟨hi7, h⟩ := h
        refine r_iald hx hb hK hG hk5 hq6 hi7 dX9_owned_17 ?_
        refine lv_iload_n hx hb dX9_owned_18 rfl (lv_at hl 1 rfl) ?_
        refine lv_icmp_ne (tgt := 25) hx hb dX9_owned_19 (by decide) (fun c_19 => ?_) (fun c_19 => ?_)
        · have h := h.1 c_19
          exact b_25 (wX9_owned_4 Q k0 f9) hL_4 x1 x2 x3 S H locs ls h hsh hG (lv_sub hl [0, 1, 2, 3] rfl)
        · have h := h.2 c_19
          refine lv_iinc (v := x2 + 1) (lv' := [(2, .int (x2 + 1)), (0, .ref (ad k0)), (1, .int x1), (3, .int x3)]) hx hb dX9_owned_22 hl (k := 2) rfl rfl (by decide) rfl (fun ls hl => ?_)
          exact b_25 (wX9_owned_4 Q k0 f9) hL_4 x1 (x2 + 1) x3 S H locs ls h hsh hG (lv_sub hl [1, 2, 0, 3] rfl)
  have hl : lv_has ls 4 [(0, .ref (ad k0)), (1, .int x1)] := hl
  have hsh : gSh S S0 := by rw [hS0]; exact gSh.rf S
  obtain ⟨H, eH⟩ : ∃ z : Heap, z = s.heap := ⟨_, rfl⟩
  obtain ⟨locs, eL⟩ : ∃ z : List Loc, z = [] := ⟨_, rfl⟩
  have hG : gS D Y ad A s.heap S H locs := by rw [eH, eL]; exact hG
  suffices hgoal : W p l e (rmD 0) s m args below meth c H locs 0 0 (MQ below (gE D Y za ad S0 s.heap.size (fun r S9 => ∃ x, r = some (vI x) ∧ Q x S9)) args s 0 0 A) (F0 m 0 ls []) by rw [eH, eL] at hgoal; exact hgoal
  unfold wX9_owned at h
  refine lv_iconst (v := 0) hx hb dX9_owned_0 (by decide) ?_
  refine lv_istore_n (lv' := [(2, .int 0), (0, .ref (ad k0)), (1, .int x1)]) hx hb dX9_owned_1 rfl hl (by decide) rfl (fun ls hl => ?_)
  refine lv_iconst (v := 0) hx hb dX9_owned_2 (by decide) ?_
  refine lv_istore_n (lv' := [(3, .int 0), (2, .int 0), (0, .ref (ad k0)), (1, .int x1)]) hx hb dX9_owned_3 rfl hl (by decide) rfl (fun ls hl => ?_)
  obtain ⟨f8, h⟩ := h
  exact b_4 f8 x1 0 0 S H locs ls h hsh hG (lv_sub hl [2, 3, 1, 0] rfl)
def wX9_finish_75 (Q : Int32 → GS → Prop) (L_51 : Int32 → Int32 → GS → Prop) (k0 : Nat) (x1 : Int32) (x2 : Int32) (S : GS) : Prop :=
  L_51 x1 (x2 + 1) S
def wX9_finish_51 (Q : Int32 → GS → Prop) (k0 : Nat) : Nat → Int32 → Int32 → GS → Prop
  | 0, _, _, _ => False
  | f9 + 1, x1, x2, S =>
  k0 < gN S ∧ gK S k0 = 9 ∧ ((gX S k0 19) ≤ x2 → ∀ S3 : GS, S3 = sX S k0 30 (-1) → ∀ S6 : GS, S6 = sX S3 k0 31 (-1) → ∀ S9 : GS, S9 = sX S6 k0 20 ((gX S6 k0 20) + 1) → Q x1 S9) ∧ (¬ (gX S k0 19) ≤ x2 → ∃ q12 : Nat, gR S k0 11 = some q12 ∧ q12 < gN S ∧ gK S q12 = 11 ∧ vp_in x2 (gL S q12) ∧ (¬ (gX S q12 (Int32.toNatClampNeg x2)) = 0 → wX9_finish_75 Q (wX9_finish_51 Q k0 f9) k0 x1 x2 S) ∧ ((gX S q12 (Int32.toNatClampNeg x2)) = 0 → vp_in x2 (gL S q12) ∧ ∀ S18 : GS, S18 = sX S q12 (Int32.toNatClampNeg x2) 2 → wX9_finish_75 Q (wX9_finish_51 Q k0 f9) k0 x1 x2 S18))
def wX9_finish_49 (Q : Int32 → GS → Prop) (k0 : Nat) (x1 : Int32) (S : GS) : Prop :=
  ∃ f23 : Nat, wX9_finish_51 Q k0 f23 x1 0 S
def wX9_finish_30 (Q : Int32 → GS → Prop) (k0 : Nat) (x1 : Int32) (S : GS) : Prop :=
  k0 < gN S ∧ gK S k0 = 9 ∧ ((gX S k0 31) = (-1) → wX9_finish_49 Q k0 x1 S) ∧ (¬ (gX S k0 31) = (-1) → wX9_diagnose S k0 8 (gX S k0 31) 0 (fun S26 => gSh S26 S → wX9_finish_49 Q k0 x1 S26))
def wX9_finish (S : GS) (k0 : Nat) (Q : Int32 → GS → Prop) : Prop :=
  k0 < gN S ∧ gK S k0 = 9 ∧ ∀ S32 : GS, S32 = sX S k0 32 0 → wX9_owned S32 k0 0 (fun u36 S35 => gSh S35 S32 → ((gX S35 k0 30) = (-1) → wX9_finish_30 Q k0 u36 S35) ∧ (¬ (gX S35 k0 30) = (-1) → wX9_diagnose S35 k0 8 (gX S35 k0 30) 0 (fun S39 => gSh S39 S35 → wX9_finish_30 Q k0 u36 S39)))
set_option maxHeartbeats 4000000 in
set_option maxRecDepth 100000 in
theorem tX9_finish (l : Launch) (S : GS) (k0 : Nat) (Q : Int32 → GS → Prop) (h : wX9_finish S k0 Q) : CS l yX9_finish wsX9_finish 1 S [vR (some k0)] (fun r S9 => ∃ x, r = some (vI x) ∧ Q x S9) := by
  refine CS.ofW (cc := cX9_finish) (maxL := 3) (ret := (some .int)) RX9 (by decide) rfl rfl (fun _ _ => Nat.le_of_ble_eq_true rfl) ?_
  intro p e s m args below meth c D Y za ad A ls hAe hx hb hr hml hts hown hlocks hK hA hG hl
  obtain ⟨S0, hS0⟩ : ∃ z : GS, z = S := ⟨_, rfl⟩
  rw [← hS0] at hAe
  rw [← hS0]
  have hin9 : ∀ w ∈ wsX90, w ∈ wsX9_finish := by decide +kernel
  have lk_84 := hts (.fieldLink RX9 84 "PauseLogModel" "thrown" "I") (by decide +kernel)
  have lk_77 := hts (.fieldLink RX9 77 "PauseLogModel" "openPause" "I") (by decide +kernel)
  have lk_81 := hts (.fieldLink RX9 81 "PauseLogModel" "openMark" "I") (by decide +kernel)
  have lk_175 := hts (.fieldLink RX9 175 "PauseLogModel" "lines" "I") (by decide +kernel)
  have lk_32 := hts (.fieldLink RX9 32 "PauseLogModel" "owner" "[I") (by decide +kernel)
  have lk_182 := hts (.fieldLink RX9 182 "PauseLogModel" "logs" "I") (by decide +kernel)
  have b_75 : ∀ (L_51 : Int32 → Int32 → GS → Prop) (hL_51 : ∀ (x1 : Int32) (x2 : Int32) (S : GS) (H : Heap) (locs : List Loc) (ls : Array Slot), L_51 x1 x2 S → gSh S S0 → gS D Y ad A s.heap S H locs → lv_has ls 3 [(0, .ref (ad k0)), (1, .int x1), (2, .int x2)] → W p l e (rmD 1) s m args below meth c H locs 0 0 (MQ below (gE D Y za ad S0 s.heap.size (fun r S9 => ∃ x, r = some (vI x) ∧ Q x S9)) args s 0 0 A) (F0 m 51 ls [])) (x1 : Int32) (x2 : Int32) (S : GS) (H : Heap) (locs : List Loc) (ls : Array Slot), wX9_finish_75 Q L_51 k0 x1 x2 S → gSh S S0 → gS D Y ad A s.heap S H locs → lv_has ls 3 [(0, .ref (ad k0)), (1, .int x1), (2, .int x2)] → W p l e (rmD 1) s m args below meth c H locs 0 0 (MQ below (gE D Y za ad S0 s.heap.size (fun r S9 => ∃ x, r = some (vI x) ∧ Q x S9)) args s 0 0 A) (F0 m 75 ls []) := by
    intro L_51 hL_51 x1 x2 S H locs ls h hsh hG hl
    unfold wX9_finish_75 at h
    refine lv_iinc (v := x2 + 1) (lv' := [(2, .int (x2 + 1)), (0, .ref (ad k0)), (1, .int x1)]) hx hb dX9_finish_75 hl (k := 2) rfl rfl (by decide) rfl (fun ls hl => ?_)
    refine lv_goto (tgt := 51) hx hb dX9_finish_78 (by decide) ?_
    exact hL_51 x1 (x2 + 1) S H locs ls h hsh hG (lv_sub hl [1, 2, 0] rfl)
  have b_51 : ∀  (f9 : Nat) (x1 : Int32) (x2 : Int32) (S : GS) (H : Heap) (locs : List Loc) (ls : Array Slot), wX9_finish_51 Q k0 f9 x1 x2 S → gSh S S0 → gS D Y ad A s.heap S H locs → lv_has ls 3 [(0, .ref (ad k0)), (1, .int x1), (2, .int x2)] → W p l e (rmD 1) s m args below meth c H locs 0 0 (MQ below (gE D Y za ad S0 s.heap.size (fun r S9 => ∃ x, r = some (vI x) ∧ Q x S9)) args s 0 0 A) (F0 m 51 ls []) := by
    intro  f9
    induction f9 with
    | zero =>
      intro x1 x2 S H locs ls h
      exact False.elim (by unfold wX9_finish_51 at h; exact h)
    | succ f9 hL_51 =>
      intro x1 x2 S H locs ls h hsh hG hl
      unfold wX9_finish_51 at h
      refine lv_iload_n hx hb dX9_finish_51 rfl (lv_at hl 2 rfl) ?_
      refine lv_aload_n hx hb dX9_finish_52 rfl (lv_at hl 0 rfl) ?_
      obtain ⟨hk1, hq2, h⟩ := h
      refine g_get (ci := 9) (C := RX9) (T := TX9) (N := 36) hx hb hts hin9 hown hK hG hk1 (cell_9 hq2) rfl 19 (by decide) lk_175 (fun _ h9 => h9) (v := .int (gX S k0 19)) rfl dX9_finish_53 ?_
      refine lv_icmp_ge (tgt := 81) hx hb dX9_finish_56 (by decide) (fun c_56 => ?_) (fun c_56 => ?_)
      · have h := h.1 c_56
        refine lv_aload_n hx hb dX9_finish_81 rfl (lv_at hl 0 rfl) ?_
        refine lv_iconst (v := (-1)) hx hb dX9_finish_82 (by decide) ?_
        refine r_put (ci := 9) (C := RX9) (T := TX9) (N := 36) hx hb hts hin9 tyX9 tyX9_ok nmX9 hown hK hG hk1 (cell_9 hq2) rfl 30 (by decide) lk_77 (fun _ h9 => h9) rfl rfl rfl (Nat.le_of_ble_eq_true rfl) (S' := sX S k0 30 (-1)) rfl (pu_9_30 hq2 (-1)) dX9_finish_83 (fun H locs hG => ?_)
        obtain ⟨S3, eS_S3⟩ : ∃ z : GS, z = sX S k0 30 (-1) := ⟨_, rfl⟩
        have h := h S3 eS_S3
        rw [← eS_S3] at hG
        have hs_S3 : gSh S3 S := by rw [eS_S3]; exact gSh.x _ _ _ _
        have hsh := hs_S3.tr hsh
        have hk4 := hs_S3.lt hk1
        have hq5 := hs_S3.kd hq2
        refine lv_aload_n hx hb dX9_finish_86 rfl (lv_at hl 0 rfl) ?_
        refine lv_iconst (v := (-1)) hx hb dX9_finish_87 (by decide) ?_
        refine r_put (ci := 9) (C := RX9) (T := TX9) (N := 36) hx hb hts hin9 tyX9 tyX9_ok nmX9 hown hK hG hk4 (cell_9 hq5) rfl 31 (by decide) lk_81 (fun _ h9 => h9) rfl rfl rfl (Nat.le_of_ble_eq_true rfl) (S' := sX S3 k0 31 (-1)) rfl (pu_9_31 hq5 (-1)) dX9_finish_88 (fun H locs hG => ?_)
        obtain ⟨S6, eS_S6⟩ : ∃ z : GS, z = sX S3 k0 31 (-1) := ⟨_, rfl⟩
        have h := h S6 eS_S6
        rw [← eS_S6] at hG
        have hs_S6 : gSh S6 S3 := by rw [eS_S6]; exact gSh.x _ _ _ _
        have hsh := hs_S6.tr hsh
        have hk7 := hs_S6.lt hk4
        have hq8 := hs_S6.kd hq5
        refine lv_aload_n hx hb dX9_finish_91 rfl (lv_at hl 0 rfl) ?_
        refine lv_dup hx hb dX9_finish_92 rfl ?_
        refine g_get (ci := 9) (C := RX9) (T := TX9) (N := 36) hx hb hts hin9 hown hK hG hk7 (cell_9 hq8) rfl 20 (by decide) lk_182 (fun _ h9 => h9) (v := .int (gX S6 k0 20)) rfl dX9_finish_93 ?_
        refine lv_iconst (v := 1) hx hb dX9_finish_96 (by decide) ?_
        refine lv_iadd hx hb dX9_finish_97 ?_
        refine r_put (ci := 9) (C := RX9) (T := TX9) (N := 36) hx hb hts hin9 tyX9 tyX9_ok nmX9 hown hK hG hk7 (cell_9 hq8) rfl 20 (by decide) lk_182 (fun _ h9 => h9) rfl rfl rfl (Nat.le_of_ble_eq_true rfl) (S' := sX S6 k0 20 ((gX S6 k0 20) + 1)) rfl (pu_9_20 hq8 ((gX S6 k0 20) + 1)) dX9_finish_98 (fun H locs hG => ?_)
        obtain ⟨S9, eS_S9⟩ : ∃ z : GS, z = sX S6 k0 20 ((gX S6 k0 20) + 1) := ⟨_, rfl⟩
        have h := h S9 eS_S9
        rw [← eS_S9] at hG
        have hs_S9 : gSh S9 S6 := by rw [eS_S9]; exact gSh.x _ _ _ _
        have hsh := hs_S9.tr hsh
        have hk10 := hs_S9.lt hk7
        have hq11 := hs_S9.kd hq8
        refine lv_iload_n hx hb dX9_finish_101 rfl (lv_at hl 1 rfl) ?_
        exact W.iret (v := x1) hx hb hr (fun t ht hW => r_end (r := some (vI x1)) hAe hG hsh ⟨_, rfl, h⟩ rfl ht) hG.2.2.2.2 dX9_finish_102
      · have h := h.2 c_56
        refine lv_aload_n hx hb dX9_finish_59 rfl (lv_at hl 0 rfl) ?_
        refine g_get (ci := 9) (C := RX9) (T := TX9) (N := 36) hx hb hts hin9 hown hK hG hk1 (cell_9 hq2) rfl 11 (by decide) lk_32 (fun _ h9 => h9) (v := rv ad (gR S k0 11)) rfl dX9_finish_60 ?_
        refine lv_iload_n hx hb dX9_finish_63 rfl (lv_at hl 2 rfl) ?_
        obtain ⟨q12, e13, h⟩ := h
        refine W.eq (g2 := F0 m 64 ls [.int x2, .ref (ad q12)]) (by rw [e13]; rfl) ?_
        obtain ⟨hk14, hq15, h⟩ := h
        obtain ⟨hi16, h⟩ := h
        refine r_iald hx hb hK hG hk14 hq15 hi16 dX9_finish_64 ?_
        refine lv_if_ne (tgt := 75) hx hb dX9_finish_65 (by decide) (fun c_65 => ?_) (fun c_65 => ?_)
        · have h := h.1 c_65
          exact b_75 (wX9_finish_51 Q k0 f9) hL_51 x1 x2 S H locs ls h hsh hG (lv_sub hl [0, 1, 2] rfl)
        · have h := h.2 c_65
          refine lv_aload_n hx hb dX9_finish_68 rfl (lv_at hl 0 rfl) ?_
          refine g_get (ci := 9) (C := RX9) (T := TX9) (N := 36) hx hb hts hin9 hown hK hG hk1 (cell_9 hq2) rfl 11 (by decide) lk_32 (fun _ h9 => h9) (v := rv ad (gR S k0 11)) rfl dX9_finish_69 ?_
          refine lv_iload_n hx hb dX9_finish_72 rfl (lv_at hl 2 rfl) ?_
          refine lv_iconst (v := 2) hx hb dX9_finish_73 (by decide) ?_
          refine W.eq (g2 := F0 m 74 ls [.int 2, .int x2, .ref (ad q12)]) (by rw [e13]; rfl) ?_
          obtain ⟨hi17, h⟩ := h
          refine r_iast hx hb hK hG hk14 hq15 hi17 dX9_finish_74 (fun H locs hG => ?_)
          obtain ⟨S18, eS_S18⟩ : ∃ z : GS, z = sX S q12 (Int32.toNatClampNeg x2) 2 := ⟨_, rfl⟩
          have h := h S18 eS_S18
          rw [← eS_S18] at hG
          have hs_S18 : gSh S18 S := by rw [eS_S18]; exact gSh.x _ _ _ _
          have hsh := hs_S18.tr hsh
          have hk19 := hs_S18.lt hk1
          have hq20 := hs_S18.kd hq2
          have hk21 := hs_S18.lt hk14
          have hq22 := hs_S18.kd hq15
          exact b_75 (wX9_finish_51 Q k0 f9) hL_51 x1 x2 S18 H locs ls h hsh hG (lv_sub hl [0, 1, 2] rfl)
  have b_49 : ∀  (x1 : Int32) (S : GS) (H : Heap) (locs : List Loc) (ls : Array Slot), wX9_finish_49 Q k0 x1 S → gSh S S0 → gS D Y ad A s.heap S H locs → lv_has ls 3 [(0, .ref (ad k0)), (1, .int x1)] → W p l e (rmD 1) s m args below meth c H locs 0 0 (MQ below (gE D Y za ad S0 s.heap.size (fun r S9 => ∃ x, r = some (vI x) ∧ Q x S9)) args s 0 0 A) (F0 m 49 ls []) := by
    intro  x1 S H locs ls h hsh hG hl
    unfold wX9_finish_49 at h
    refine lv_iconst (v := 0) hx hb dX9_finish_49 (by decide) ?_
    refine lv_istore_n (lv' := [(2, .int 0), (0, .ref (ad k0)), (1, .int x1)]) hx hb dX9_finish_50 rfl hl (by decide) rfl (fun ls hl => ?_)
    obtain ⟨f23, h⟩ := h
    exact b_51 f23 x1 0 S H locs ls h hsh hG (lv_sub hl [1, 2, 0] rfl)
  have b_30 : ∀  (x1 : Int32) (S : GS) (H : Heap) (locs : List Loc) (ls : Array Slot), wX9_finish_30 Q k0 x1 S → gSh S S0 → gS D Y ad A s.heap S H locs → lv_has ls 3 [(0, .ref (ad k0)), (1, .int x1)] → W p l e (rmD 1) s m args below meth c H locs 0 0 (MQ below (gE D Y za ad S0 s.heap.size (fun r S9 => ∃ x, r = some (vI x) ∧ Q x S9)) args s 0 0 A) (F0 m 30 ls []) := by
    intro  x1 S H locs ls h hsh hG hl
    unfold wX9_finish_30 at h
    refine lv_aload_n hx hb dX9_finish_30 rfl (lv_at hl 0 rfl) ?_
    obtain ⟨hk24, hq25, h⟩ := h
    refine g_get (ci := 9) (C := RX9) (T := TX9) (N := 36) hx hb hts hin9 hown hK hG hk24 (cell_9 hq25) rfl 31 (by decide) lk_81 (fun _ h9 => h9) (v := .int (gX S k0 31)) rfl dX9_finish_31 ?_
    refine lv_iconst (v := (-1)) hx hb dX9_finish_34 (by decide) ?_
    refine lv_icmp_eq (tgt := 49) hx hb dX9_finish_35 (by decide) (fun c_35 => ?_) (fun c_35 => ?_)
    · have h := h.1 c_35
      exact b_49 x1 S H locs ls h hsh hG (lv_sub hl [0, 1] rfl)
    · have h := h.2 c_35
      refine lv_aload_n hx hb dX9_finish_38 rfl (lv_at hl 0 rfl) ?_
      refine lv_bipush (v := 8) hx hb dX9_finish_39 (by decide) ?_
      refine lv_aload_n hx hb dX9_finish_41 rfl (lv_at hl 0 rfl) ?_
      refine g_get (ci := 9) (C := RX9) (T := TX9) (N := 36) hx hb hts hin9 hown hK hG hk24 (cell_9 hq25) rfl 31 (by decide) lk_81 (fun _ h9 => h9) (v := .int (gX S k0 31)) rfl dX9_finish_42 ?_
      refine lv_iconst (v := 0) hx hb dX9_finish_45 (by decide) ?_
      refine r_callV (za := za) (k := k0) (ci := 9) (C := RX9) (T := TX9) (N := 36) (As := [vI 8, vI (gX S k0 31), vI 0]) (rest := []) (tX9_diagnose l S k0 8 (gX S k0 31) 0 _ h) ⟨hx, hb, hml, hown, hts⟩ (cwV 3 hts gX9_finish_X9_diagnose rfl rfl rfl (by decide +kernel) ⟨by decide, by decide⟩) hK hG hA hk24 (cell_9 hq25) rfl rfl hl.1 rfl (Nat.le_of_ble_eq_true rfl) ⟨Nat.le_refl _, Nat.le_refl _⟩ dX9_finish_46 (fun r_9 S26 H locs hp hs_S26 hG => ?_)
      obtain ⟨rfl, h⟩ := hp
      have h := h hs_S26
      refine W.eq (g2 := F0 m 49 ls []) rfl ?_
      have hsh := hs_S26.tr hsh
      have hk28 := hs_S26.lt hk24
      have hq29 := hs_S26.kd hq25
      exact b_49 x1 S26 H locs ls h hsh hG (lv_sub hl [0, 1] rfl)
  have hl : lv_has ls 3 [(0, .ref (ad k0))] := hl
  have hsh : gSh S S0 := by rw [hS0]; exact gSh.rf S
  obtain ⟨H, eH⟩ : ∃ z : Heap, z = s.heap := ⟨_, rfl⟩
  obtain ⟨locs, eL⟩ : ∃ z : List Loc, z = [] := ⟨_, rfl⟩
  have hG : gS D Y ad A s.heap S H locs := by rw [eH, eL]; exact hG
  suffices hgoal : W p l e (rmD 1) s m args below meth c H locs 0 0 (MQ below (gE D Y za ad S0 s.heap.size (fun r S9 => ∃ x, r = some (vI x) ∧ Q x S9)) args s 0 0 A) (F0 m 0 ls []) by rw [eH, eL] at hgoal; exact hgoal
  unfold wX9_finish at h
  refine lv_aload_n hx hb dX9_finish_0 rfl (lv_at hl 0 rfl) ?_
  refine lv_iconst (v := 0) hx hb dX9_finish_1 (by decide) ?_
  obtain ⟨hk30, hq31, h⟩ := h
  refine r_put (ci := 9) (C := RX9) (T := TX9) (N := 36) hx hb hts hin9 tyX9 tyX9_ok nmX9 hown hK hG hk30 (cell_9 hq31) rfl 32 (by decide) lk_84 (fun _ h9 => h9) rfl rfl rfl (Nat.le_of_ble_eq_true rfl) (S' := sX S k0 32 0) rfl (pu_9_32 hq31 0) dX9_finish_2 (fun H locs hG => ?_)
  obtain ⟨S32, eS_S32⟩ : ∃ z : GS, z = sX S k0 32 0 := ⟨_, rfl⟩
  have h := h S32 eS_S32
  rw [← eS_S32] at hG
  have hs_S32 : gSh S32 S := by rw [eS_S32]; exact gSh.x _ _ _ _
  have hsh := hs_S32.tr hsh
  have hk33 := hs_S32.lt hk30
  have hq34 := hs_S32.kd hq31
  refine lv_aload_n hx hb dX9_finish_5 rfl (lv_at hl 0 rfl) ?_
  refine lv_iconst (v := 0) hx hb dX9_finish_6 (by decide) ?_
  refine r_callV (za := za) (k := k0) (ci := 9) (C := RX9) (T := TX9) (N := 36) (As := [vI 0]) (rest := []) (tX9_owned l S32 k0 0 _ h) ⟨hx, hb, hml, hown, hts⟩ (cwV 1 hts gX9_finish_X9_owned rfl rfl rfl (by decide +kernel) ⟨by decide, by decide⟩) hK hG hA hk33 (cell_9 hq34) rfl rfl hl.1 rfl (Nat.le_of_ble_eq_true rfl) ⟨Nat.le_refl _, Nat.le_refl _⟩ dX9_finish_7 (fun r_9 S35 H locs hp hs_S35 hG => ?_)
  obtain ⟨u36, rfl, h⟩ := hp
  have h := h hs_S35
  refine W.eq (g2 := F0 m 10 ls [.int u36]) rfl ?_
  have hsh := hs_S35.tr hsh
  have hk37 := hs_S35.lt hk33
  have hq38 := hs_S35.kd hq34
  refine lv_istore_n (lv' := [(1, .int u36), (0, .ref (ad k0))]) hx hb dX9_finish_10 rfl hl (by decide) rfl (fun ls hl => ?_)
  refine lv_aload_n hx hb dX9_finish_11 rfl (lv_at hl 1 rfl) ?_
  refine g_get (ci := 9) (C := RX9) (T := TX9) (N := 36) hx hb hts hin9 hown hK hG hk37 (cell_9 hq38) rfl 30 (by decide) lk_77 (fun _ h9 => h9) (v := .int (gX S35 k0 30)) rfl dX9_finish_12 ?_
  refine lv_iconst (v := (-1)) hx hb dX9_finish_15 (by decide) ?_
  refine lv_icmp_eq (tgt := 30) hx hb dX9_finish_16 (by decide) (fun c_16 => ?_) (fun c_16 => ?_)
  · have h := h.1 c_16
    exact b_30 u36 S35 H locs ls h hsh hG (lv_sub hl [1, 0] rfl)
  · have h := h.2 c_16
    refine lv_aload_n hx hb dX9_finish_19 rfl (lv_at hl 1 rfl) ?_
    refine lv_bipush (v := 8) hx hb dX9_finish_20 (by decide) ?_
    refine lv_aload_n hx hb dX9_finish_22 rfl (lv_at hl 1 rfl) ?_
    refine g_get (ci := 9) (C := RX9) (T := TX9) (N := 36) hx hb hts hin9 hown hK hG hk37 (cell_9 hq38) rfl 30 (by decide) lk_77 (fun _ h9 => h9) (v := .int (gX S35 k0 30)) rfl dX9_finish_23 ?_
    refine lv_iconst (v := 0) hx hb dX9_finish_26 (by decide) ?_
    refine r_callV (za := za) (k := k0) (ci := 9) (C := RX9) (T := TX9) (N := 36) (As := [vI 8, vI (gX S35 k0 30), vI 0]) (rest := []) (tX9_diagnose l S35 k0 8 (gX S35 k0 30) 0 _ h) ⟨hx, hb, hml, hown, hts⟩ (cwV 3 hts gX9_finish_X9_diagnose rfl rfl rfl (by decide +kernel) ⟨by decide, by decide⟩) hK hG hA hk37 (cell_9 hq38) rfl rfl hl.1 rfl (Nat.le_of_ble_eq_true rfl) ⟨Nat.le_refl _, Nat.le_refl _⟩ dX9_finish_27 (fun r_9 S39 H locs hp hs_S39 hG => ?_)
    obtain ⟨rfl, h⟩ := hp
    have h := h hs_S39
    refine W.eq (g2 := F0 m 30 ls []) rfl ?_
    have hsh := hs_S39.tr hsh
    have hk41 := hs_S39.lt hk37
    have hq42 := hs_S39.kd hq38
    exact b_30 u36 S39 H locs ls h hsh hG (lv_sub hl [1, 0] rfl)
def wX9_type_26 (Q : Int32 → GS → Prop) (k0 : Nat)  (S : GS) : Prop :=
  Q 0 S
def wX9_type (S : GS) (k0 : Nat) (x1 : Int32) (Q : Int32 → GS → Prop) : Prop :=
  k0 < gN S ∧ gK S k0 = 9 ∧ ∀ S3 : GS, S3 = sX S k0 32 0 → ((gX S3 k0 1) = 72 → wX9_type_26 Q k0  S3) ∧ (¬ (gX S3 k0 1) = 72 → (x1 < 32 → wX9_type_26 Q k0  S3) ∧ (¬ x1 < 32 → (x1 ≤ 126 → ∃ q6 : Nat, gR S3 k0 0 = some q6 ∧ q6 < gN S3 ∧ gK S3 q6 = 11 ∧ vp_in (gX S3 k0 1) (gL S3 q6) ∧ ∀ S11 : GS, S11 = sX S3 q6 (Int32.toNatClampNeg (gX S3 k0 1)) x1 → ∀ S16 : GS, S16 = sX S11 k0 1 ((gX S11 k0 1) + 1) → Q 1 S16) ∧ (¬ x1 ≤ 126 → wX9_type_26 Q k0  S3)))
set_option maxHeartbeats 4000000 in
set_option maxRecDepth 100000 in
theorem tX9_type (l : Launch) (S : GS) (k0 : Nat) (x1 : Int32) (Q : Int32 → GS → Prop) (h : wX9_type S k0 x1 Q) : CS l yX9_type wsX9_type 0 S [vR (some k0), vI x1] (fun r S9 => ∃ x, r = some (vI x) ∧ Q x S9) := by
  refine CS.ofW (cc := cX9_type) (maxL := 2) (ret := (some .boolean)) RX9 (by decide) rfl rfl (fun _ _ => Nat.le_of_ble_eq_true rfl) ?_
  intro p e s m args below meth c D Y za ad A ls hAe hx hb hr hml hts hown hlocks hK hA hG hl
  obtain ⟨S0, hS0⟩ : ∃ z : GS, z = S := ⟨_, rfl⟩
  rw [← hS0] at hAe
  rw [← hS0]
  have hin9 : ∀ w ∈ wsX90, w ∈ wsX9_type := by decide +kernel
  have lk_84 := hts (.fieldLink RX9 84 "PauseLogModel" "thrown" "I") (by decide +kernel)
  have lk_143 := hts (.fieldLink RX9 143 "PauseLogModel" "padLong" "I") (by decide +kernel)
  have lk_7 := hts (.fieldLink RX9 7 "PauseLogModel" "pad" "[I") (by decide +kernel)
  have b_26 : ∀   (S : GS) (H : Heap) (locs : List Loc) (ls : Array Slot), wX9_type_26 Q k0  S → gSh S S0 → gS D Y ad A s.heap S H locs → lv_has ls 2 [] → W p l e (rmD 0) s m args below meth c H locs 0 0 (MQ below (gE D Y za ad S0 s.heap.size (fun r S9 => ∃ x, r = some (vI x) ∧ Q x S9)) args s 0 0 A) (F0 m 26 ls []) := by
    intro   S H locs ls h hsh hG hl
    unfold wX9_type_26 at h
    refine lv_iconst (v := 0) hx hb dX9_type_26 (by decide) ?_
    exact W.zret (v := 0) hx hb hr rfl (fun t ht hW => r_end (r := some (vI 0)) hAe hG hsh ⟨_, rfl, h⟩ rfl ht) hG.2.2.2.2 dX9_type_27
  have hl : lv_has ls 2 [(0, .ref (ad k0)), (1, .int x1)] := hl
  have hsh : gSh S S0 := by rw [hS0]; exact gSh.rf S
  obtain ⟨H, eH⟩ : ∃ z : Heap, z = s.heap := ⟨_, rfl⟩
  obtain ⟨locs, eL⟩ : ∃ z : List Loc, z = [] := ⟨_, rfl⟩
  have hG : gS D Y ad A s.heap S H locs := by rw [eH, eL]; exact hG
  suffices hgoal : W p l e (rmD 0) s m args below meth c H locs 0 0 (MQ below (gE D Y za ad S0 s.heap.size (fun r S9 => ∃ x, r = some (vI x) ∧ Q x S9)) args s 0 0 A) (F0 m 0 ls []) by rw [eH, eL] at hgoal; exact hgoal
  unfold wX9_type at h
  refine lv_aload_n hx hb dX9_type_0 rfl (lv_at hl 0 rfl) ?_
  refine lv_iconst (v := 0) hx hb dX9_type_1 (by decide) ?_
  obtain ⟨hk1, hq2, h⟩ := h
  refine r_put (ci := 9) (C := RX9) (T := TX9) (N := 36) hx hb hts hin9 tyX9 tyX9_ok nmX9 hown hK hG hk1 (cell_9 hq2) rfl 32 (by decide) lk_84 (fun _ h9 => h9) rfl rfl rfl (Nat.le_of_ble_eq_true rfl) (S' := sX S k0 32 0) rfl (pu_9_32 hq2 0) dX9_type_2 (fun H locs hG => ?_)
  obtain ⟨S3, eS_S3⟩ : ∃ z : GS, z = sX S k0 32 0 := ⟨_, rfl⟩
  have h := h S3 eS_S3
  rw [← eS_S3] at hG
  have hs_S3 : gSh S3 S := by rw [eS_S3]; exact gSh.x _ _ _ _
  have hsh := hs_S3.tr hsh
  have hk4 := hs_S3.lt hk1
  have hq5 := hs_S3.kd hq2
  refine lv_aload_n hx hb dX9_type_5 rfl (lv_at hl 0 rfl) ?_
  refine g_get (ci := 9) (C := RX9) (T := TX9) (N := 36) hx hb hts hin9 hown hK hG hk4 (cell_9 hq5) rfl 1 (by decide) lk_143 (fun _ h9 => h9) (v := .int (gX S3 k0 1)) rfl dX9_type_6 ?_
  refine lv_bipush (v := 72) hx hb dX9_type_9 (by decide) ?_
  refine lv_icmp_eq (tgt := 26) hx hb dX9_type_11 (by decide) (fun c_11 => ?_) (fun c_11 => ?_)
  · have h := h.1 c_11
    exact b_26  S3 H locs ls h hsh hG (lv_sub hl [] rfl)
  · have h := h.2 c_11
    refine lv_iload_n hx hb dX9_type_14 rfl (lv_at hl 1 rfl) ?_
    refine lv_bipush (v := 32) hx hb dX9_type_15 (by decide) ?_
    refine lv_icmp_lt (tgt := 26) hx hb dX9_type_17 (by decide) (fun c_17 => ?_) (fun c_17 => ?_)
    · have h := h.1 c_17
      exact b_26  S3 H locs ls h hsh hG (lv_sub hl [] rfl)
    · have h := h.2 c_17
      refine lv_iload_n hx hb dX9_type_20 rfl (lv_at hl 1 rfl) ?_
      refine lv_bipush (v := 126) hx hb dX9_type_21 (by decide) ?_
      refine lv_icmp_le (tgt := 28) hx hb dX9_type_23 (by decide) (fun c_23 => ?_) (fun c_23 => ?_)
      · have h := h.1 c_23
        refine lv_aload_n hx hb dX9_type_28 rfl (lv_at hl 0 rfl) ?_
        refine g_get (ci := 9) (C := RX9) (T := TX9) (N := 36) hx hb hts hin9 hown hK hG hk4 (cell_9 hq5) rfl 0 (by decide) lk_7 (fun _ h9 => h9) (v := rv ad (gR S3 k0 0)) rfl dX9_type_29 ?_
        refine lv_aload_n hx hb dX9_type_32 rfl (lv_at hl 0 rfl) ?_
        refine g_get (ci := 9) (C := RX9) (T := TX9) (N := 36) hx hb hts hin9 hown hK hG hk4 (cell_9 hq5) rfl 1 (by decide) lk_143 (fun _ h9 => h9) (v := .int (gX S3 k0 1)) rfl dX9_type_33 ?_
        refine lv_iload_n hx hb dX9_type_36 rfl (lv_at hl 1 rfl) ?_
        obtain ⟨q6, e7, h⟩ := h
        refine W.eq (g2 := F0 m 37 ls [.int x1, .int (gX S3 k0 1), .ref (ad q6)]) (by rw [e7]; rfl) ?_
        obtain ⟨hk8, hq9, h⟩ := h
        obtain ⟨hi10, h⟩ := h
        refine r_iast hx hb hK hG hk8 hq9 hi10 dX9_type_37 (fun H locs hG => ?_)
        obtain ⟨S11, eS_S11⟩ : ∃ z : GS, z = sX S3 q6 (Int32.toNatClampNeg (gX S3 k0 1)) x1 := ⟨_, rfl⟩
        have h := h S11 eS_S11
        rw [← eS_S11] at hG
        have hs_S11 : gSh S11 S3 := by rw [eS_S11]; exact gSh.x _ _ _ _
        have hsh := hs_S11.tr hsh
        have hk12 := hs_S11.lt hk4
        have hq13 := hs_S11.kd hq5
        have hk14 := hs_S11.lt hk8
        have hq15 := hs_S11.kd hq9
        refine lv_aload_n hx hb dX9_type_38 rfl (lv_at hl 0 rfl) ?_
        refine lv_dup hx hb dX9_type_39 rfl ?_
        refine g_get (ci := 9) (C := RX9) (T := TX9) (N := 36) hx hb hts hin9 hown hK hG hk12 (cell_9 hq13) rfl 1 (by decide) lk_143 (fun _ h9 => h9) (v := .int (gX S11 k0 1)) rfl dX9_type_40 ?_
        refine lv_iconst (v := 1) hx hb dX9_type_43 (by decide) ?_
        refine lv_iadd hx hb dX9_type_44 ?_
        refine r_put (ci := 9) (C := RX9) (T := TX9) (N := 36) hx hb hts hin9 tyX9 tyX9_ok nmX9 hown hK hG hk12 (cell_9 hq13) rfl 1 (by decide) lk_143 (fun _ h9 => h9) rfl rfl rfl (Nat.le_of_ble_eq_true rfl) (S' := sX S11 k0 1 ((gX S11 k0 1) + 1)) rfl (pu_9_1 hq13 ((gX S11 k0 1) + 1)) dX9_type_45 (fun H locs hG => ?_)
        obtain ⟨S16, eS_S16⟩ : ∃ z : GS, z = sX S11 k0 1 ((gX S11 k0 1) + 1) := ⟨_, rfl⟩
        have h := h S16 eS_S16
        rw [← eS_S16] at hG
        have hs_S16 : gSh S16 S11 := by rw [eS_S16]; exact gSh.x _ _ _ _
        have hsh := hs_S16.tr hsh
        have hk17 := hs_S16.lt hk12
        have hq18 := hs_S16.kd hq13
        have hk19 := hs_S16.lt hk14
        have hq20 := hs_S16.kd hq15
        refine lv_iconst (v := 1) hx hb dX9_type_48 (by decide) ?_
        exact W.zret (v := 1) hx hb hr rfl (fun t ht hW => r_end (r := some (vI 1)) hAe hG hsh ⟨_, rfl, h⟩ rfl ht) hG.2.2.2.2 dX9_type_49
      · have h := h.2 c_23
        exact b_26  S3 H locs ls h hsh hG (lv_sub hl [] rfl)
def wX9_drop_38 (Q : Int32 → GS → Prop) (k0 : Nat) (t0 : Int32) (S : GS) : Prop :=
  k0 < gN S ∧ gK S k0 = 9 ∧ ∀ S3 : GS, S3 = sX S k0 1 ((gX S k0 1) - t0) → Q t0 S3
def wX9_drop_10 (Q : Int32 → GS → Prop) (k0 : Nat) (x1 : Int32) (t0 : Nat) (t1 : Int32) (S : GS) : Prop :=
  t0 < gN S ∧ gK S t0 = 9 ∧ ∀ S8 : GS, S8 = sX S t0 32 t1 → k0 < gN S8 ∧ gK S8 k0 = 9 ∧ ((gX S8 k0 32) = 0 → ((gX S8 k0 1) ≤ x1 → wX9_drop_38 Q k0 (gX S8 k0 1) S8) ∧ (¬ (gX S8 k0 1) ≤ x1 → wX9_drop_38 Q k0 x1 S8)) ∧ (¬ (gX S8 k0 32) = 0 → Q 0 S8)
def wX9_drop (S : GS) (k0 : Nat) (x1 : Int32) (Q : Int32 → GS → Prop) : Prop :=
  ((0 : Int32) ≤ x1 → wX9_drop_10 Q k0 x1 k0 0 S) ∧ (¬ (0 : Int32) ≤ x1 → wX9_drop_10 Q k0 x1 k0 1 S)
set_option maxHeartbeats 4000000 in
set_option maxRecDepth 100000 in
theorem tX9_drop (l : Launch) (S : GS) (k0 : Nat) (x1 : Int32) (Q : Int32 → GS → Prop) (h : wX9_drop S k0 x1 Q) : CS l yX9_drop wsX9_drop 0 S [vR (some k0), vI x1] (fun r S9 => ∃ x, r = some (vI x) ∧ Q x S9) := by
  refine CS.ofW (cc := cX9_drop) (maxL := 3) (ret := (some .int)) RX9 (by decide) rfl rfl (fun _ _ => Nat.le_of_ble_eq_true rfl) ?_
  intro p e s m args below meth c D Y za ad A ls hAe hx hb hr hml hts hown hlocks hK hA hG hl
  obtain ⟨S0, hS0⟩ : ∃ z : GS, z = S := ⟨_, rfl⟩
  rw [← hS0] at hAe
  rw [← hS0]
  have hin9 : ∀ w ∈ wsX90, w ∈ wsX9_drop := by decide +kernel
  have lk_84 := hts (.fieldLink RX9 84 "PauseLogModel" "thrown" "I") (by decide +kernel)
  have lk_143 := hts (.fieldLink RX9 143 "PauseLogModel" "padLong" "I") (by decide +kernel)
  have b_38 : ∀  (t0 : Int32) (S : GS) (H : Heap) (locs : List Loc) (ls : Array Slot), wX9_drop_38 Q k0 t0 S → gSh S S0 → gS D Y ad A s.heap S H locs → lv_has ls 3 [(0, .ref (ad k0))] → W p l e (rmD 0) s m args below meth c H locs 0 0 (MQ below (gE D Y za ad S0 s.heap.size (fun r S9 => ∃ x, r = some (vI x) ∧ Q x S9)) args s 0 0 A) (F0 m 38 ls [.int t0]) := by
    intro  t0 S H locs ls h hsh hG hl
    unfold wX9_drop_38 at h
    refine lv_istore_n (lv' := [(2, .int t0), (0, .ref (ad k0))]) hx hb dX9_drop_38 rfl hl (by decide) rfl (fun ls hl => ?_)
    refine lv_aload_n hx hb dX9_drop_39 rfl (lv_at hl 1 rfl) ?_
    refine lv_dup hx hb dX9_drop_40 rfl ?_
    obtain ⟨hk1, hq2, h⟩ := h
    refine g_get (ci := 9) (C := RX9) (T := TX9) (N := 36) hx hb hts hin9 hown hK hG hk1 (cell_9 hq2) rfl 1 (by decide) lk_143 (fun _ h9 => h9) (v := .int (gX S k0 1)) rfl dX9_drop_41 ?_
    refine lv_iload_n hx hb dX9_drop_44 rfl (lv_at hl 0 rfl) ?_
    refine lv_isub hx hb dX9_drop_45 ?_
    refine r_put (ci := 9) (C := RX9) (T := TX9) (N := 36) hx hb hts hin9 tyX9 tyX9_ok nmX9 hown hK hG hk1 (cell_9 hq2) rfl 1 (by decide) lk_143 (fun _ h9 => h9) rfl rfl rfl (Nat.le_of_ble_eq_true rfl) (S' := sX S k0 1 ((gX S k0 1) - t0)) rfl (pu_9_1 hq2 ((gX S k0 1) - t0)) dX9_drop_46 (fun H locs hG => ?_)
    obtain ⟨S3, eS_S3⟩ : ∃ z : GS, z = sX S k0 1 ((gX S k0 1) - t0) := ⟨_, rfl⟩
    have h := h S3 eS_S3
    rw [← eS_S3] at hG
    have hs_S3 : gSh S3 S := by rw [eS_S3]; exact gSh.x _ _ _ _
    have hsh := hs_S3.tr hsh
    have hk4 := hs_S3.lt hk1
    have hq5 := hs_S3.kd hq2
    refine lv_iload_n hx hb dX9_drop_49 rfl (lv_at hl 0 rfl) ?_
    exact W.iret (v := t0) hx hb hr (fun t ht hW => r_end (r := some (vI t0)) hAe hG hsh ⟨_, rfl, h⟩ rfl ht) hG.2.2.2.2 dX9_drop_50
  have b_10 : ∀  (x1 : Int32) (t0 : Nat) (t1 : Int32) (S : GS) (H : Heap) (locs : List Loc) (ls : Array Slot), wX9_drop_10 Q k0 x1 t0 t1 S → gSh S S0 → gS D Y ad A s.heap S H locs → lv_has ls 3 [(0, .ref (ad k0)), (1, .int x1)] → W p l e (rmD 0) s m args below meth c H locs 0 0 (MQ below (gE D Y za ad S0 s.heap.size (fun r S9 => ∃ x, r = some (vI x) ∧ Q x S9)) args s 0 0 A) (F0 m 10 ls [.int t1, .ref (ad t0)]) := by
    intro  x1 t0 t1 S H locs ls h hsh hG hl
    unfold wX9_drop_10 at h
    obtain ⟨hk6, hq7, h⟩ := h
    refine r_put (ci := 9) (C := RX9) (T := TX9) (N := 36) hx hb hts hin9 tyX9 tyX9_ok nmX9 hown hK hG hk6 (cell_9 hq7) rfl 32 (by decide) lk_84 (fun _ h9 => h9) rfl rfl rfl (Nat.le_of_ble_eq_true rfl) (S' := sX S t0 32 t1) rfl (pu_9_32 hq7 t1) dX9_drop_10 (fun H locs hG => ?_)
    obtain ⟨S8, eS_S8⟩ : ∃ z : GS, z = sX S t0 32 t1 := ⟨_, rfl⟩
    have h := h S8 eS_S8
    rw [← eS_S8] at hG
    have hs_S8 : gSh S8 S := by rw [eS_S8]; exact gSh.x _ _ _ _
    have hsh := hs_S8.tr hsh
    have hk9 := hs_S8.lt hk6
    have hq10 := hs_S8.kd hq7
    refine lv_aload_n hx hb dX9_drop_13 rfl (lv_at hl 0 rfl) ?_
    obtain ⟨hk11, hq12, h⟩ := h
    refine g_get (ci := 9) (C := RX9) (T := TX9) (N := 36) hx hb hts hin9 hown hK hG hk11 (cell_9 hq12) rfl 32 (by decide) lk_84 (fun _ h9 => h9) (v := .int (gX S8 k0 32)) rfl dX9_drop_14 ?_
    refine lv_if_eq (tgt := 22) hx hb dX9_drop_17 (by decide) (fun c_17 => ?_) (fun c_17 => ?_)
    · have h := h.1 c_17
      refine lv_iload_n hx hb dX9_drop_22 rfl (lv_at hl 1 rfl) ?_
      refine lv_aload_n hx hb dX9_drop_23 rfl (lv_at hl 0 rfl) ?_
      refine g_get (ci := 9) (C := RX9) (T := TX9) (N := 36) hx hb hts hin9 hown hK hG hk11 (cell_9 hq12) rfl 1 (by decide) lk_143 (fun _ h9 => h9) (v := .int (gX S8 k0 1)) rfl dX9_drop_24 ?_
      refine lv_icmp_ge (tgt := 34) hx hb dX9_drop_27 (by decide) (fun c_27 => ?_) (fun c_27 => ?_)
      · have h := h.1 c_27
        refine lv_aload_n hx hb dX9_drop_34 rfl (lv_at hl 0 rfl) ?_
        refine g_get (ci := 9) (C := RX9) (T := TX9) (N := 36) hx hb hts hin9 hown hK hG hk11 (cell_9 hq12) rfl 1 (by decide) lk_143 (fun _ h9 => h9) (v := .int (gX S8 k0 1)) rfl dX9_drop_35 ?_
        exact b_38 (gX S8 k0 1) S8 H locs ls h hsh hG (lv_sub hl [0] rfl)
      · have h := h.2 c_27
        refine lv_iload_n hx hb dX9_drop_30 rfl (lv_at hl 1 rfl) ?_
        refine lv_goto (tgt := 38) hx hb dX9_drop_31 (by decide) ?_
        exact b_38 x1 S8 H locs ls h hsh hG (lv_sub hl [0] rfl)
    · have h := h.2 c_17
      refine lv_iconst (v := 0) hx hb dX9_drop_20 (by decide) ?_
      exact W.iret (v := 0) hx hb hr (fun t ht hW => r_end (r := some (vI 0)) hAe hG hsh ⟨_, rfl, h⟩ rfl ht) hG.2.2.2.2 dX9_drop_21
  have hl : lv_has ls 3 [(0, .ref (ad k0)), (1, .int x1)] := hl
  have hsh : gSh S S0 := by rw [hS0]; exact gSh.rf S
  obtain ⟨H, eH⟩ : ∃ z : Heap, z = s.heap := ⟨_, rfl⟩
  obtain ⟨locs, eL⟩ : ∃ z : List Loc, z = [] := ⟨_, rfl⟩
  have hG : gS D Y ad A s.heap S H locs := by rw [eH, eL]; exact hG
  suffices hgoal : W p l e (rmD 0) s m args below meth c H locs 0 0 (MQ below (gE D Y za ad S0 s.heap.size (fun r S9 => ∃ x, r = some (vI x) ∧ Q x S9)) args s 0 0 A) (F0 m 0 ls []) by rw [eH, eL] at hgoal; exact hgoal
  unfold wX9_drop at h
  refine lv_aload_n hx hb dX9_drop_0 rfl (lv_at hl 0 rfl) ?_
  refine lv_iload_n hx hb dX9_drop_1 rfl (lv_at hl 1 rfl) ?_
  refine lv_if_ge (tgt := 9) hx hb dX9_drop_2 (by decide) (fun c_2 => ?_) (fun c_2 => ?_)
  · have h := h.1 c_2
    refine lv_iconst (v := 0) hx hb dX9_drop_9 (by decide) ?_
    exact b_10 x1 k0 0 S H locs ls h hsh hG (lv_sub hl [0, 1] rfl)
  · have h := h.2 c_2
    refine lv_iconst (v := 1) hx hb dX9_drop_5 (by decide) ?_
    refine lv_goto (tgt := 10) hx hb dX9_drop_6 (by decide) ?_
    exact b_10 x1 k0 1 S H locs ls h hsh hG (lv_sub hl [0, 1] rfl)
