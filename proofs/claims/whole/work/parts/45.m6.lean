def wX9_span_68 (Q : Int64 → GS → Prop) (L_7 : Int64 → Int32 → Int32 → GS → Prop) (k0 : Nat) (x1 : Int64) (x3 : Int32) (x4 : Int32) (S : GS) : Prop :=
  L_7 x1 x3 (x4 + 1) S
def wX9_span_65 (Q : Int64 → GS → Prop) (L_7 : Int64 → Int32 → Int32 → GS → Prop) (k0 : Nat) (x1 : Int64) (x4 : Int32) (S : GS) : Prop :=
  wX9_span_68 Q L_7 k0 x1 x4 x4 S
def wX9_span_7 (Q : Int64 → GS → Prop) (k0 : Nat) : Nat → Int64 → Int32 → Int32 → GS → Prop
  | 0, _, _, _, _ => False
  | f9 + 1, x1, x3, x4, S =>
  k0 < gN S ∧ gK S k0 = 9 ∧ ((gX S k0 19) ≤ x4 → Q x1 S) ∧ (¬ (gX S k0 19) ≤ x4 → ∃ q3 : Nat, gR S k0 9 = some q3 ∧ q3 < gN S ∧ gK S q3 = 12 ∧ vp_in x4 (gL S q3) ∧ ((gX S q3 (Int32.toNatClampNeg x4)) = 0 → wX9_span_68 Q (wX9_span_7 Q k0 f9) k0 x1 x3 x4 S) ∧ (¬ (gX S q3 (Int32.toNatClampNeg x4)) = 0 → (x3 = (-1) → wX9_span_65 Q (wX9_span_7 Q k0 f9) k0 x1 x4 S) ∧ (¬ x3 = (-1) → ∃ q8 : Nat, gR S k0 8 = some q8 ∧ q8 < gN S ∧ gK S q8 = 11 ∧ vp_in x3 (gL S q8) ∧ vp_in x4 (gL S q8) ∧ (¬ (gX S q8 (Int32.toNatClampNeg x3)) = (gX S q8 (Int32.toNatClampNeg x4)) → wX9_span_65 Q (wX9_span_7 Q k0 f9) k0 x1 x4 S) ∧ ((gX S q8 (Int32.toNatClampNeg x3)) = (gX S q8 (Int32.toNatClampNeg x4)) → ∃ q14 : Nat, gR S k0 15 = some q14 ∧ q14 < gN S ∧ gK S q14 = 11 ∧ vp_in x4 (gL S q14) ∧ vp_in x3 (gL S q14) ∧ wX9_span_65 Q (wX9_span_7 Q k0 f9) k0 (x1 + (Int32.toInt64 ((gX S q14 (Int32.toNatClampNeg x4)) - (gX S q14 (Int32.toNatClampNeg x3))))) x4 S))))
def wX9_span (S : GS) (k0 : Nat) (Q : Int64 → GS → Prop) : Prop :=
  ∃ f20 : Nat, wX9_span_7 Q k0 f20 0 (-1) 0 S
set_option maxHeartbeats 4000000 in
set_option maxRecDepth 100000 in
theorem tX9_span (l : Launch) (S : GS) (k0 : Nat) (Q : Int64 → GS → Prop) (h : wX9_span S k0 Q) : CS l yX9_span wsX9_span 0 S [vR (some k0)] (fun r S9 => ∃ x, r = some (vL x) ∧ Q x S9) := by
  refine CS.ofW (cc := cX9_span) (maxL := 5) (ret := (some .long)) RX9 (by decide) rfl rfl (fun _ _ => Nat.le_of_ble_eq_true rfl) ?_
  intro p e s m args below meth c D Y za ad A ls hAe hx hb hr hml hts hown hlocks hK hA hG hl
  obtain ⟨S0, hS0⟩ : ∃ z : GS, z = S := ⟨_, rfl⟩
  rw [← hS0] at hAe
  rw [← hS0]
  have hin9 : ∀ w ∈ wsX90, w ∈ wsX9_span := by decide +kernel
  have lk_175 := hts (.fieldLink RX9 175 "PauseLogModel" "lines" "I") (by decide +kernel)
  have lk_25 := hts (.fieldLink RX9 25 "PauseLogModel" "inTime" "[Z") (by decide +kernel)
  have lk_22 := hts (.fieldLink RX9 22 "PauseLogModel" "log" "[I") (by decide +kernel)
  have lk_44 := hts (.fieldLink RX9 44 "PauseLogModel" "time" "[I") (by decide +kernel)
  have b_68 : ∀ (L_7 : Int64 → Int32 → Int32 → GS → Prop) (hL_7 : ∀ (x1 : Int64) (x3 : Int32) (x4 : Int32) (S : GS) (H : Heap) (locs : List Loc) (ls : Array Slot), L_7 x1 x3 x4 S → gSh S S0 → gS D Y ad A s.heap S H locs → lv_has ls 5 [(0, .ref (ad k0)), (1, .long x1), (3, .int x3), (4, .int x4)] → W p l e (rmD 0) s m args below meth c H locs 0 0 (MQ below (gE D Y za ad S0 s.heap.size (fun r S9 => ∃ x, r = some (vL x) ∧ Q x S9)) args s 0 0 A) (F0 m 7 ls [])) (x1 : Int64) (x3 : Int32) (x4 : Int32) (S : GS) (H : Heap) (locs : List Loc) (ls : Array Slot), wX9_span_68 Q L_7 k0 x1 x3 x4 S → gSh S S0 → gS D Y ad A s.heap S H locs → lv_has ls 5 [(0, .ref (ad k0)), (1, .long x1), (3, .int x3), (4, .int x4)] → W p l e (rmD 0) s m args below meth c H locs 0 0 (MQ below (gE D Y za ad S0 s.heap.size (fun r S9 => ∃ x, r = some (vL x) ∧ Q x S9)) args s 0 0 A) (F0 m 68 ls []) := by
    intro L_7 hL_7 x1 x3 x4 S H locs ls h hsh hG hl
    unfold wX9_span_68 at h
    refine lv_iinc (v := x4 + 1) (lv' := [(4, .int (x4 + 1)), (0, .ref (ad k0)), (1, .long x1), (3, .int x3)]) hx hb dX9_span_68 hl (k := 3) rfl rfl (by decide) rfl (fun ls hl => ?_)
    refine lv_goto (tgt := 7) hx hb dX9_span_71 (by decide) ?_
    exact hL_7 x1 x3 (x4 + 1) S H locs ls h hsh hG (lv_sub hl [1, 2, 3, 0] rfl)
  have b_65 : ∀ (L_7 : Int64 → Int32 → Int32 → GS → Prop) (hL_7 : ∀ (x1 : Int64) (x3 : Int32) (x4 : Int32) (S : GS) (H : Heap) (locs : List Loc) (ls : Array Slot), L_7 x1 x3 x4 S → gSh S S0 → gS D Y ad A s.heap S H locs → lv_has ls 5 [(0, .ref (ad k0)), (1, .long x1), (3, .int x3), (4, .int x4)] → W p l e (rmD 0) s m args below meth c H locs 0 0 (MQ below (gE D Y za ad S0 s.heap.size (fun r S9 => ∃ x, r = some (vL x) ∧ Q x S9)) args s 0 0 A) (F0 m 7 ls [])) (x1 : Int64) (x4 : Int32) (S : GS) (H : Heap) (locs : List Loc) (ls : Array Slot), wX9_span_65 Q L_7 k0 x1 x4 S → gSh S S0 → gS D Y ad A s.heap S H locs → lv_has ls 5 [(0, .ref (ad k0)), (1, .long x1), (4, .int x4)] → W p l e (rmD 0) s m args below meth c H locs 0 0 (MQ below (gE D Y za ad S0 s.heap.size (fun r S9 => ∃ x, r = some (vL x) ∧ Q x S9)) args s 0 0 A) (F0 m 65 ls []) := by
    intro L_7 hL_7 x1 x4 S H locs ls h hsh hG hl
    unfold wX9_span_65 at h
    refine lv_iload hx hb dX9_span_65 (lv_at hl 2 rfl) ?_
    refine lv_istore_n (lv' := [(3, .int x4), (0, .ref (ad k0)), (1, .long x1), (4, .int x4)]) hx hb dX9_span_67 rfl hl (by decide) rfl (fun ls hl => ?_)
    exact b_68 L_7 hL_7 x1 x4 x4 S H locs ls h hsh hG (lv_sub hl [1, 2, 0, 3] rfl)
  have b_7 : ∀  (f9 : Nat) (x1 : Int64) (x3 : Int32) (x4 : Int32) (S : GS) (H : Heap) (locs : List Loc) (ls : Array Slot), wX9_span_7 Q k0 f9 x1 x3 x4 S → gSh S S0 → gS D Y ad A s.heap S H locs → lv_has ls 5 [(0, .ref (ad k0)), (1, .long x1), (3, .int x3), (4, .int x4)] → W p l e (rmD 0) s m args below meth c H locs 0 0 (MQ below (gE D Y za ad S0 s.heap.size (fun r S9 => ∃ x, r = some (vL x) ∧ Q x S9)) args s 0 0 A) (F0 m 7 ls []) := by
    intro  f9
    induction f9 with
    | zero =>
      intro x1 x3 x4 S H locs ls h
      exact False.elim (by unfold wX9_span_7 at h; exact h)
    | succ f9 hL_7 =>
      intro x1 x3 x4 S H locs ls h hsh hG hl
      unfold wX9_span_7 at h
      refine lv_iload hx hb dX9_span_7 (lv_at hl 3 rfl) ?_
      refine lv_aload_n hx hb dX9_span_9 rfl (lv_at hl 0 rfl) ?_
      obtain ⟨hk1, hq2, h⟩ := h
      refine g_get (ci := 9) (C := RX9) (T := TX9) (N := 36) hx hb hts hin9 hown hK hG hk1 (cell_9 hq2) rfl 19 (by decide) lk_175 (fun _ h9 => h9) (v := .int (gX S k0 19)) rfl dX9_span_10 ?_
      refine lv_icmp_ge (tgt := 74) hx hb dX9_span_13 (by decide) (fun c_13 => ?_) (fun c_13 => ?_)
      · have h := h.1 c_13
        refine lv_lload_n hx hb dX9_span_74 rfl (lv_at hl 1 rfl) ?_
        exact W.lret (v := x1) hx hb hr (fun t ht hW => r_end (r := some (vL x1)) hAe hG hsh ⟨_, rfl, h⟩ rfl ht) hG.2.2.2.2 dX9_span_75
      · have h := h.2 c_13
        refine lv_aload_n hx hb dX9_span_16 rfl (lv_at hl 0 rfl) ?_
        refine g_get (ci := 9) (C := RX9) (T := TX9) (N := 36) hx hb hts hin9 hown hK hG hk1 (cell_9 hq2) rfl 9 (by decide) lk_25 (fun _ h9 => h9) (v := rv ad (gR S k0 9)) rfl dX9_span_17 ?_
        refine lv_iload hx hb dX9_span_20 (lv_at hl 3 rfl) ?_
        obtain ⟨q3, e4, h⟩ := h
        refine W.eq (g2 := F0 m 22 ls [.int x4, .ref (ad q3)]) (by rw [e4]; rfl) ?_
        obtain ⟨hk5, hq6, h⟩ := h
        obtain ⟨hi7, h⟩ := h
        refine r_zald hx hb hK hG hk5 hq6 hi7 dX9_span_22 ?_
        refine lv_if_eq (tgt := 68) hx hb dX9_span_23 (by decide) (fun c_23 => ?_) (fun c_23 => ?_)
        · have h := h.1 c_23
          exact b_68 (wX9_span_7 Q k0 f9) hL_7 x1 x3 x4 S H locs ls h hsh hG (lv_sub hl [0, 1, 2, 3] rfl)
        · have h := h.2 c_23
          refine lv_iload_n hx hb dX9_span_26 rfl (lv_at hl 2 rfl) ?_
          refine lv_iconst (v := (-1)) hx hb dX9_span_27 (by decide) ?_
          refine lv_icmp_eq (tgt := 65) hx hb dX9_span_28 (by decide) (fun c_28 => ?_) (fun c_28 => ?_)
          · have h := h.1 c_28
            exact b_65 (wX9_span_7 Q k0 f9) hL_7 x1 x4 S H locs ls h hsh hG (lv_sub hl [0, 1, 3] rfl)
          · have h := h.2 c_28
            refine lv_aload_n hx hb dX9_span_31 rfl (lv_at hl 0 rfl) ?_
            refine g_get (ci := 9) (C := RX9) (T := TX9) (N := 36) hx hb hts hin9 hown hK hG hk1 (cell_9 hq2) rfl 8 (by decide) lk_22 (fun _ h9 => h9) (v := rv ad (gR S k0 8)) rfl dX9_span_32 ?_
            refine lv_iload_n hx hb dX9_span_35 rfl (lv_at hl 2 rfl) ?_
            obtain ⟨q8, e9, h⟩ := h
            refine W.eq (g2 := F0 m 36 ls [.int x3, .ref (ad q8)]) (by rw [e9]; rfl) ?_
            obtain ⟨hk10, hq11, h⟩ := h
            obtain ⟨hi12, h⟩ := h
            refine r_iald hx hb hK hG hk10 hq11 hi12 dX9_span_36 ?_
            refine lv_aload_n hx hb dX9_span_37 rfl (lv_at hl 0 rfl) ?_
            refine g_get (ci := 9) (C := RX9) (T := TX9) (N := 36) hx hb hts hin9 hown hK hG hk1 (cell_9 hq2) rfl 8 (by decide) lk_22 (fun _ h9 => h9) (v := rv ad (gR S k0 8)) rfl dX9_span_38 ?_
            refine lv_iload hx hb dX9_span_41 (lv_at hl 3 rfl) ?_
            refine W.eq (g2 := F0 m 43 ls [.int x4, .ref (ad q8), .int (gX S q8 (Int32.toNatClampNeg x3))]) (by rw [e9]; rfl) ?_
            obtain ⟨hi13, h⟩ := h
            refine r_iald hx hb hK hG hk10 hq11 hi13 dX9_span_43 ?_
            refine lv_icmp_ne (tgt := 65) hx hb dX9_span_44 (by decide) (fun c_44 => ?_) (fun c_44 => ?_)
            · have h := h.1 c_44
              exact b_65 (wX9_span_7 Q k0 f9) hL_7 x1 x4 S H locs ls h hsh hG (lv_sub hl [0, 1, 3] rfl)
            · have h := h.2 c_44
              refine lv_lload_n hx hb dX9_span_47 rfl (lv_at hl 1 rfl) ?_
              refine lv_aload_n hx hb dX9_span_48 rfl (lv_at hl 0 rfl) ?_
              refine g_get (ci := 9) (C := RX9) (T := TX9) (N := 36) hx hb hts hin9 hown hK hG hk1 (cell_9 hq2) rfl 15 (by decide) lk_44 (fun _ h9 => h9) (v := rv ad (gR S k0 15)) rfl dX9_span_49 ?_
              refine lv_iload hx hb dX9_span_52 (lv_at hl 3 rfl) ?_
              obtain ⟨q14, e15, h⟩ := h
              refine W.eq (g2 := F0 m 54 ls [.int x4, .ref (ad q14), .long x1]) (by rw [e15]; rfl) ?_
              obtain ⟨hk16, hq17, h⟩ := h
              obtain ⟨hi18, h⟩ := h
              refine r_iald hx hb hK hG hk16 hq17 hi18 dX9_span_54 ?_
              refine lv_aload_n hx hb dX9_span_55 rfl (lv_at hl 0 rfl) ?_
              refine g_get (ci := 9) (C := RX9) (T := TX9) (N := 36) hx hb hts hin9 hown hK hG hk1 (cell_9 hq2) rfl 15 (by decide) lk_44 (fun _ h9 => h9) (v := rv ad (gR S k0 15)) rfl dX9_span_56 ?_
              refine lv_iload_n hx hb dX9_span_59 rfl (lv_at hl 2 rfl) ?_
              refine W.eq (g2 := F0 m 60 ls [.int x3, .ref (ad q14), .int (gX S q14 (Int32.toNatClampNeg x4)), .long x1]) (by rw [e15]; rfl) ?_
              obtain ⟨hi19, h⟩ := h
              refine r_iald hx hb hK hG hk16 hq17 hi19 dX9_span_60 ?_
              refine lv_isub hx hb dX9_span_61 ?_
              refine lv_i2l hx hb dX9_span_62 rfl ?_
              refine lv_ladd hx hb dX9_span_63 ?_
              refine lv_lstore_n (lv' := [(1, .long (x1 + (Int32.toInt64 ((gX S q14 (Int32.toNatClampNeg x4)) - (gX S q14 (Int32.toNatClampNeg x3)))))), (0, .ref (ad k0)), (3, .int x3), (4, .int x4)]) hx hb dX9_span_64 rfl hl (by decide) rfl (fun ls hl => ?_)
              exact b_65 (wX9_span_7 Q k0 f9) hL_7 (x1 + (Int32.toInt64 ((gX S q14 (Int32.toNatClampNeg x4)) - (gX S q14 (Int32.toNatClampNeg x3))))) x4 S H locs ls h hsh hG (lv_sub hl [1, 0, 3] rfl)
  have hl : lv_has ls 5 [(0, .ref (ad k0))] := hl
  have hsh : gSh S S0 := by rw [hS0]; exact gSh.rf S
  obtain ⟨H, eH⟩ : ∃ z : Heap, z = s.heap := ⟨_, rfl⟩
  obtain ⟨locs, eL⟩ : ∃ z : List Loc, z = [] := ⟨_, rfl⟩
  have hG : gS D Y ad A s.heap S H locs := by rw [eH, eL]; exact hG
  suffices hgoal : W p l e (rmD 0) s m args below meth c H locs 0 0 (MQ below (gE D Y za ad S0 s.heap.size (fun r S9 => ∃ x, r = some (vL x) ∧ Q x S9)) args s 0 0 A) (F0 m 0 ls []) by rw [eH, eL] at hgoal; exact hgoal
  unfold wX9_span at h
  refine lv_lconst (v := 0) hx hb dX9_span_0 rfl ?_
  refine lv_lstore_n (lv' := [(1, .long 0), (0, .ref (ad k0))]) hx hb dX9_span_1 rfl hl (by decide) rfl (fun ls hl => ?_)
  refine lv_iconst (v := (-1)) hx hb dX9_span_2 (by decide) ?_
  refine lv_istore_n (lv' := [(3, .int (-1)), (1, .long 0), (0, .ref (ad k0))]) hx hb dX9_span_3 rfl hl (by decide) rfl (fun ls hl => ?_)
  refine lv_iconst (v := 0) hx hb dX9_span_4 (by decide) ?_
  refine lv_istore (lv' := [(4, .int 0), (3, .int (-1)), (1, .long 0), (0, .ref (ad k0))]) hx hb dX9_span_5 hl (by decide) rfl (fun ls hl => ?_)
  obtain ⟨f20, h⟩ := h
  exact b_7 f20 0 (-1) 0 S H locs ls h hsh hG (lv_sub hl [3, 2, 1, 0] rfl)
def wX9_pauses_23 (Q : Int32 → GS → Prop) (L_4 : Int32 → Int32 → GS → Prop) (k0 : Nat) (x1 : Int32) (x2 : Int32) (S : GS) : Prop :=
  L_4 x1 (x2 + 1) S
def wX9_pauses_4 (Q : Int32 → GS → Prop) (k0 : Nat) : Nat → Int32 → Int32 → GS → Prop
  | 0, _, _, _ => False
  | f9 + 1, x1, x2, S =>
  k0 < gN S ∧ gK S k0 = 9 ∧ ((gX S k0 25) ≤ x2 → Q x1 S) ∧ (¬ (gX S k0 25) ≤ x2 → wX9_isPause S k0 x2 (fun u4 S3 => gSh S3 S → (u4 = 0 → wX9_pauses_23 Q (wX9_pauses_4 Q k0 f9) k0 x1 x2 S3) ∧ (¬ u4 = 0 → wX9_pauses_23 Q (wX9_pauses_4 Q k0 f9) k0 (x1 + 1) x2 S3)))
def wX9_pauses (S : GS) (k0 : Nat) (Q : Int32 → GS → Prop) : Prop :=
  ∃ f7 : Nat, wX9_pauses_4 Q k0 f7 0 0 S
set_option maxHeartbeats 4000000 in
set_option maxRecDepth 100000 in
theorem tX9_pauses (l : Launch) (S : GS) (k0 : Nat) (Q : Int32 → GS → Prop) (h : wX9_pauses S k0 Q) : CS l yX9_pauses wsX9_pauses 1 S [vR (some k0)] (fun r S9 => ∃ x, r = some (vI x) ∧ Q x S9) := by
  refine CS.ofW (cc := cX9_pauses) (maxL := 3) (ret := (some .int)) RX9 (by decide) rfl rfl (fun _ _ => Nat.le_of_ble_eq_true rfl) ?_
  intro p e s m args below meth c D Y za ad A ls hAe hx hb hr hml hts hown hlocks hK hA hG hl
  obtain ⟨S0, hS0⟩ : ∃ z : GS, z = S := ⟨_, rfl⟩
  rw [← hS0] at hAe
  rw [← hS0]
  have hin9 : ∀ w ∈ wsX90, w ∈ wsX9_pauses := by decide +kernel
  have lk_205 := hts (.fieldLink RX9 205 "PauseLogModel" "events" "I") (by decide +kernel)
  have b_23 : ∀ (L_4 : Int32 → Int32 → GS → Prop) (hL_4 : ∀ (x1 : Int32) (x2 : Int32) (S : GS) (H : Heap) (locs : List Loc) (ls : Array Slot), L_4 x1 x2 S → gSh S S0 → gS D Y ad A s.heap S H locs → lv_has ls 3 [(0, .ref (ad k0)), (1, .int x1), (2, .int x2)] → W p l e (rmD 1) s m args below meth c H locs 0 0 (MQ below (gE D Y za ad S0 s.heap.size (fun r S9 => ∃ x, r = some (vI x) ∧ Q x S9)) args s 0 0 A) (F0 m 4 ls [])) (x1 : Int32) (x2 : Int32) (S : GS) (H : Heap) (locs : List Loc) (ls : Array Slot), wX9_pauses_23 Q L_4 k0 x1 x2 S → gSh S S0 → gS D Y ad A s.heap S H locs → lv_has ls 3 [(0, .ref (ad k0)), (1, .int x1), (2, .int x2)] → W p l e (rmD 1) s m args below meth c H locs 0 0 (MQ below (gE D Y za ad S0 s.heap.size (fun r S9 => ∃ x, r = some (vI x) ∧ Q x S9)) args s 0 0 A) (F0 m 23 ls []) := by
    intro L_4 hL_4 x1 x2 S H locs ls h hsh hG hl
    unfold wX9_pauses_23 at h
    refine lv_iinc (v := x2 + 1) (lv' := [(2, .int (x2 + 1)), (0, .ref (ad k0)), (1, .int x1)]) hx hb dX9_pauses_23 hl (k := 2) rfl rfl (by decide) rfl (fun ls hl => ?_)
    refine lv_goto (tgt := 4) hx hb dX9_pauses_26 (by decide) ?_
    exact hL_4 x1 (x2 + 1) S H locs ls h hsh hG (lv_sub hl [1, 2, 0] rfl)
  have b_4 : ∀  (f9 : Nat) (x1 : Int32) (x2 : Int32) (S : GS) (H : Heap) (locs : List Loc) (ls : Array Slot), wX9_pauses_4 Q k0 f9 x1 x2 S → gSh S S0 → gS D Y ad A s.heap S H locs → lv_has ls 3 [(0, .ref (ad k0)), (1, .int x1), (2, .int x2)] → W p l e (rmD 1) s m args below meth c H locs 0 0 (MQ below (gE D Y za ad S0 s.heap.size (fun r S9 => ∃ x, r = some (vI x) ∧ Q x S9)) args s 0 0 A) (F0 m 4 ls []) := by
    intro  f9
    induction f9 with
    | zero =>
      intro x1 x2 S H locs ls h
      exact False.elim (by unfold wX9_pauses_4 at h; exact h)
    | succ f9 hL_4 =>
      intro x1 x2 S H locs ls h hsh hG hl
      unfold wX9_pauses_4 at h
      refine lv_iload_n hx hb dX9_pauses_4 rfl (lv_at hl 2 rfl) ?_
      refine lv_aload_n hx hb dX9_pauses_5 rfl (lv_at hl 0 rfl) ?_
      obtain ⟨hk1, hq2, h⟩ := h
      refine g_get (ci := 9) (C := RX9) (T := TX9) (N := 36) hx hb hts hin9 hown hK hG hk1 (cell_9 hq2) rfl 25 (by decide) lk_205 (fun _ h9 => h9) (v := .int (gX S k0 25)) rfl dX9_pauses_6 ?_
      refine lv_icmp_ge (tgt := 29) hx hb dX9_pauses_9 (by decide) (fun c_9 => ?_) (fun c_9 => ?_)
      · have h := h.1 c_9
        refine lv_iload_n hx hb dX9_pauses_29 rfl (lv_at hl 1 rfl) ?_
        exact W.iret (v := x1) hx hb hr (fun t ht hW => r_end (r := some (vI x1)) hAe hG hsh ⟨_, rfl, h⟩ rfl ht) hG.2.2.2.2 dX9_pauses_30
      · have h := h.2 c_9
        refine lv_aload_n hx hb dX9_pauses_12 rfl (lv_at hl 0 rfl) ?_
        refine lv_iload_n hx hb dX9_pauses_13 rfl (lv_at hl 2 rfl) ?_
        refine r_callV (za := za) (k := k0) (ci := 9) (C := RX9) (T := TX9) (N := 36) (As := [vI x2]) (rest := []) (tX9_isPause l S k0 x2 _ h) ⟨hx, hb, hml, hown, hts⟩ (cwV 1 hts gX9_pauses_X9_isPause rfl rfl rfl (by decide +kernel) ⟨by decide, by decide⟩) hK hG hA hk1 (cell_9 hq2) rfl rfl hl.1 rfl (Nat.le_of_ble_eq_true rfl) ⟨Nat.le_refl _, Nat.le_refl _⟩ dX9_pauses_14 (fun r_9 S3 H locs hp hs_S3 hG => ?_)
        obtain ⟨u4, rfl, h⟩ := hp
        have h := h hs_S3
        refine W.eq (g2 := F0 m 17 ls [.int u4]) rfl ?_
        have hsh := hs_S3.tr hsh
        have hk5 := hs_S3.lt hk1
        have hq6 := hs_S3.kd hq2
        refine lv_if_eq (tgt := 23) hx hb dX9_pauses_17 (by decide) (fun c_17 => ?_) (fun c_17 => ?_)
        · have h := h.1 c_17
          exact b_23 (wX9_pauses_4 Q k0 f9) hL_4 x1 x2 S3 H locs ls h hsh hG (lv_sub hl [0, 1, 2] rfl)
        · have h := h.2 c_17
          refine lv_iinc (v := x1 + 1) (lv' := [(1, .int (x1 + 1)), (0, .ref (ad k0)), (2, .int x2)]) hx hb dX9_pauses_20 hl (k := 1) rfl rfl (by decide) rfl (fun ls hl => ?_)
          exact b_23 (wX9_pauses_4 Q k0 f9) hL_4 (x1 + 1) x2 S3 H locs ls h hsh hG (lv_sub hl [1, 0, 2] rfl)
  have hl : lv_has ls 3 [(0, .ref (ad k0))] := hl
  have hsh : gSh S S0 := by rw [hS0]; exact gSh.rf S
  obtain ⟨H, eH⟩ : ∃ z : Heap, z = s.heap := ⟨_, rfl⟩
  obtain ⟨locs, eL⟩ : ∃ z : List Loc, z = [] := ⟨_, rfl⟩
  have hG : gS D Y ad A s.heap S H locs := by rw [eH, eL]; exact hG
  suffices hgoal : W p l e (rmD 1) s m args below meth c H locs 0 0 (MQ below (gE D Y za ad S0 s.heap.size (fun r S9 => ∃ x, r = some (vI x) ∧ Q x S9)) args s 0 0 A) (F0 m 0 ls []) by rw [eH, eL] at hgoal; exact hgoal
  unfold wX9_pauses at h
  refine lv_iconst (v := 0) hx hb dX9_pauses_0 (by decide) ?_
  refine lv_istore_n (lv' := [(1, .int 0), (0, .ref (ad k0))]) hx hb dX9_pauses_1 rfl hl (by decide) rfl (fun ls hl => ?_)
  refine lv_iconst (v := 0) hx hb dX9_pauses_2 (by decide) ?_
  refine lv_istore_n (lv' := [(2, .int 0), (1, .int 0), (0, .ref (ad k0))]) hx hb dX9_pauses_3 rfl hl (by decide) rfl (fun ls hl => ?_)
  obtain ⟨f7, h⟩ := h
  exact b_4 f7 0 0 S H locs ls h hsh hG (lv_sub hl [2, 1, 0] rfl)
def wX9_throughput_62 (Q : UInt64 → GS → Prop) (L_34 : Int64 → Int64 → Int32 → GS → Prop) (k0 : Nat) (x1 : Int64) (x3 : Int64) (x5 : Int32) (S : GS) : Prop :=
  L_34 x1 x3 (x5 + 1) S
def wX9_throughput_34 (Q : UInt64 → GS → Prop) (k0 : Nat) : Nat → Int64 → Int64 → Int32 → GS → Prop
  | 0, _, _, _, _ => False
  | f9 + 1, x1, x3, x5, S =>
  k0 < gN S ∧ gK S k0 = 9 ∧ ((gX S k0 25) ≤ x5 → vf_n64 (FP.ddiv (FP.l2d x3) (FP.l2d (1000 * x1))) ∧ vf_n64 (FP.dsub FP.dconst1 (FP.ddiv (FP.l2d x3) (FP.l2d (1000 * x1)))) ∧ Q (FP.dsub FP.dconst1 (FP.ddiv (FP.l2d x3) (FP.l2d (1000 * x1)))) S) ∧ (¬ (gX S k0 25) ≤ x5 → wX9_isPause S k0 x5 (fun u6 S5 => gSh S5 S → (u6 = 0 → wX9_throughput_62 Q (wX9_throughput_34 Q k0 f9) k0 x1 x3 x5 S5) ∧ (¬ u6 = 0 → wX9_tookOf S5 k0 x5 (fun u10 S9 => gSh S9 S5 → wX9_throughput_62 Q (wX9_throughput_34 Q k0 f9) k0 x1 (x3 + (Int32.toInt64 u10)) x5 S9))))
def wX9_throughput_17 (Q : UInt64 → GS → Prop) (k0 : Nat) (x1 : Int64) (t0 : Nat) (t1 : Int32) (S : GS) : Prop :=
  t0 < gN S ∧ gK S t0 = 9 ∧ ∀ S15 : GS, S15 = sX S t0 32 t1 → k0 < gN S15 ∧ gK S15 k0 = 9 ∧ ((gX S15 k0 32) = 0 → ∃ f20 : Nat, wX9_throughput_34 Q k0 f20 x1 0 0 S15) ∧ (¬ (gX S15 k0 32) = 0 → Q FP.dconst0 S15)
def wX9_throughput (S : GS) (k0 : Nat) (Q : UInt64 → GS → Prop) : Prop :=
  k0 < gN S ∧ gK S k0 = 9 ∧ wX9_span S k0  (fun u24 S23 => gSh S23 S → (¬ (lg_cmp u24 0) = 0 → wX9_throughput_17 Q k0 u24 k0 0 S23) ∧ ((lg_cmp u24 0) = 0 → wX9_throughput_17 Q k0 u24 k0 1 S23))
set_option maxHeartbeats 4000000 in
set_option maxRecDepth 100000 in
theorem tX9_throughput (l : Launch) (S : GS) (k0 : Nat) (Q : UInt64 → GS → Prop) (h : wX9_throughput S k0 Q) : CS l yX9_throughput wsX9_throughput 1 S [vR (some k0)] (fun r S9 => ∃ x, r = some (vD x) ∧ Q x S9) := by
  refine CS.ofW (cc := cX9_throughput) (maxL := 6) (ret := (some .double)) RX9 (by decide) rfl rfl (fun _ _ => Nat.le_of_ble_eq_true rfl) ?_
  intro p e s m args below meth c D Y za ad A ls hAe hx hb hr hml hts hown hlocks hK hA hG hl
  obtain ⟨S0, hS0⟩ : ∃ z : GS, z = S := ⟨_, rfl⟩
  rw [← hS0] at hAe
  rw [← hS0]
  have hin9 : ∀ w ∈ wsX90, w ∈ wsX9_throughput := by decide +kernel
  have lk_84 := hts (.fieldLink RX9 84 "PauseLogModel" "thrown" "I") (by decide +kernel)
  have lk_205 := hts (.fieldLink RX9 205 "PauseLogModel" "events" "I") (by decide +kernel)
  have lk_185 := hts (.constantLong RX9 185 (1000)) (by decide +kernel)
  have b_62 : ∀ (L_34 : Int64 → Int64 → Int32 → GS → Prop) (hL_34 : ∀ (x1 : Int64) (x3 : Int64) (x5 : Int32) (S : GS) (H : Heap) (locs : List Loc) (ls : Array Slot), L_34 x1 x3 x5 S → gSh S S0 → gS D Y ad A s.heap S H locs → lv_has ls 6 [(0, .ref (ad k0)), (1, .long x1), (3, .long x3), (5, .int x5)] → W p l e (rmD 1) s m args below meth c H locs 0 0 (MQ below (gE D Y za ad S0 s.heap.size (fun r S9 => ∃ x, r = some (vD x) ∧ Q x S9)) args s 0 0 A) (F0 m 34 ls [])) (x1 : Int64) (x3 : Int64) (x5 : Int32) (S : GS) (H : Heap) (locs : List Loc) (ls : Array Slot), wX9_throughput_62 Q L_34 k0 x1 x3 x5 S → gSh S S0 → gS D Y ad A s.heap S H locs → lv_has ls 6 [(0, .ref (ad k0)), (1, .long x1), (3, .long x3), (5, .int x5)] → W p l e (rmD 1) s m args below meth c H locs 0 0 (MQ below (gE D Y za ad S0 s.heap.size (fun r S9 => ∃ x, r = some (vD x) ∧ Q x S9)) args s 0 0 A) (F0 m 62 ls []) := by
    intro L_34 hL_34 x1 x3 x5 S H locs ls h hsh hG hl
    unfold wX9_throughput_62 at h
    refine lv_iinc (v := x5 + 1) (lv' := [(5, .int (x5 + 1)), (0, .ref (ad k0)), (1, .long x1), (3, .long x3)]) hx hb dX9_throughput_62 hl (k := 3) rfl rfl (by decide) rfl (fun ls hl => ?_)
    refine lv_goto (tgt := 34) hx hb dX9_throughput_65 (by decide) ?_
    exact hL_34 x1 x3 (x5 + 1) S H locs ls h hsh hG (lv_sub hl [1, 2, 3, 0] rfl)
  have b_34 : ∀  (f9 : Nat) (x1 : Int64) (x3 : Int64) (x5 : Int32) (S : GS) (H : Heap) (locs : List Loc) (ls : Array Slot), wX9_throughput_34 Q k0 f9 x1 x3 x5 S → gSh S S0 → gS D Y ad A s.heap S H locs → lv_has ls 6 [(0, .ref (ad k0)), (1, .long x1), (3, .long x3), (5, .int x5)] → W p l e (rmD 1) s m args below meth c H locs 0 0 (MQ below (gE D Y za ad S0 s.heap.size (fun r S9 => ∃ x, r = some (vD x) ∧ Q x S9)) args s 0 0 A) (F0 m 34 ls []) := by
    intro  f9
    induction f9 with
    | zero =>
      intro x1 x3 x5 S H locs ls h
      exact False.elim (by unfold wX9_throughput_34 at h; exact h)
    | succ f9 hL_34 =>
      intro x1 x3 x5 S H locs ls h hsh hG hl
      unfold wX9_throughput_34 at h
      refine lv_iload hx hb dX9_throughput_34 (lv_at hl 3 rfl) ?_
      refine lv_aload_n hx hb dX9_throughput_36 rfl (lv_at hl 0 rfl) ?_
      obtain ⟨hk1, hq2, h⟩ := h
      refine g_get (ci := 9) (C := RX9) (T := TX9) (N := 36) hx hb hts hin9 hown hK hG hk1 (cell_9 hq2) rfl 25 (by decide) lk_205 (fun _ h9 => h9) (v := .int (gX S k0 25)) rfl dX9_throughput_37 ?_
      refine lv_icmp_ge (tgt := 68) hx hb dX9_throughput_40 (by decide) (fun c_40 => ?_) (fun c_40 => ?_)
      · have h := h.1 c_40
        refine lv_dconst1 hx hb dX9_throughput_68 ?_
        refine lv_lload_n hx hb dX9_throughput_69 rfl (lv_at hl 2 rfl) ?_
        refine lv_l2d hx hb dX9_throughput_70 ?_
        refine lv_ldc2 hx hb hown lk_185 dX9_throughput_71 ?_
        refine lv_lload_n hx hb dX9_throughput_74 rfl (lv_at hl 1 rfl) ?_
        refine lv_lmul hx hb dX9_throughput_75 ?_
        refine lv_l2d hx hb dX9_throughput_76 ?_
        obtain ⟨hd3, h⟩ := h
        refine lv_ddiv hx hb dX9_throughput_77 hd3 ?_
        obtain ⟨hd4, h⟩ := h
        refine lv_dsub hx hb dX9_throughput_78 hd4 ?_
        exact W.dret (v := FP.dsub FP.dconst1 (FP.ddiv (FP.l2d x3) (FP.l2d (1000 * x1)))) hx hb hr (fun t ht hW => r_end (r := some (vD (FP.dsub FP.dconst1 (FP.ddiv (FP.l2d x3) (FP.l2d (1000 * x1)))))) hAe hG hsh ⟨_, rfl, h⟩ rfl ht) hG.2.2.2.2 dX9_throughput_79
      · have h := h.2 c_40
        refine lv_aload_n hx hb dX9_throughput_43 rfl (lv_at hl 0 rfl) ?_
        refine lv_iload hx hb dX9_throughput_44 (lv_at hl 3 rfl) ?_
        refine r_callV (za := za) (k := k0) (ci := 9) (C := RX9) (T := TX9) (N := 36) (As := [vI x5]) (rest := []) (tX9_isPause l S k0 x5 _ h) ⟨hx, hb, hml, hown, hts⟩ (cwV 1 hts gX9_throughput_X9_isPause rfl rfl rfl (by decide +kernel) ⟨by decide, by decide⟩) hK hG hA hk1 (cell_9 hq2) rfl rfl hl.1 rfl (Nat.le_of_ble_eq_true rfl) ⟨Nat.le_refl _, Nat.le_refl _⟩ dX9_throughput_46 (fun r_9 S5 H locs hp hs_S5 hG => ?_)
        obtain ⟨u6, rfl, h⟩ := hp
        have h := h hs_S5
        refine W.eq (g2 := F0 m 49 ls [.int u6]) rfl ?_
        have hsh := hs_S5.tr hsh
        have hk7 := hs_S5.lt hk1
        have hq8 := hs_S5.kd hq2
        refine lv_if_eq (tgt := 62) hx hb dX9_throughput_49 (by decide) (fun c_49 => ?_) (fun c_49 => ?_)
        · have h := h.1 c_49
          exact b_62 (wX9_throughput_34 Q k0 f9) hL_34 x1 x3 x5 S5 H locs ls h hsh hG (lv_sub hl [0, 1, 2, 3] rfl)
        · have h := h.2 c_49
          refine lv_lload_n hx hb dX9_throughput_52 rfl (lv_at hl 2 rfl) ?_
          refine lv_aload_n hx hb dX9_throughput_53 rfl (lv_at hl 0 rfl) ?_
          refine lv_iload hx hb dX9_throughput_54 (lv_at hl 3 rfl) ?_
          refine r_callV (za := za) (k := k0) (ci := 9) (C := RX9) (T := TX9) (N := 36) (As := [vI x5]) (rest := [.long x3]) (tX9_tookOf l S5 k0 x5 _ h) ⟨hx, hb, hml, hown, hts⟩ (cwV 1 hts gX9_throughput_X9_tookOf rfl rfl rfl (by decide +kernel) ⟨by decide, by decide⟩) hK hG hA hk7 (cell_9 hq8) rfl rfl hl.1 rfl (Nat.le_of_ble_eq_true rfl) ⟨Nat.le_refl _, Nat.le_refl _⟩ dX9_throughput_56 (fun r_9 S9 H locs hp hs_S9 hG => ?_)
          obtain ⟨u10, rfl, h⟩ := hp
          have h := h hs_S9
          refine W.eq (g2 := F0 m 59 ls [.int u10, .long x3]) rfl ?_
          have hsh := hs_S9.tr hsh
          have hk11 := hs_S9.lt hk7
          have hq12 := hs_S9.kd hq8
          refine lv_i2l hx hb dX9_throughput_59 rfl ?_
          refine lv_ladd hx hb dX9_throughput_60 ?_
          refine lv_lstore_n (lv' := [(3, .long (x3 + (Int32.toInt64 u10))), (0, .ref (ad k0)), (1, .long x1), (5, .int x5)]) hx hb dX9_throughput_61 rfl hl (by decide) rfl (fun ls hl => ?_)
          exact b_62 (wX9_throughput_34 Q k0 f9) hL_34 x1 (x3 + (Int32.toInt64 u10)) x5 S9 H locs ls h hsh hG (lv_sub hl [1, 2, 0, 3] rfl)
  have b_17 : ∀  (x1 : Int64) (t0 : Nat) (t1 : Int32) (S : GS) (H : Heap) (locs : List Loc) (ls : Array Slot), wX9_throughput_17 Q k0 x1 t0 t1 S → gSh S S0 → gS D Y ad A s.heap S H locs → lv_has ls 6 [(0, .ref (ad k0)), (1, .long x1)] → W p l e (rmD 1) s m args below meth c H locs 0 0 (MQ below (gE D Y za ad S0 s.heap.size (fun r S9 => ∃ x, r = some (vD x) ∧ Q x S9)) args s 0 0 A) (F0 m 17 ls [.int t1, .ref (ad t0)]) := by
    intro  x1 t0 t1 S H locs ls h hsh hG hl
    unfold wX9_throughput_17 at h
    obtain ⟨hk13, hq14, h⟩ := h
    refine r_put (ci := 9) (C := RX9) (T := TX9) (N := 36) hx hb hts hin9 tyX9 tyX9_ok nmX9 hown hK hG hk13 (cell_9 hq14) rfl 32 (by decide) lk_84 (fun _ h9 => h9) rfl rfl rfl (Nat.le_of_ble_eq_true rfl) (S' := sX S t0 32 t1) rfl (pu_9_32 hq14 t1) dX9_throughput_17 (fun H locs hG => ?_)
    obtain ⟨S15, eS_S15⟩ : ∃ z : GS, z = sX S t0 32 t1 := ⟨_, rfl⟩
    have h := h S15 eS_S15
    rw [← eS_S15] at hG
    have hs_S15 : gSh S15 S := by rw [eS_S15]; exact gSh.x _ _ _ _
    have hsh := hs_S15.tr hsh
    have hk16 := hs_S15.lt hk13
    have hq17 := hs_S15.kd hq14
    refine lv_aload_n hx hb dX9_throughput_20 rfl (lv_at hl 0 rfl) ?_
    obtain ⟨hk18, hq19, h⟩ := h
    refine g_get (ci := 9) (C := RX9) (T := TX9) (N := 36) hx hb hts hin9 hown hK hG hk18 (cell_9 hq19) rfl 32 (by decide) lk_84 (fun _ h9 => h9) (v := .int (gX S15 k0 32)) rfl dX9_throughput_21 ?_
    refine lv_if_eq (tgt := 29) hx hb dX9_throughput_24 (by decide) (fun c_24 => ?_) (fun c_24 => ?_)
    · have h := h.1 c_24
      refine lv_lconst (v := 0) hx hb dX9_throughput_29 rfl ?_
      refine lv_lstore_n (lv' := [(3, .long 0), (0, .ref (ad k0)), (1, .long x1)]) hx hb dX9_throughput_30 rfl hl (by decide) rfl (fun ls hl => ?_)
      refine lv_iconst (v := 0) hx hb dX9_throughput_31 (by decide) ?_
      refine lv_istore (lv' := [(5, .int 0), (3, .long 0), (0, .ref (ad k0)), (1, .long x1)]) hx hb dX9_throughput_32 hl (by decide) rfl (fun ls hl => ?_)
      obtain ⟨f20, h⟩ := h
      exact b_34 f20 x1 0 0 S15 H locs ls h hsh hG (lv_sub hl [2, 3, 1, 0] rfl)
    · have h := h.2 c_24
      refine lv_dconst0 hx hb dX9_throughput_27 ?_
      exact W.dret (v := FP.dconst0) hx hb hr (fun t ht hW => r_end (r := some (vD FP.dconst0)) hAe hG hsh ⟨_, rfl, h⟩ rfl ht) hG.2.2.2.2 dX9_throughput_28
  have hl : lv_has ls 6 [(0, .ref (ad k0))] := hl
  have hsh : gSh S S0 := by rw [hS0]; exact gSh.rf S
  obtain ⟨H, eH⟩ : ∃ z : Heap, z = s.heap := ⟨_, rfl⟩
  obtain ⟨locs, eL⟩ : ∃ z : List Loc, z = [] := ⟨_, rfl⟩
  have hG : gS D Y ad A s.heap S H locs := by rw [eH, eL]; exact hG
  suffices hgoal : W p l e (rmD 1) s m args below meth c H locs 0 0 (MQ below (gE D Y za ad S0 s.heap.size (fun r S9 => ∃ x, r = some (vD x) ∧ Q x S9)) args s 0 0 A) (F0 m 0 ls []) by rw [eH, eL] at hgoal; exact hgoal
  unfold wX9_throughput at h
  refine lv_aload_n hx hb dX9_throughput_0 rfl (lv_at hl 0 rfl) ?_
  obtain ⟨hk21, hq22, h⟩ := h
  refine r_callV (za := za) (k := k0) (ci := 9) (C := RX9) (T := TX9) (N := 36) (As := []) (rest := []) (tX9_span l S k0  _ h) ⟨hx, hb, hml, hown, hts⟩ (cwV 0 hts gX9_throughput_X9_span rfl rfl rfl (by decide +kernel) ⟨by decide, by decide⟩) hK hG hA hk21 (cell_9 hq22) rfl rfl hl.1 rfl (Nat.le_of_ble_eq_true rfl) ⟨Nat.le_refl _, Nat.le_refl _⟩ dX9_throughput_1 (fun r_9 S23 H locs hp hs_S23 hG => ?_)
  obtain ⟨u24, rfl, h⟩ := hp
  have h := h hs_S23
  refine W.eq (g2 := F0 m 4 ls [.long u24]) rfl ?_
  have hsh := hs_S23.tr hsh
  have hk25 := hs_S23.lt hk21
  have hq26 := hs_S23.kd hq22
  refine lv_lstore_n (lv' := [(1, .long u24), (0, .ref (ad k0))]) hx hb dX9_throughput_4 rfl hl (by decide) rfl (fun ls hl => ?_)
  refine lv_aload_n hx hb dX9_throughput_5 rfl (lv_at hl 1 rfl) ?_
  refine lv_lload_n hx hb dX9_throughput_6 rfl (lv_at hl 0 rfl) ?_
  refine lv_lconst (v := 0) hx hb dX9_throughput_7 rfl ?_
  refine W.lcmp hx hb dX9_throughput_8 ?_
  refine lv_if_ne (tgt := 16) hx hb dX9_throughput_9 (by decide) (fun c_9 => ?_) (fun c_9 => ?_)
  · have h := h.1 c_9
    refine lv_iconst (v := 0) hx hb dX9_throughput_16 (by decide) ?_
    exact b_17 u24 k0 0 S23 H locs ls h hsh hG (lv_sub hl [1, 0] rfl)
  · have h := h.2 c_9
    refine lv_iconst (v := 1) hx hb dX9_throughput_12 (by decide) ?_
    refine lv_goto (tgt := 17) hx hb dX9_throughput_13 (by decide) ?_
    exact b_17 u24 k0 1 S23 H locs ls h hsh hG (lv_sub hl [1, 0] rfl)
def wX9_ahead_46 (Q : Int32 → GS → Prop) (k0 : Nat) (t0 : Int32) (S : GS) : Prop :=
  Q t0 S
def wX9_ahead_4 (Q : Int32 → GS → Prop) (k0 : Nat) : Nat → Int32 → Int32 → GS → Prop
  | 0, _, _, _ => False
  | f9 + 1, x1, x2, S =>
  (x2 < 0 → Q (-1) S) ∧ (¬ x2 < 0 → k0 < gN S ∧ gK S k0 = 9 ∧ wX9_isPause S k0 x2 (fun u4 S3 => gSh S3 S → (u4 = 0 → (wX9_ahead_4 Q k0 f9) x1 (x2 + (-1)) S3) ∧ (¬ u4 = 0 → ∃ q7 : Nat, gR S3 k0 22 = some q7 ∧ q7 < gN S3 ∧ gK S3 q7 = 11 ∧ vp_in x2 (gL S3 q7) ∧ ∃ q12 : Nat, gR S3 k0 8 = some q12 ∧ q12 < gN S3 ∧ gK S3 q12 = 11 ∧ vp_in (gX S3 q7 (Int32.toNatClampNeg x2)) (gL S3 q12) ∧ vp_in x1 (gL S3 q7) ∧ vp_in (gX S3 q7 (Int32.toNatClampNeg x1)) (gL S3 q12) ∧ (¬ (gX S3 q12 (Int32.toNatClampNeg (gX S3 q7 (Int32.toNatClampNeg x2)))) = (gX S3 q12 (Int32.toNatClampNeg (gX S3 q7 (Int32.toNatClampNeg x1)))) → wX9_ahead_46 Q k0 (-1) S3) ∧ ((gX S3 q12 (Int32.toNatClampNeg (gX S3 q7 (Int32.toNatClampNeg x2)))) = (gX S3 q12 (Int32.toNatClampNeg (gX S3 q7 (Int32.toNatClampNeg x1)))) → wX9_ahead_46 Q k0 x2 S3))))
def wX9_ahead (S : GS) (k0 : Nat) (x1 : Int32) (Q : Int32 → GS → Prop) : Prop :=
  ∃ f19 : Nat, wX9_ahead_4 Q k0 f19 x1 (x1 - 1) S
set_option maxHeartbeats 4000000 in
set_option maxRecDepth 100000 in
theorem tX9_ahead (l : Launch) (S : GS) (k0 : Nat) (x1 : Int32) (Q : Int32 → GS → Prop) (h : wX9_ahead S k0 x1 Q) : CS l yX9_ahead wsX9_ahead 1 S [vR (some k0), vI x1] (fun r S9 => ∃ x, r = some (vI x) ∧ Q x S9) := by
  refine CS.ofW (cc := cX9_ahead) (maxL := 3) (ret := (some .int)) RX9 (by decide) rfl rfl (fun _ _ => Nat.le_of_ble_eq_true rfl) ?_
  intro p e s m args below meth c D Y za ad A ls hAe hx hb hr hml hts hown hlocks hK hA hG hl
  obtain ⟨S0, hS0⟩ : ∃ z : GS, z = S := ⟨_, rfl⟩
  rw [← hS0] at hAe
  rw [← hS0]
  have hin9 : ∀ w ∈ wsX90, w ∈ wsX9_ahead := by decide +kernel
  have lk_22 := hts (.fieldLink RX9 22 "PauseLogModel" "log" "[I") (by decide +kernel)
  have lk_59 := hts (.fieldLink RX9 59 "PauseLogModel" "endLine" "[I") (by decide +kernel)
  have b_46 : ∀  (t0 : Int32) (S : GS) (H : Heap) (locs : List Loc) (ls : Array Slot), wX9_ahead_46 Q k0 t0 S → gSh S S0 → gS D Y ad A s.heap S H locs → lv_has ls 3 [] → W p l e (rmD 1) s m args below meth c H locs 0 0 (MQ below (gE D Y za ad S0 s.heap.size (fun r S9 => ∃ x, r = some (vI x) ∧ Q x S9)) args s 0 0 A) (F0 m 46 ls [.int t0]) := by
    intro  t0 S H locs ls h hsh hG hl
    unfold wX9_ahead_46 at h
    exact W.iret (v := t0) hx hb hr (fun t ht hW => r_end (r := some (vI t0)) hAe hG hsh ⟨_, rfl, h⟩ rfl ht) hG.2.2.2.2 dX9_ahead_46
  have b_4 : ∀  (f9 : Nat) (x1 : Int32) (x2 : Int32) (S : GS) (H : Heap) (locs : List Loc) (ls : Array Slot), wX9_ahead_4 Q k0 f9 x1 x2 S → gSh S S0 → gS D Y ad A s.heap S H locs → lv_has ls 3 [(0, .ref (ad k0)), (1, .int x1), (2, .int x2)] → W p l e (rmD 1) s m args below meth c H locs 0 0 (MQ below (gE D Y za ad S0 s.heap.size (fun r S9 => ∃ x, r = some (vI x) ∧ Q x S9)) args s 0 0 A) (F0 m 4 ls []) := by
    intro  f9
    induction f9 with
    | zero =>
      intro x1 x2 S H locs ls h
      exact False.elim (by unfold wX9_ahead_4 at h; exact h)
    | succ f9 hL_4 =>
      intro x1 x2 S H locs ls h hsh hG hl
      unfold wX9_ahead_4 at h
      refine lv_iload_n hx hb dX9_ahead_4 rfl (lv_at hl 2 rfl) ?_
      refine lv_if_lt (tgt := 53) hx hb dX9_ahead_5 (by decide) (fun c_5 => ?_) (fun c_5 => ?_)
      · have h := h.1 c_5
        refine lv_iconst (v := (-1)) hx hb dX9_ahead_53 (by decide) ?_
        exact W.iret (v := (-1)) hx hb hr (fun t ht hW => r_end (r := some (vI (-1))) hAe hG hsh ⟨_, rfl, h⟩ rfl ht) hG.2.2.2.2 dX9_ahead_54
      · have h := h.2 c_5
        refine lv_aload_n hx hb dX9_ahead_8 rfl (lv_at hl 0 rfl) ?_
        refine lv_iload_n hx hb dX9_ahead_9 rfl (lv_at hl 2 rfl) ?_
        obtain ⟨hk1, hq2, h⟩ := h
        refine r_callV (za := za) (k := k0) (ci := 9) (C := RX9) (T := TX9) (N := 36) (As := [vI x2]) (rest := []) (tX9_isPause l S k0 x2 _ h) ⟨hx, hb, hml, hown, hts⟩ (cwV 1 hts gX9_ahead_X9_isPause rfl rfl rfl (by decide +kernel) ⟨by decide, by decide⟩) hK hG hA hk1 (cell_9 hq2) rfl rfl hl.1 rfl (Nat.le_of_ble_eq_true rfl) ⟨Nat.le_refl _, Nat.le_refl _⟩ dX9_ahead_10 (fun r_9 S3 H locs hp hs_S3 hG => ?_)
        obtain ⟨u4, rfl, h⟩ := hp
        have h := h hs_S3
        refine W.eq (g2 := F0 m 13 ls [.int u4]) rfl ?_
        have hsh := hs_S3.tr hsh
        have hk5 := hs_S3.lt hk1
        have hq6 := hs_S3.kd hq2
        refine lv_if_eq (tgt := 47) hx hb dX9_ahead_13 (by decide) (fun c_13 => ?_) (fun c_13 => ?_)
        · have h := h.1 c_13
          refine lv_iinc (v := x2 + (-1)) (lv' := [(2, .int (x2 + (-1))), (0, .ref (ad k0)), (1, .int x1)]) hx hb dX9_ahead_47 hl (k := 2) rfl rfl (by decide) rfl (fun ls hl => ?_)
          refine lv_goto (tgt := 4) hx hb dX9_ahead_50 (by decide) ?_
          exact hL_4 x1 (x2 + (-1)) S3 H locs ls h hsh hG (lv_sub hl [1, 2, 0] rfl)
        · have h := h.2 c_13
          refine lv_aload_n hx hb dX9_ahead_16 rfl (lv_at hl 0 rfl) ?_
          refine g_get (ci := 9) (C := RX9) (T := TX9) (N := 36) hx hb hts hin9 hown hK hG hk5 (cell_9 hq6) rfl 8 (by decide) lk_22 (fun _ h9 => h9) (v := rv ad (gR S3 k0 8)) rfl dX9_ahead_17 ?_
          refine lv_aload_n hx hb dX9_ahead_20 rfl (lv_at hl 0 rfl) ?_
          refine g_get (ci := 9) (C := RX9) (T := TX9) (N := 36) hx hb hts hin9 hown hK hG hk5 (cell_9 hq6) rfl 22 (by decide) lk_59 (fun _ h9 => h9) (v := rv ad (gR S3 k0 22)) rfl dX9_ahead_21 ?_
          refine lv_iload_n hx hb dX9_ahead_24 rfl (lv_at hl 2 rfl) ?_
          obtain ⟨q7, e8, h⟩ := h
          refine W.eq (g2 := F0 m 25 ls [.int x2, .ref (ad q7), rv ad (gR S3 k0 8)]) (by rw [e8]; rfl) ?_
          obtain ⟨hk9, hq10, h⟩ := h
          obtain ⟨hi11, h⟩ := h
          refine r_iald hx hb hK hG hk9 hq10 hi11 dX9_ahead_25 ?_
          obtain ⟨q12, e13, h⟩ := h
          refine W.eq (g2 := F0 m 26 ls [.int (gX S3 q7 (Int32.toNatClampNeg x2)), .ref (ad q12)]) (by rw [e13]; rfl) ?_
          obtain ⟨hk14, hq15, h⟩ := h
          obtain ⟨hi16, h⟩ := h
          refine r_iald hx hb hK hG hk14 hq15 hi16 dX9_ahead_26 ?_
          refine lv_aload_n hx hb dX9_ahead_27 rfl (lv_at hl 0 rfl) ?_
          refine g_get (ci := 9) (C := RX9) (T := TX9) (N := 36) hx hb hts hin9 hown hK hG hk5 (cell_9 hq6) rfl 8 (by decide) lk_22 (fun _ h9 => h9) (v := rv ad (gR S3 k0 8)) rfl dX9_ahead_28 ?_
          refine lv_aload_n hx hb dX9_ahead_31 rfl (lv_at hl 0 rfl) ?_
          refine g_get (ci := 9) (C := RX9) (T := TX9) (N := 36) hx hb hts hin9 hown hK hG hk5 (cell_9 hq6) rfl 22 (by decide) lk_59 (fun _ h9 => h9) (v := rv ad (gR S3 k0 22)) rfl dX9_ahead_32 ?_
          refine lv_iload_n hx hb dX9_ahead_35 rfl (lv_at hl 1 rfl) ?_
          refine W.eq (g2 := F0 m 36 ls [.int x1, .ref (ad q7), rv ad (gR S3 k0 8), .int (gX S3 q12 (Int32.toNatClampNeg (gX S3 q7 (Int32.toNatClampNeg x2))))]) (by rw [e8]; rfl) ?_
          obtain ⟨hi17, h⟩ := h
          refine r_iald hx hb hK hG hk9 hq10 hi17 dX9_ahead_36 ?_
          refine W.eq (g2 := F0 m 37 ls [.int (gX S3 q7 (Int32.toNatClampNeg x1)), .ref (ad q12), .int (gX S3 q12 (Int32.toNatClampNeg (gX S3 q7 (Int32.toNatClampNeg x2))))]) (by rw [e13]; rfl) ?_
          obtain ⟨hi18, h⟩ := h
          refine r_iald hx hb hK hG hk14 hq15 hi18 dX9_ahead_37 ?_
          refine lv_icmp_ne (tgt := 45) hx hb dX9_ahead_38 (by decide) (fun c_38 => ?_) (fun c_38 => ?_)
          · have h := h.1 c_38
            refine lv_iconst (v := (-1)) hx hb dX9_ahead_45 (by decide) ?_
            exact b_46 (-1) S3 H locs ls h hsh hG (lv_sub hl [] rfl)
          · have h := h.2 c_38
            refine lv_iload_n hx hb dX9_ahead_41 rfl (lv_at hl 2 rfl) ?_
            refine lv_goto (tgt := 46) hx hb dX9_ahead_42 (by decide) ?_
            exact b_46 x2 S3 H locs ls h hsh hG (lv_sub hl [] rfl)
  have hl : lv_has ls 3 [(0, .ref (ad k0)), (1, .int x1)] := hl
  have hsh : gSh S S0 := by rw [hS0]; exact gSh.rf S
  obtain ⟨H, eH⟩ : ∃ z : Heap, z = s.heap := ⟨_, rfl⟩
  obtain ⟨locs, eL⟩ : ∃ z : List Loc, z = [] := ⟨_, rfl⟩
  have hG : gS D Y ad A s.heap S H locs := by rw [eH, eL]; exact hG
  suffices hgoal : W p l e (rmD 1) s m args below meth c H locs 0 0 (MQ below (gE D Y za ad S0 s.heap.size (fun r S9 => ∃ x, r = some (vI x) ∧ Q x S9)) args s 0 0 A) (F0 m 0 ls []) by rw [eH, eL] at hgoal; exact hgoal
  unfold wX9_ahead at h
  refine lv_iload_n hx hb dX9_ahead_0 rfl (lv_at hl 1 rfl) ?_
  refine lv_iconst (v := 1) hx hb dX9_ahead_1 (by decide) ?_
  refine lv_isub hx hb dX9_ahead_2 ?_
  refine lv_istore_n (lv' := [(2, .int (x1 - 1)), (0, .ref (ad k0)), (1, .int x1)]) hx hb dX9_ahead_3 rfl hl (by decide) rfl (fun ls hl => ?_)
  obtain ⟨f19, h⟩ := h
  exact b_4 f19 x1 (x1 - 1) S H locs ls h hsh hG (lv_sub hl [1, 2, 0] rfl)
def wX9_allocated_105 (Q : GS → Prop) (L_2 : Int32 → GS → Prop) (k0 : Nat) (x1 : Int32) (S : GS) : Prop :=
  L_2 (x1 + 1) S
def wX9_allocated_27 (Q : GS → Prop) (L_2 : Int32 → GS → Prop) (k0 : Nat) (x1 : Int32) (t0 : Int32) (S : GS) : Prop :=
  (t0 = (-1) → wX9_allocated_105 Q L_2 k0 x1 S) ∧ (¬ t0 = (-1) → k0 < gN S ∧ gK S k0 = 9 ∧ ∃ q3 : Nat, gR S k0 22 = some q3 ∧ q3 < gN S ∧ gK S q3 = 11 ∧ vp_in x1 (gL S q3) ∧ ∃ q8 : Nat, gR S k0 17 = some q8 ∧ q8 < gN S ∧ gK S q8 = 11 ∧ vp_in (3 * (gX S q3 (Int32.toNatClampNeg x1))) (gL S q8) ∧ vp_in t0 (gL S q3) ∧ vp_in ((3 * (gX S q3 (Int32.toNatClampNeg t0))) + 1) (gL S q8) ∧ ∀ S15 : GS, S15 = sZ S k0 33 ((gZ S k0 33) + (Int32.toInt64 ((gX S q8 (Int32.toNatClampNeg (3 * (gX S q3 (Int32.toNatClampNeg x1))))) - (gX S q8 (Int32.toNatClampNeg ((3 * (gX S q3 (Int32.toNatClampNeg t0))) + 1)))))) → ∃ q22 : Nat, gR S15 k0 21 = some q22 ∧ q22 < gN S15 ∧ gK S15 q22 = 11 ∧ vp_in x1 (gL S15 q22) ∧ ∃ q27 : Nat, gR S15 k0 15 = some q27 ∧ q27 < gN S15 ∧ gK S15 q27 = 11 ∧ vp_in (gX S15 q22 (Int32.toNatClampNeg x1)) (gL S15 q27) ∧ ∃ q32 : Nat, gR S15 k0 22 = some q32 ∧ q32 < gN S15 ∧ gK S15 q32 = 11 ∧ vp_in t0 (gL S15 q32) ∧ vp_in (gX S15 q32 (Int32.toNatClampNeg t0)) (gL S15 q27) ∧ ∀ S38 : GS, S38 = sZ S15 k0 34 ((gZ S15 k0 34) + (Int32.toInt64 ((gX S15 q27 (Int32.toNatClampNeg (gX S15 q22 (Int32.toNatClampNeg x1)))) - (gX S15 q27 (Int32.toNatClampNeg (gX S15 q32 (Int32.toNatClampNeg t0))))))) → wX9_allocated_105 Q L_2 k0 x1 S38)
def wX9_allocated_2 (Q : GS → Prop) (k0 : Nat) : Nat → Int32 → GS → Prop
  | 0, _, _ => False
  | f9 + 1, x1, S =>
  k0 < gN S ∧ gK S k0 = 9 ∧ ((gX S k0 25) ≤ x1 → Q S) ∧ (¬ (gX S k0 25) ≤ x1 → wX9_isPause S k0 x1 (fun u54 S53 => gSh S53 S → (u54 = 0 → wX9_allocated_27 Q (wX9_allocated_2 Q k0 f9) k0 x1 (-1) S53) ∧ (¬ u54 = 0 → wX9_ahead S53 k0 x1 (fun u58 S57 => gSh S57 S53 → wX9_allocated_27 Q (wX9_allocated_2 Q k0 f9) k0 x1 u58 S57))))
def wX9_allocated (S : GS) (k0 : Nat) (Q : GS → Prop) : Prop :=
  ∃ f61 : Nat, wX9_allocated_2 Q k0 f61 0 S
set_option maxHeartbeats 4000000 in
set_option maxRecDepth 100000 in
theorem tX9_allocated (l : Launch) (S : GS) (k0 : Nat) (Q : GS → Prop) (h : wX9_allocated S k0 Q) : CS l yX9_allocated wsX9_allocated 2 S [vR (some k0)] (fun r S9 => r = none ∧ Q S9) := by
  refine CS.ofW (cc := cX9_allocated) (maxL := 3) (ret := none) RX9 (by decide) rfl rfl (fun _ _ => Nat.le_of_ble_eq_true rfl) ?_
  intro p e s m args below meth c D Y za ad A ls hAe hx hb hr hml hts hown hlocks hK hA hG hl
  obtain ⟨S0, hS0⟩ : ∃ z : GS, z = S := ⟨_, rfl⟩
  rw [← hS0] at hAe
  rw [← hS0]
  have hin9 : ∀ w ∈ wsX90, w ∈ wsX9_allocated := by decide +kernel
  have lk_205 := hts (.fieldLink RX9 205 "PauseLogModel" "events" "I") (by decide +kernel)
  have lk_290 := hts (.fieldLink RX9 290 "PauseLogModel" "above" "J") (by decide +kernel)
  have lk_50 := hts (.fieldLink RX9 50 "PauseLogModel" "sizes" "[I") (by decide +kernel)
  have lk_59 := hts (.fieldLink RX9 59 "PauseLogModel" "endLine" "[I") (by decide +kernel)
  have lk_294 := hts (.fieldLink RX9 294 "PauseLogModel" "below" "J") (by decide +kernel)
  have lk_44 := hts (.fieldLink RX9 44 "PauseLogModel" "time" "[I") (by decide +kernel)
  have lk_56 := hts (.fieldLink RX9 56 "PauseLogModel" "beginLine" "[I") (by decide +kernel)
  have b_105 : ∀ (L_2 : Int32 → GS → Prop) (hL_2 : ∀ (x1 : Int32) (S : GS) (H : Heap) (locs : List Loc) (ls : Array Slot), L_2 x1 S → gSh S S0 → gS D Y ad A s.heap S H locs → lv_has ls 3 [(0, .ref (ad k0)), (1, .int x1)] → W p l e (rmD 2) s m args below meth c H locs 0 0 (MQ below (gE D Y za ad S0 s.heap.size (fun r S9 => r = none ∧ Q S9)) args s 0 0 A) (F0 m 2 ls [])) (x1 : Int32) (S : GS) (H : Heap) (locs : List Loc) (ls : Array Slot), wX9_allocated_105 Q L_2 k0 x1 S → gSh S S0 → gS D Y ad A s.heap S H locs → lv_has ls 3 [(0, .ref (ad k0)), (1, .int x1)] → W p l e (rmD 2) s m args below meth c H locs 0 0 (MQ below (gE D Y za ad S0 s.heap.size (fun r S9 => r = none ∧ Q S9)) args s 0 0 A) (F0 m 105 ls []) := by
    intro L_2 hL_2 x1 S H locs ls h hsh hG hl
    unfold wX9_allocated_105 at h
    refine lv_iinc (v := x1 + 1) (lv' := [(1, .int (x1 + 1)), (0, .ref (ad k0))]) hx hb dX9_allocated_105 hl (k := 1) rfl rfl (by decide) rfl (fun ls hl => ?_)
    refine lv_goto (tgt := 2) hx hb dX9_allocated_108 (by decide) ?_
    exact hL_2 (x1 + 1) S H locs ls h hsh hG (lv_sub hl [1, 0] rfl)
  have b_27 : ∀ (L_2 : Int32 → GS → Prop) (hL_2 : ∀ (x1 : Int32) (S : GS) (H : Heap) (locs : List Loc) (ls : Array Slot), L_2 x1 S → gSh S S0 → gS D Y ad A s.heap S H locs → lv_has ls 3 [(0, .ref (ad k0)), (1, .int x1)] → W p l e (rmD 2) s m args below meth c H locs 0 0 (MQ below (gE D Y za ad S0 s.heap.size (fun r S9 => r = none ∧ Q S9)) args s 0 0 A) (F0 m 2 ls [])) (x1 : Int32) (t0 : Int32) (S : GS) (H : Heap) (locs : List Loc) (ls : Array Slot), wX9_allocated_27 Q L_2 k0 x1 t0 S → gSh S S0 → gS D Y ad A s.heap S H locs → lv_has ls 3 [(0, .ref (ad k0)), (1, .int x1)] → W p l e (rmD 2) s m args below meth c H locs 0 0 (MQ below (gE D Y za ad S0 s.heap.size (fun r S9 => r = none ∧ Q S9)) args s 0 0 A) (F0 m 27 ls [.int t0]) := by
    intro L_2 hL_2 x1 t0 S H locs ls h hsh hG hl
    unfold wX9_allocated_27 at h
    refine lv_istore_n (lv' := [(2, .int t0), (0, .ref (ad k0)), (1, .int x1)]) hx hb dX9_allocated_27 rfl hl (by decide) rfl (fun ls hl => ?_)
    refine lv_iload_n hx hb dX9_allocated_28 rfl (lv_at hl 0 rfl) ?_
    refine lv_iconst (v := (-1)) hx hb dX9_allocated_29 (by decide) ?_
    refine lv_icmp_eq (tgt := 105) hx hb dX9_allocated_30 (by decide) (fun c_30 => ?_) (fun c_30 => ?_)
    · have h := h.1 c_30
      exact b_105 L_2 hL_2 x1 S H locs ls h hsh hG (lv_sub hl [1, 2] rfl)
    · have h := h.2 c_30
      refine lv_aload_n hx hb dX9_allocated_33 rfl (lv_at hl 1 rfl) ?_
      refine lv_dup hx hb dX9_allocated_34 rfl ?_
      obtain ⟨hk1, hq2, h⟩ := h
      refine g_get (ci := 9) (C := RX9) (T := TX9) (N := 36) hx hb hts hin9 hown hK hG hk1 (cell_9 hq2) rfl 33 (by decide) lk_290 (fun _ h9 => h9) (v := .long (gZ S k0 33)) rfl dX9_allocated_35 ?_
      refine lv_aload_n hx hb dX9_allocated_38 rfl (lv_at hl 1 rfl) ?_
      refine g_get (ci := 9) (C := RX9) (T := TX9) (N := 36) hx hb hts hin9 hown hK hG hk1 (cell_9 hq2) rfl 17 (by decide) lk_50 (fun _ h9 => h9) (v := rv ad (gR S k0 17)) rfl dX9_allocated_39 ?_
      refine lv_iconst (v := 3) hx hb dX9_allocated_42 (by decide) ?_
      refine lv_aload_n hx hb dX9_allocated_43 rfl (lv_at hl 1 rfl) ?_
      refine g_get (ci := 9) (C := RX9) (T := TX9) (N := 36) hx hb hts hin9 hown hK hG hk1 (cell_9 hq2) rfl 22 (by decide) lk_59 (fun _ h9 => h9) (v := rv ad (gR S k0 22)) rfl dX9_allocated_44 ?_
      refine lv_iload_n hx hb dX9_allocated_47 rfl (lv_at hl 2 rfl) ?_
      obtain ⟨q3, e4, h⟩ := h
      refine W.eq (g2 := F0 m 48 ls [.int x1, .ref (ad q3), .int 3, rv ad (gR S k0 17), .long (gZ S k0 33), .ref (ad k0)]) (by rw [e4]; rfl) ?_
      obtain ⟨hk5, hq6, h⟩ := h
      obtain ⟨hi7, h⟩ := h
      refine r_iald hx hb hK hG hk5 hq6 hi7 dX9_allocated_48 ?_
      refine lv_imul hx hb dX9_allocated_49 ?_
      obtain ⟨q8, e9, h⟩ := h
      refine W.eq (g2 := F0 m 50 ls [.int (3 * (gX S q3 (Int32.toNatClampNeg x1))), .ref (ad q8), .long (gZ S k0 33), .ref (ad k0)]) (by rw [e9]; rfl) ?_
      obtain ⟨hk10, hq11, h⟩ := h
      obtain ⟨hi12, h⟩ := h
      refine r_iald hx hb hK hG hk10 hq11 hi12 dX9_allocated_50 ?_
      refine lv_aload_n hx hb dX9_allocated_51 rfl (lv_at hl 1 rfl) ?_
      refine g_get (ci := 9) (C := RX9) (T := TX9) (N := 36) hx hb hts hin9 hown hK hG hk1 (cell_9 hq2) rfl 17 (by decide) lk_50 (fun _ h9 => h9) (v := rv ad (gR S k0 17)) rfl dX9_allocated_52 ?_
      refine lv_iconst (v := 3) hx hb dX9_allocated_55 (by decide) ?_
      refine lv_aload_n hx hb dX9_allocated_56 rfl (lv_at hl 1 rfl) ?_
      refine g_get (ci := 9) (C := RX9) (T := TX9) (N := 36) hx hb hts hin9 hown hK hG hk1 (cell_9 hq2) rfl 22 (by decide) lk_59 (fun _ h9 => h9) (v := rv ad (gR S k0 22)) rfl dX9_allocated_57 ?_
      refine lv_iload_n hx hb dX9_allocated_60 rfl (lv_at hl 0 rfl) ?_
      refine W.eq (g2 := F0 m 61 ls [.int t0, .ref (ad q3), .int 3, rv ad (gR S k0 17), .int (gX S q8 (Int32.toNatClampNeg (3 * (gX S q3 (Int32.toNatClampNeg x1))))), .long (gZ S k0 33), .ref (ad k0)]) (by rw [e4]; rfl) ?_
      obtain ⟨hi13, h⟩ := h
      refine r_iald hx hb hK hG hk5 hq6 hi13 dX9_allocated_61 ?_
      refine lv_imul hx hb dX9_allocated_62 ?_
      refine lv_iconst (v := 1) hx hb dX9_allocated_63 (by decide) ?_
      refine lv_iadd hx hb dX9_allocated_64 ?_
      refine W.eq (g2 := F0 m 65 ls [.int ((3 * (gX S q3 (Int32.toNatClampNeg t0))) + 1), .ref (ad q8), .int (gX S q8 (Int32.toNatClampNeg (3 * (gX S q3 (Int32.toNatClampNeg x1))))), .long (gZ S k0 33), .ref (ad k0)]) (by rw [e9]; rfl) ?_
      obtain ⟨hi14, h⟩ := h
      refine r_iald hx hb hK hG hk10 hq11 hi14 dX9_allocated_65 ?_
      refine lv_isub hx hb dX9_allocated_66 ?_
      refine lv_i2l hx hb dX9_allocated_67 rfl ?_
      refine lv_ladd hx hb dX9_allocated_68 ?_
      refine r_put (ci := 9) (C := RX9) (T := TX9) (N := 36) hx hb hts hin9 tyX9 tyX9_ok nmX9 hown hK hG hk1 (cell_9 hq2) rfl 33 (by decide) lk_290 (fun _ h9 => h9) rfl rfl rfl (Nat.le_of_ble_eq_true rfl) (S' := sZ S k0 33 ((gZ S k0 33) + (Int32.toInt64 ((gX S q8 (Int32.toNatClampNeg (3 * (gX S q3 (Int32.toNatClampNeg x1))))) - (gX S q8 (Int32.toNatClampNeg ((3 * (gX S q3 (Int32.toNatClampNeg t0))) + 1))))))) rfl (pu_9_33 hq2 ((gZ S k0 33) + (Int32.toInt64 ((gX S q8 (Int32.toNatClampNeg (3 * (gX S q3 (Int32.toNatClampNeg x1))))) - (gX S q8 (Int32.toNatClampNeg ((3 * (gX S q3 (Int32.toNatClampNeg t0))) + 1))))))) dX9_allocated_69 (fun H locs hG => ?_)
      obtain ⟨S15, eS_S15⟩ : ∃ z : GS, z = sZ S k0 33 ((gZ S k0 33) + (Int32.toInt64 ((gX S q8 (Int32.toNatClampNeg (3 * (gX S q3 (Int32.toNatClampNeg x1))))) - (gX S q8 (Int32.toNatClampNeg ((3 * (gX S q3 (Int32.toNatClampNeg t0))) + 1)))))) := ⟨_, rfl⟩
      have h := h S15 eS_S15
      rw [← eS_S15] at hG
      have hs_S15 : gSh S15 S := by rw [eS_S15]; exact gSh.z _ _ _ _
      have hsh := hs_S15.tr hsh
      have hk16 := hs_S15.lt hk1
      have hq17 := hs_S15.kd hq2
      have hk18 := hs_S15.lt hk5
      have hq19 := hs_S15.kd hq6
      have hk20 := hs_S15.lt hk10
      have hq21 := hs_S15.kd hq11
      refine lv_aload_n hx hb dX9_allocated_72 rfl (lv_at hl 1 rfl) ?_
      refine lv_dup hx hb dX9_allocated_73 rfl ?_
      refine g_get (ci := 9) (C := RX9) (T := TX9) (N := 36) hx hb hts hin9 hown hK hG hk16 (cell_9 hq17) rfl 34 (by decide) lk_294 (fun _ h9 => h9) (v := .long (gZ S15 k0 34)) rfl dX9_allocated_74 ?_
      refine lv_aload_n hx hb dX9_allocated_77 rfl (lv_at hl 1 rfl) ?_
      refine g_get (ci := 9) (C := RX9) (T := TX9) (N := 36) hx hb hts hin9 hown hK hG hk16 (cell_9 hq17) rfl 15 (by decide) lk_44 (fun _ h9 => h9) (v := rv ad (gR S15 k0 15)) rfl dX9_allocated_78 ?_
      refine lv_aload_n hx hb dX9_allocated_81 rfl (lv_at hl 1 rfl) ?_
      refine g_get (ci := 9) (C := RX9) (T := TX9) (N := 36) hx hb hts hin9 hown hK hG hk16 (cell_9 hq17) rfl 21 (by decide) lk_56 (fun _ h9 => h9) (v := rv ad (gR S15 k0 21)) rfl dX9_allocated_82 ?_
      refine lv_iload_n hx hb dX9_allocated_85 rfl (lv_at hl 2 rfl) ?_
      obtain ⟨q22, e23, h⟩ := h
      refine W.eq (g2 := F0 m 86 ls [.int x1, .ref (ad q22), rv ad (gR S15 k0 15), .long (gZ S15 k0 34), .ref (ad k0)]) (by rw [e23]; rfl) ?_
      obtain ⟨hk24, hq25, h⟩ := h
      obtain ⟨hi26, h⟩ := h
      refine r_iald hx hb hK hG hk24 hq25 hi26 dX9_allocated_86 ?_
      obtain ⟨q27, e28, h⟩ := h
      refine W.eq (g2 := F0 m 87 ls [.int (gX S15 q22 (Int32.toNatClampNeg x1)), .ref (ad q27), .long (gZ S15 k0 34), .ref (ad k0)]) (by rw [e28]; rfl) ?_
      obtain ⟨hk29, hq30, h⟩ := h
      obtain ⟨hi31, h⟩ := h
      refine r_iald hx hb hK hG hk29 hq30 hi31 dX9_allocated_87 ?_
      refine lv_aload_n hx hb dX9_allocated_88 rfl (lv_at hl 1 rfl) ?_
      refine g_get (ci := 9) (C := RX9) (T := TX9) (N := 36) hx hb hts hin9 hown hK hG hk16 (cell_9 hq17) rfl 15 (by decide) lk_44 (fun _ h9 => h9) (v := rv ad (gR S15 k0 15)) rfl dX9_allocated_89 ?_
      refine lv_aload_n hx hb dX9_allocated_92 rfl (lv_at hl 1 rfl) ?_
      refine g_get (ci := 9) (C := RX9) (T := TX9) (N := 36) hx hb hts hin9 hown hK hG hk16 (cell_9 hq17) rfl 22 (by decide) lk_59 (fun _ h9 => h9) (v := rv ad (gR S15 k0 22)) rfl dX9_allocated_93 ?_
      refine lv_iload_n hx hb dX9_allocated_96 rfl (lv_at hl 0 rfl) ?_
      obtain ⟨q32, e33, h⟩ := h
      refine W.eq (g2 := F0 m 97 ls [.int t0, .ref (ad q32), rv ad (gR S15 k0 15), .int (gX S15 q27 (Int32.toNatClampNeg (gX S15 q22 (Int32.toNatClampNeg x1)))), .long (gZ S15 k0 34), .ref (ad k0)]) (by rw [e33]; rfl) ?_
      obtain ⟨hk34, hq35, h⟩ := h
      obtain ⟨hi36, h⟩ := h
      refine r_iald hx hb hK hG hk34 hq35 hi36 dX9_allocated_97 ?_
      refine W.eq (g2 := F0 m 98 ls [.int (gX S15 q32 (Int32.toNatClampNeg t0)), .ref (ad q27), .int (gX S15 q27 (Int32.toNatClampNeg (gX S15 q22 (Int32.toNatClampNeg x1)))), .long (gZ S15 k0 34), .ref (ad k0)]) (by rw [e28]; rfl) ?_
      obtain ⟨hi37, h⟩ := h
      refine r_iald hx hb hK hG hk29 hq30 hi37 dX9_allocated_98 ?_
      refine lv_isub hx hb dX9_allocated_99 ?_
      refine lv_i2l hx hb dX9_allocated_100 rfl ?_
      refine lv_ladd hx hb dX9_allocated_101 ?_
      refine r_put (ci := 9) (C := RX9) (T := TX9) (N := 36) hx hb hts hin9 tyX9 tyX9_ok nmX9 hown hK hG hk16 (cell_9 hq17) rfl 34 (by decide) lk_294 (fun _ h9 => h9) rfl rfl rfl (Nat.le_of_ble_eq_true rfl) (S' := sZ S15 k0 34 ((gZ S15 k0 34) + (Int32.toInt64 ((gX S15 q27 (Int32.toNatClampNeg (gX S15 q22 (Int32.toNatClampNeg x1)))) - (gX S15 q27 (Int32.toNatClampNeg (gX S15 q32 (Int32.toNatClampNeg t0)))))))) rfl (pu_9_34 hq17 ((gZ S15 k0 34) + (Int32.toInt64 ((gX S15 q27 (Int32.toNatClampNeg (gX S15 q22 (Int32.toNatClampNeg x1)))) - (gX S15 q27 (Int32.toNatClampNeg (gX S15 q32 (Int32.toNatClampNeg t0)))))))) dX9_allocated_102 (fun H locs hG => ?_)
      obtain ⟨S38, eS_S38⟩ : ∃ z : GS, z = sZ S15 k0 34 ((gZ S15 k0 34) + (Int32.toInt64 ((gX S15 q27 (Int32.toNatClampNeg (gX S15 q22 (Int32.toNatClampNeg x1)))) - (gX S15 q27 (Int32.toNatClampNeg (gX S15 q32 (Int32.toNatClampNeg t0))))))) := ⟨_, rfl⟩
      have h := h S38 eS_S38
      rw [← eS_S38] at hG
      have hs_S38 : gSh S38 S15 := by rw [eS_S38]; exact gSh.z _ _ _ _
      have hsh := hs_S38.tr hsh
      have hk39 := hs_S38.lt hk16
      have hq40 := hs_S38.kd hq17
      have hk41 := hs_S38.lt hk18
      have hq42 := hs_S38.kd hq19
      have hk43 := hs_S38.lt hk20
      have hq44 := hs_S38.kd hq21
      have hk45 := hs_S38.lt hk24
      have hq46 := hs_S38.kd hq25
      have hk47 := hs_S38.lt hk29
      have hq48 := hs_S38.kd hq30
      have hk49 := hs_S38.lt hk34
      have hq50 := hs_S38.kd hq35
      exact b_105 L_2 hL_2 x1 S38 H locs ls h hsh hG (lv_sub hl [1, 2] rfl)
  have b_2 : ∀  (f9 : Nat) (x1 : Int32) (S : GS) (H : Heap) (locs : List Loc) (ls : Array Slot), wX9_allocated_2 Q k0 f9 x1 S → gSh S S0 → gS D Y ad A s.heap S H locs → lv_has ls 3 [(0, .ref (ad k0)), (1, .int x1)] → W p l e (rmD 2) s m args below meth c H locs 0 0 (MQ below (gE D Y za ad S0 s.heap.size (fun r S9 => r = none ∧ Q S9)) args s 0 0 A) (F0 m 2 ls []) := by
    intro  f9
    induction f9 with
    | zero =>
      intro x1 S H locs ls h
      exact False.elim (by unfold wX9_allocated_2 at h; exact h)
    | succ f9 hL_2 =>
      intro x1 S H locs ls h hsh hG hl
      unfold wX9_allocated_2 at h
      refine lv_iload_n hx hb dX9_allocated_2 rfl (lv_at hl 1 rfl) ?_
      refine lv_aload_n hx hb dX9_allocated_3 rfl (lv_at hl 0 rfl) ?_
      obtain ⟨hk51, hq52, h⟩ := h
      refine g_get (ci := 9) (C := RX9) (T := TX9) (N := 36) hx hb hts hin9 hown hK hG hk51 (cell_9 hq52) rfl 25 (by decide) lk_205 (fun _ h9 => h9) (v := .int (gX S k0 25)) rfl dX9_allocated_4 ?_
      refine lv_icmp_ge (tgt := 111) hx hb dX9_allocated_7 (by decide) (fun c_7 => ?_) (fun c_7 => ?_)
      · have h := h.1 c_7
        exact W.vret hx hb hr (fun t ht hW => r_end (r := none) hAe hG hsh ⟨rfl, h⟩ rfl ht) hG.2.2.2.2 dX9_allocated_111
      · have h := h.2 c_7
        refine lv_aload_n hx hb dX9_allocated_10 rfl (lv_at hl 0 rfl) ?_
        refine lv_iload_n hx hb dX9_allocated_11 rfl (lv_at hl 1 rfl) ?_
        refine r_callV (za := za) (k := k0) (ci := 9) (C := RX9) (T := TX9) (N := 36) (As := [vI x1]) (rest := []) (tX9_isPause l S k0 x1 _ h) ⟨hx, hb, hml, hown, hts⟩ (cwV 1 hts gX9_allocated_X9_isPause rfl rfl rfl (by decide +kernel) ⟨by decide, by decide⟩) hK hG hA hk51 (cell_9 hq52) rfl rfl hl.1 rfl (Nat.le_of_ble_eq_true rfl) ⟨Nat.le_refl _, Nat.le_refl _⟩ dX9_allocated_12 (fun r_9 S53 H locs hp hs_S53 hG => ?_)
        obtain ⟨u54, rfl, h⟩ := hp
        have h := h hs_S53
        refine W.eq (g2 := F0 m 15 ls [.int u54]) rfl ?_
        have hsh := hs_S53.tr hsh
        have hk55 := hs_S53.lt hk51
        have hq56 := hs_S53.kd hq52
        refine lv_if_eq (tgt := 26) hx hb dX9_allocated_15 (by decide) (fun c_15 => ?_) (fun c_15 => ?_)
        · have h := h.1 c_15
          refine lv_iconst (v := (-1)) hx hb dX9_allocated_26 (by decide) ?_
          exact b_27 (wX9_allocated_2 Q k0 f9) hL_2 x1 (-1) S53 H locs ls h hsh hG (lv_sub hl [0, 1] rfl)
        · have h := h.2 c_15
          refine lv_aload_n hx hb dX9_allocated_18 rfl (lv_at hl 0 rfl) ?_
          refine lv_iload_n hx hb dX9_allocated_19 rfl (lv_at hl 1 rfl) ?_
          refine r_callV (za := za) (k := k0) (ci := 9) (C := RX9) (T := TX9) (N := 36) (As := [vI x1]) (rest := []) (tX9_ahead l S53 k0 x1 _ h) ⟨hx, hb, hml, hown, hts⟩ (cwV 1 hts gX9_allocated_X9_ahead rfl rfl rfl (by decide +kernel) ⟨by decide, by decide⟩) hK hG hA hk55 (cell_9 hq56) rfl rfl hl.1 rfl (Nat.le_of_ble_eq_true rfl) ⟨Nat.le_refl _, Nat.le_refl _⟩ dX9_allocated_20 (fun r_9 S57 H locs hp hs_S57 hG => ?_)
          obtain ⟨u58, rfl, h⟩ := hp
          have h := h hs_S57
          refine W.eq (g2 := F0 m 23 ls [.int u58]) rfl ?_
          have hsh := hs_S57.tr hsh
          have hk59 := hs_S57.lt hk55
          have hq60 := hs_S57.kd hq56
          refine lv_goto (tgt := 27) hx hb dX9_allocated_23 (by decide) ?_
          exact b_27 (wX9_allocated_2 Q k0 f9) hL_2 x1 u58 S57 H locs ls h hsh hG (lv_sub hl [0, 1] rfl)
  have hl : lv_has ls 3 [(0, .ref (ad k0))] := hl
  have hsh : gSh S S0 := by rw [hS0]; exact gSh.rf S
  obtain ⟨H, eH⟩ : ∃ z : Heap, z = s.heap := ⟨_, rfl⟩
  obtain ⟨locs, eL⟩ : ∃ z : List Loc, z = [] := ⟨_, rfl⟩
  have hG : gS D Y ad A s.heap S H locs := by rw [eH, eL]; exact hG
  suffices hgoal : W p l e (rmD 2) s m args below meth c H locs 0 0 (MQ below (gE D Y za ad S0 s.heap.size (fun r S9 => r = none ∧ Q S9)) args s 0 0 A) (F0 m 0 ls []) by rw [eH, eL] at hgoal; exact hgoal
  unfold wX9_allocated at h
  refine lv_iconst (v := 0) hx hb dX9_allocated_0 (by decide) ?_
  refine lv_istore_n (lv' := [(1, .int 0), (0, .ref (ad k0))]) hx hb dX9_allocated_1 rfl hl (by decide) rfl (fun ls hl => ?_)
  obtain ⟨f61, h⟩ := h
  exact b_2 f61 0 S H locs ls h hsh hG (lv_sub hl [1, 0] rfl)
def wX9_rate_90 (Q : UInt64 → GS → Prop) (L_33 : Int32 → Int32 → GS → Prop) (k0 : Nat) (x1 : Int32) (x2 : Int32) (S : GS) : Prop :=
  L_33 x1 (x2 + 1) S
def wX9_rate_149 (Q : UInt64 → GS → Prop) (k0 : Nat) (t0 : UInt64) (S : GS) : Prop :=
  Q t0 S
def wX9_rate_124 (Q : UInt64 → GS → Prop) (k0 : Nat) (t0 : Nat) (t1 : Int32) (S : GS) : Prop :=
  t0 < gN S ∧ gK S t0 = 9 ∧ ∀ S3 : GS, S3 = sX S t0 32 t1 → k0 < gN S3 ∧ gK S3 k0 = 9 ∧ ((gX S3 k0 32) = 0 → vf_n64 (FP.ddiv (FP.l2d (gZ S3 k0 33)) (FP.l2d (gZ S3 k0 34))) ∧ wX9_rate_149 Q k0 (FP.ddiv (FP.l2d (gZ S3 k0 33)) (FP.l2d (gZ S3 k0 34))) S3) ∧ (¬ (gX S3 k0 32) = 0 → wX9_rate_149 Q k0 FP.dconst0 S3)
def wX9_rate_106 (Q : UInt64 → GS → Prop) (k0 : Nat) (t0 : Nat) (S : GS) : Prop :=
  wX9_rate_124 Q k0 t0 1 S
def wX9_rate_96 (Q : UInt64 → GS → Prop) (k0 : Nat) (x1 : Int32) (S : GS) : Prop :=
  (x1 < 0 → wX9_rate_106 Q k0 k0 S) ∧ (¬ x1 < 0 → (x1 ≤ 1 → k0 < gN S ∧ gK S k0 = 9 ∧ (¬ (lg_cmp (gZ S k0 34) 0) = 0 → wX9_rate_124 Q k0 k0 0 S) ∧ ((lg_cmp (gZ S k0 34) 0) = 0 → wX9_rate_124 Q k0 k0 2 S)) ∧ (¬ x1 ≤ 1 → wX9_rate_106 Q k0 k0 S))
def wX9_rate_33 (Q : UInt64 → GS → Prop) (k0 : Nat) : Nat → Int32 → Int32 → GS → Prop
  | 0, _, _, _ => False
  | f9 + 1, x1, x2, S =>
  k0 < gN S ∧ gK S k0 = 9 ∧ ((gX S k0 25) ≤ x2 → wX9_rate_96 Q k0 x1 S) ∧ (¬ (gX S k0 25) ≤ x2 → ∃ q13 : Nat, gR S k0 24 = some q13 ∧ q13 < gN S ∧ gK S q13 = 11 ∧ vp_in x2 (gL S q13) ∧ ((gX S q13 (Int32.toNatClampNeg x2)) = (-1) → wX9_rate_90 Q (wX9_rate_33 Q k0 f9) k0 x1 x2 S) ∧ (¬ (gX S q13 (Int32.toNatClampNeg x2)) = (-1) → vp_in x2 (gL S q13) ∧ ∃ q19 : Nat, gR S k0 17 = some q19 ∧ q19 < gN S ∧ gK S q19 = 11 ∧ vp_in ((3 * (gX S q13 (Int32.toNatClampNeg x2))) + 1) (gL S q19) ∧ vp_in x2 (gL S q13) ∧ vp_in (3 * (gX S q13 (Int32.toNatClampNeg x2))) (gL S q19) ∧ ∀ S26 : GS, S26 = sZ S k0 33 ((gZ S k0 33) + (Int32.toInt64 ((gX S q19 (Int32.toNatClampNeg ((3 * (gX S q13 (Int32.toNatClampNeg x2))) + 1))) - (gX S q19 (Int32.toNatClampNeg (3 * (gX S q13 (Int32.toNatClampNeg x2)))))))) → wX9_rate_90 Q (wX9_rate_33 Q k0 f9) k0 x1 x2 S26))
def wX9_rate_18 (Q : UInt64 → GS → Prop) (k0 : Nat) (x1 : Int32) (S : GS) : Prop :=
  (¬ x1 = 1 → wX9_rate_96 Q k0 x1 S) ∧ (x1 = 1 → k0 < gN S ∧ gK S k0 = 9 ∧ wX9_span S k0  (fun u36 S35 => gSh S35 S → ∀ S39 : GS, S39 = sZ S35 k0 34 u36 → ∃ f42 : Nat, wX9_rate_33 Q k0 f42 x1 0 S39))
def wX9_rate (S : GS) (k0 : Nat) (x1 : Int32) (Q : UInt64 → GS → Prop) : Prop :=
  k0 < gN S ∧ gK S k0 = 9 ∧ ∀ S45 : GS, S45 = sZ S k0 33 0 → ∀ S48 : GS, S48 = sZ S45 k0 34 0 → (¬ x1 = 0 → wX9_rate_18 Q k0 x1 S48) ∧ (x1 = 0 → wX9_allocated S48 k0  (fun S51 => gSh S51 S48 → wX9_rate_18 Q k0 x1 S51))
set_option maxHeartbeats 4000000 in
set_option maxRecDepth 100000 in
theorem tX9_rate (l : Launch) (S : GS) (k0 : Nat) (x1 : Int32) (Q : UInt64 → GS → Prop) (h : wX9_rate S k0 x1 Q) : CS l yX9_rate wsX9_rate 3 S [vR (some k0), vI x1] (fun r S9 => ∃ x, r = some (vD x) ∧ Q x S9) := by
  refine CS.ofW (cc := cX9_rate) (maxL := 3) (ret := (some .double)) RX9 (by decide) rfl rfl (fun _ _ => Nat.le_of_ble_eq_true rfl) ?_
  intro p e s m args below meth c D Y za ad A ls hAe hx hb hr hml hts hown hlocks hK hA hG hl
  obtain ⟨S0, hS0⟩ : ∃ z : GS, z = S := ⟨_, rfl⟩
  rw [← hS0] at hAe
  rw [← hS0]
  have hin9 : ∀ w ∈ wsX90, w ∈ wsX9_rate := by decide +kernel
  have lk_290 := hts (.fieldLink RX9 290 "PauseLogModel" "above" "J") (by decide +kernel)
  have lk_294 := hts (.fieldLink RX9 294 "PauseLogModel" "below" "J") (by decide +kernel)
  have lk_205 := hts (.fieldLink RX9 205 "PauseLogModel" "events" "I") (by decide +kernel)
  have lk_65 := hts (.fieldLink RX9 65 "PauseLogModel" "oldLine" "[I") (by decide +kernel)
  have lk_50 := hts (.fieldLink RX9 50 "PauseLogModel" "sizes" "[I") (by decide +kernel)
  have lk_84 := hts (.fieldLink RX9 84 "PauseLogModel" "thrown" "I") (by decide +kernel)
  have b_90 : ∀ (L_33 : Int32 → Int32 → GS → Prop) (hL_33 : ∀ (x1 : Int32) (x2 : Int32) (S : GS) (H : Heap) (locs : List Loc) (ls : Array Slot), L_33 x1 x2 S → gSh S S0 → gS D Y ad A s.heap S H locs → lv_has ls 3 [(0, .ref (ad k0)), (1, .int x1), (2, .int x2)] → W p l e (rmD 3) s m args below meth c H locs 0 0 (MQ below (gE D Y za ad S0 s.heap.size (fun r S9 => ∃ x, r = some (vD x) ∧ Q x S9)) args s 0 0 A) (F0 m 33 ls [])) (x1 : Int32) (x2 : Int32) (S : GS) (H : Heap) (locs : List Loc) (ls : Array Slot), wX9_rate_90 Q L_33 k0 x1 x2 S → gSh S S0 → gS D Y ad A s.heap S H locs → lv_has ls 3 [(0, .ref (ad k0)), (1, .int x1), (2, .int x2)] → W p l e (rmD 3) s m args below meth c H locs 0 0 (MQ below (gE D Y za ad S0 s.heap.size (fun r S9 => ∃ x, r = some (vD x) ∧ Q x S9)) args s 0 0 A) (F0 m 90 ls []) := by
    intro L_33 hL_33 x1 x2 S H locs ls h hsh hG hl
    unfold wX9_rate_90 at h
    refine lv_iinc (v := x2 + 1) (lv' := [(2, .int (x2 + 1)), (0, .ref (ad k0)), (1, .int x1)]) hx hb dX9_rate_90 hl (k := 2) rfl rfl (by decide) rfl (fun ls hl => ?_)
    refine lv_goto (tgt := 33) hx hb dX9_rate_93 (by decide) ?_
    exact hL_33 x1 (x2 + 1) S H locs ls h hsh hG (lv_sub hl [1, 2, 0] rfl)
  have b_149 : ∀  (t0 : UInt64) (S : GS) (H : Heap) (locs : List Loc) (ls : Array Slot), wX9_rate_149 Q k0 t0 S → gSh S S0 → gS D Y ad A s.heap S H locs → lv_has ls 3 [] → W p l e (rmD 3) s m args below meth c H locs 0 0 (MQ below (gE D Y za ad S0 s.heap.size (fun r S9 => ∃ x, r = some (vD x) ∧ Q x S9)) args s 0 0 A) (F0 m 149 ls [.double t0]) := by
    intro  t0 S H locs ls h hsh hG hl
    unfold wX9_rate_149 at h
    exact W.dret (v := t0) hx hb hr (fun t ht hW => r_end (r := some (vD t0)) hAe hG hsh ⟨_, rfl, h⟩ rfl ht) hG.2.2.2.2 dX9_rate_149
  have b_124 : ∀  (t0 : Nat) (t1 : Int32) (S : GS) (H : Heap) (locs : List Loc) (ls : Array Slot), wX9_rate_124 Q k0 t0 t1 S → gSh S S0 → gS D Y ad A s.heap S H locs → lv_has ls 3 [(0, .ref (ad k0))] → W p l e (rmD 3) s m args below meth c H locs 0 0 (MQ below (gE D Y za ad S0 s.heap.size (fun r S9 => ∃ x, r = some (vD x) ∧ Q x S9)) args s 0 0 A) (F0 m 124 ls [.int t1, .ref (ad t0)]) := by
    intro  t0 t1 S H locs ls h hsh hG hl
    unfold wX9_rate_124 at h
    obtain ⟨hk1, hq2, h⟩ := h
    refine r_put (ci := 9) (C := RX9) (T := TX9) (N := 36) hx hb hts hin9 tyX9 tyX9_ok nmX9 hown hK hG hk1 (cell_9 hq2) rfl 32 (by decide) lk_84 (fun _ h9 => h9) rfl rfl rfl (Nat.le_of_ble_eq_true rfl) (S' := sX S t0 32 t1) rfl (pu_9_32 hq2 t1) dX9_rate_124 (fun H locs hG => ?_)
    obtain ⟨S3, eS_S3⟩ : ∃ z : GS, z = sX S t0 32 t1 := ⟨_, rfl⟩
    have h := h S3 eS_S3
    rw [← eS_S3] at hG
    have hs_S3 : gSh S3 S := by rw [eS_S3]; exact gSh.x _ _ _ _
    have hsh := hs_S3.tr hsh
    have hk4 := hs_S3.lt hk1
    have hq5 := hs_S3.kd hq2
    refine lv_aload_n hx hb dX9_rate_127 rfl (lv_at hl 0 rfl) ?_
    obtain ⟨hk6, hq7, h⟩ := h
    refine g_get (ci := 9) (C := RX9) (T := TX9) (N := 36) hx hb hts hin9 hown hK hG hk6 (cell_9 hq7) rfl 32 (by decide) lk_84 (fun _ h9 => h9) (v := .int (gX S3 k0 32)) rfl dX9_rate_128 ?_
    refine lv_if_eq (tgt := 138) hx hb dX9_rate_131 (by decide) (fun c_131 => ?_) (fun c_131 => ?_)
    · have h := h.1 c_131
      refine lv_aload_n hx hb dX9_rate_138 rfl (lv_at hl 0 rfl) ?_
      refine g_get (ci := 9) (C := RX9) (T := TX9) (N := 36) hx hb hts hin9 hown hK hG hk6 (cell_9 hq7) rfl 33 (by decide) lk_290 (fun _ h9 => h9) (v := .long (gZ S3 k0 33)) rfl dX9_rate_139 ?_
      refine lv_l2d hx hb dX9_rate_142 ?_
      refine lv_aload_n hx hb dX9_rate_143 rfl (lv_at hl 0 rfl) ?_
      refine g_get (ci := 9) (C := RX9) (T := TX9) (N := 36) hx hb hts hin9 hown hK hG hk6 (cell_9 hq7) rfl 34 (by decide) lk_294 (fun _ h9 => h9) (v := .long (gZ S3 k0 34)) rfl dX9_rate_144 ?_
      refine lv_l2d hx hb dX9_rate_147 ?_
      obtain ⟨hd8, h⟩ := h
      refine lv_ddiv hx hb dX9_rate_148 hd8 ?_
      exact b_149 (FP.ddiv (FP.l2d (gZ S3 k0 33)) (FP.l2d (gZ S3 k0 34))) S3 H locs ls h hsh hG (lv_sub hl [] rfl)
    · have h := h.2 c_131
      refine lv_dconst0 hx hb dX9_rate_134 ?_
      refine lv_goto (tgt := 149) hx hb dX9_rate_135 (by decide) ?_
      exact b_149 FP.dconst0 S3 H locs ls h hsh hG (lv_sub hl [] rfl)
  have b_106 : ∀  (t0 : Nat) (S : GS) (H : Heap) (locs : List Loc) (ls : Array Slot), wX9_rate_106 Q k0 t0 S → gSh S S0 → gS D Y ad A s.heap S H locs → lv_has ls 3 [(0, .ref (ad k0))] → W p l e (rmD 3) s m args below meth c H locs 0 0 (MQ below (gE D Y za ad S0 s.heap.size (fun r S9 => ∃ x, r = some (vD x) ∧ Q x S9)) args s 0 0 A) (F0 m 106 ls [.ref (ad t0)]) := by
    intro  t0 S H locs ls h hsh hG hl
    unfold wX9_rate_106 at h
    refine lv_iconst (v := 1) hx hb dX9_rate_106 (by decide) ?_
    refine lv_goto (tgt := 124) hx hb dX9_rate_107 (by decide) ?_
    exact b_124 t0 1 S H locs ls h hsh hG (lv_sub hl [0] rfl)
  have b_96 : ∀  (x1 : Int32) (S : GS) (H : Heap) (locs : List Loc) (ls : Array Slot), wX9_rate_96 Q k0 x1 S → gSh S S0 → gS D Y ad A s.heap S H locs → lv_has ls 3 [(0, .ref (ad k0)), (1, .int x1)] → W p l e (rmD 3) s m args below meth c H locs 0 0 (MQ below (gE D Y za ad S0 s.heap.size (fun r S9 => ∃ x, r = some (vD x) ∧ Q x S9)) args s 0 0 A) (F0 m 96 ls []) := by
    intro  x1 S H locs ls h hsh hG hl
    unfold wX9_rate_96 at h
    refine lv_aload_n hx hb dX9_rate_96 rfl (lv_at hl 0 rfl) ?_
    refine lv_iload_n hx hb dX9_rate_97 rfl (lv_at hl 1 rfl) ?_
    refine lv_if_lt (tgt := 106) hx hb dX9_rate_98 (by decide) (fun c_98 => ?_) (fun c_98 => ?_)
    · have h := h.1 c_98
      exact b_106 k0 S H locs ls h hsh hG (lv_sub hl [0] rfl)
    · have h := h.2 c_98
      refine lv_iload_n hx hb dX9_rate_101 rfl (lv_at hl 1 rfl) ?_
      refine lv_iconst (v := 1) hx hb dX9_rate_102 (by decide) ?_
      refine lv_icmp_le (tgt := 110) hx hb dX9_rate_103 (by decide) (fun c_103 => ?_) (fun c_103 => ?_)
      · have h := h.1 c_103
        refine lv_aload_n hx hb dX9_rate_110 rfl (lv_at hl 0 rfl) ?_
        obtain ⟨hk9, hq10, h⟩ := h
        refine g_get (ci := 9) (C := RX9) (T := TX9) (N := 36) hx hb hts hin9 hown hK hG hk9 (cell_9 hq10) rfl 34 (by decide) lk_294 (fun _ h9 => h9) (v := .long (gZ S k0 34)) rfl dX9_rate_111 ?_
        refine lv_lconst (v := 0) hx hb dX9_rate_114 rfl ?_
        refine W.lcmp hx hb dX9_rate_115 ?_
        refine lv_if_ne (tgt := 123) hx hb dX9_rate_116 (by decide) (fun c_116 => ?_) (fun c_116 => ?_)
        · have h := h.1 c_116
          refine lv_iconst (v := 0) hx hb dX9_rate_123 (by decide) ?_
          exact b_124 k0 0 S H locs ls h hsh hG (lv_sub hl [0] rfl)
        · have h := h.2 c_116
          refine lv_iconst (v := 2) hx hb dX9_rate_119 (by decide) ?_
          refine lv_goto (tgt := 124) hx hb dX9_rate_120 (by decide) ?_
          exact b_124 k0 2 S H locs ls h hsh hG (lv_sub hl [0] rfl)
      · have h := h.2 c_103
        exact b_106 k0 S H locs ls h hsh hG (lv_sub hl [0] rfl)
  have b_33 : ∀  (f9 : Nat) (x1 : Int32) (x2 : Int32) (S : GS) (H : Heap) (locs : List Loc) (ls : Array Slot), wX9_rate_33 Q k0 f9 x1 x2 S → gSh S S0 → gS D Y ad A s.heap S H locs → lv_has ls 3 [(0, .ref (ad k0)), (1, .int x1), (2, .int x2)] → W p l e (rmD 3) s m args below meth c H locs 0 0 (MQ below (gE D Y za ad S0 s.heap.size (fun r S9 => ∃ x, r = some (vD x) ∧ Q x S9)) args s 0 0 A) (F0 m 33 ls []) := by
    intro  f9
    induction f9 with
    | zero =>
      intro x1 x2 S H locs ls h
      exact False.elim (by unfold wX9_rate_33 at h; exact h)
    | succ f9 hL_33 =>
      intro x1 x2 S H locs ls h hsh hG hl
      unfold wX9_rate_33 at h
      refine lv_iload_n hx hb dX9_rate_33 rfl (lv_at hl 2 rfl) ?_
      refine lv_aload_n hx hb dX9_rate_34 rfl (lv_at hl 0 rfl) ?_
      obtain ⟨hk11, hq12, h⟩ := h
      refine g_get (ci := 9) (C := RX9) (T := TX9) (N := 36) hx hb hts hin9 hown hK hG hk11 (cell_9 hq12) rfl 25 (by decide) lk_205 (fun _ h9 => h9) (v := .int (gX S k0 25)) rfl dX9_rate_35 ?_
      refine lv_icmp_ge (tgt := 96) hx hb dX9_rate_38 (by decide) (fun c_38 => ?_) (fun c_38 => ?_)
      · have h := h.1 c_38
        exact b_96 x1 S H locs ls h hsh hG (lv_sub hl [0, 1] rfl)
      · have h := h.2 c_38
        refine lv_aload_n hx hb dX9_rate_41 rfl (lv_at hl 0 rfl) ?_
        refine g_get (ci := 9) (C := RX9) (T := TX9) (N := 36) hx hb hts hin9 hown hK hG hk11 (cell_9 hq12) rfl 24 (by decide) lk_65 (fun _ h9 => h9) (v := rv ad (gR S k0 24)) rfl dX9_rate_42 ?_
        refine lv_iload_n hx hb dX9_rate_45 rfl (lv_at hl 2 rfl) ?_
        obtain ⟨q13, e14, h⟩ := h
        refine W.eq (g2 := F0 m 46 ls [.int x2, .ref (ad q13)]) (by rw [e14]; rfl) ?_
        obtain ⟨hk15, hq16, h⟩ := h
        obtain ⟨hi17, h⟩ := h
        refine r_iald hx hb hK hG hk15 hq16 hi17 dX9_rate_46 ?_
        refine lv_iconst (v := (-1)) hx hb dX9_rate_47 (by decide) ?_
        refine lv_icmp_eq (tgt := 90) hx hb dX9_rate_48 (by decide) (fun c_48 => ?_) (fun c_48 => ?_)
        · have h := h.1 c_48
          exact b_90 (wX9_rate_33 Q k0 f9) hL_33 x1 x2 S H locs ls h hsh hG (lv_sub hl [0, 1, 2] rfl)
        · have h := h.2 c_48
          refine lv_aload_n hx hb dX9_rate_51 rfl (lv_at hl 0 rfl) ?_
          refine lv_dup hx hb dX9_rate_52 rfl ?_
          refine g_get (ci := 9) (C := RX9) (T := TX9) (N := 36) hx hb hts hin9 hown hK hG hk11 (cell_9 hq12) rfl 33 (by decide) lk_290 (fun _ h9 => h9) (v := .long (gZ S k0 33)) rfl dX9_rate_53 ?_
          refine lv_aload_n hx hb dX9_rate_56 rfl (lv_at hl 0 rfl) ?_
          refine g_get (ci := 9) (C := RX9) (T := TX9) (N := 36) hx hb hts hin9 hown hK hG hk11 (cell_9 hq12) rfl 17 (by decide) lk_50 (fun _ h9 => h9) (v := rv ad (gR S k0 17)) rfl dX9_rate_57 ?_
          refine lv_iconst (v := 3) hx hb dX9_rate_60 (by decide) ?_
          refine lv_aload_n hx hb dX9_rate_61 rfl (lv_at hl 0 rfl) ?_
          refine g_get (ci := 9) (C := RX9) (T := TX9) (N := 36) hx hb hts hin9 hown hK hG hk11 (cell_9 hq12) rfl 24 (by decide) lk_65 (fun _ h9 => h9) (v := rv ad (gR S k0 24)) rfl dX9_rate_62 ?_
          refine lv_iload_n hx hb dX9_rate_65 rfl (lv_at hl 2 rfl) ?_
          refine W.eq (g2 := F0 m 66 ls [.int x2, .ref (ad q13), .int 3, rv ad (gR S k0 17), .long (gZ S k0 33), .ref (ad k0)]) (by rw [e14]; rfl) ?_
          obtain ⟨hi18, h⟩ := h
          refine r_iald hx hb hK hG hk15 hq16 hi18 dX9_rate_66 ?_
          refine lv_imul hx hb dX9_rate_67 ?_
          refine lv_iconst (v := 1) hx hb dX9_rate_68 (by decide) ?_
          refine lv_iadd hx hb dX9_rate_69 ?_
          obtain ⟨q19, e20, h⟩ := h
          refine W.eq (g2 := F0 m 70 ls [.int ((3 * (gX S q13 (Int32.toNatClampNeg x2))) + 1), .ref (ad q19), .long (gZ S k0 33), .ref (ad k0)]) (by rw [e20]; rfl) ?_
          obtain ⟨hk21, hq22, h⟩ := h
          obtain ⟨hi23, h⟩ := h
          refine r_iald hx hb hK hG hk21 hq22 hi23 dX9_rate_70 ?_
          refine lv_aload_n hx hb dX9_rate_71 rfl (lv_at hl 0 rfl) ?_
          refine g_get (ci := 9) (C := RX9) (T := TX9) (N := 36) hx hb hts hin9 hown hK hG hk11 (cell_9 hq12) rfl 17 (by decide) lk_50 (fun _ h9 => h9) (v := rv ad (gR S k0 17)) rfl dX9_rate_72 ?_
          refine lv_iconst (v := 3) hx hb dX9_rate_75 (by decide) ?_
          refine lv_aload_n hx hb dX9_rate_76 rfl (lv_at hl 0 rfl) ?_
          refine g_get (ci := 9) (C := RX9) (T := TX9) (N := 36) hx hb hts hin9 hown hK hG hk11 (cell_9 hq12) rfl 24 (by decide) lk_65 (fun _ h9 => h9) (v := rv ad (gR S k0 24)) rfl dX9_rate_77 ?_
          refine lv_iload_n hx hb dX9_rate_80 rfl (lv_at hl 2 rfl) ?_
          refine W.eq (g2 := F0 m 81 ls [.int x2, .ref (ad q13), .int 3, rv ad (gR S k0 17), .int (gX S q19 (Int32.toNatClampNeg ((3 * (gX S q13 (Int32.toNatClampNeg x2))) + 1))), .long (gZ S k0 33), .ref (ad k0)]) (by rw [e14]; rfl) ?_
          obtain ⟨hi24, h⟩ := h
          refine r_iald hx hb hK hG hk15 hq16 hi24 dX9_rate_81 ?_
          refine lv_imul hx hb dX9_rate_82 ?_
          refine W.eq (g2 := F0 m 83 ls [.int (3 * (gX S q13 (Int32.toNatClampNeg x2))), .ref (ad q19), .int (gX S q19 (Int32.toNatClampNeg ((3 * (gX S q13 (Int32.toNatClampNeg x2))) + 1))), .long (gZ S k0 33), .ref (ad k0)]) (by rw [e20]; rfl) ?_
          obtain ⟨hi25, h⟩ := h
          refine r_iald hx hb hK hG hk21 hq22 hi25 dX9_rate_83 ?_
          refine lv_isub hx hb dX9_rate_84 ?_
          refine lv_i2l hx hb dX9_rate_85 rfl ?_
          refine lv_ladd hx hb dX9_rate_86 ?_
          refine r_put (ci := 9) (C := RX9) (T := TX9) (N := 36) hx hb hts hin9 tyX9 tyX9_ok nmX9 hown hK hG hk11 (cell_9 hq12) rfl 33 (by decide) lk_290 (fun _ h9 => h9) rfl rfl rfl (Nat.le_of_ble_eq_true rfl) (S' := sZ S k0 33 ((gZ S k0 33) + (Int32.toInt64 ((gX S q19 (Int32.toNatClampNeg ((3 * (gX S q13 (Int32.toNatClampNeg x2))) + 1))) - (gX S q19 (Int32.toNatClampNeg (3 * (gX S q13 (Int32.toNatClampNeg x2))))))))) rfl (pu_9_33 hq12 ((gZ S k0 33) + (Int32.toInt64 ((gX S q19 (Int32.toNatClampNeg ((3 * (gX S q13 (Int32.toNatClampNeg x2))) + 1))) - (gX S q19 (Int32.toNatClampNeg (3 * (gX S q13 (Int32.toNatClampNeg x2))))))))) dX9_rate_87 (fun H locs hG => ?_)
          obtain ⟨S26, eS_S26⟩ : ∃ z : GS, z = sZ S k0 33 ((gZ S k0 33) + (Int32.toInt64 ((gX S q19 (Int32.toNatClampNeg ((3 * (gX S q13 (Int32.toNatClampNeg x2))) + 1))) - (gX S q19 (Int32.toNatClampNeg (3 * (gX S q13 (Int32.toNatClampNeg x2)))))))) := ⟨_, rfl⟩
          have h := h S26 eS_S26
          rw [← eS_S26] at hG
          have hs_S26 : gSh S26 S := by rw [eS_S26]; exact gSh.z _ _ _ _
          have hsh := hs_S26.tr hsh
          have hk27 := hs_S26.lt hk11
          have hq28 := hs_S26.kd hq12
          have hk29 := hs_S26.lt hk15
          have hq30 := hs_S26.kd hq16
          have hk31 := hs_S26.lt hk21
          have hq32 := hs_S26.kd hq22
          exact b_90 (wX9_rate_33 Q k0 f9) hL_33 x1 x2 S26 H locs ls h hsh hG (lv_sub hl [0, 1, 2] rfl)
  have b_18 : ∀  (x1 : Int32) (S : GS) (H : Heap) (locs : List Loc) (ls : Array Slot), wX9_rate_18 Q k0 x1 S → gSh S S0 → gS D Y ad A s.heap S H locs → lv_has ls 3 [(0, .ref (ad k0)), (1, .int x1)] → W p l e (rmD 3) s m args below meth c H locs 0 0 (MQ below (gE D Y za ad S0 s.heap.size (fun r S9 => ∃ x, r = some (vD x) ∧ Q x S9)) args s 0 0 A) (F0 m 18 ls []) := by
    intro  x1 S H locs ls h hsh hG hl
    unfold wX9_rate_18 at h
    refine lv_iload_n hx hb dX9_rate_18 rfl (lv_at hl 1 rfl) ?_
    refine lv_iconst (v := 1) hx hb dX9_rate_19 (by decide) ?_
    refine lv_icmp_ne (tgt := 96) hx hb dX9_rate_20 (by decide) (fun c_20 => ?_) (fun c_20 => ?_)
    · have h := h.1 c_20
      exact b_96 x1 S H locs ls h hsh hG (lv_sub hl [0, 1] rfl)
    · have h := h.2 c_20
      refine lv_aload_n hx hb dX9_rate_23 rfl (lv_at hl 0 rfl) ?_
      refine lv_aload_n hx hb dX9_rate_24 rfl (lv_at hl 0 rfl) ?_
      obtain ⟨hk33, hq34, h⟩ := h
      refine r_callV (za := za) (k := k0) (ci := 9) (C := RX9) (T := TX9) (N := 36) (As := []) (rest := [.ref (ad k0)]) (tX9_span l S k0  _ h) ⟨hx, hb, hml, hown, hts⟩ (cwV 0 hts gX9_rate_X9_span rfl rfl rfl (by decide +kernel) ⟨by decide, by decide⟩) hK hG hA hk33 (cell_9 hq34) rfl rfl hl.1 rfl (Nat.le_of_ble_eq_true rfl) ⟨Nat.le_refl _, Nat.le_refl _⟩ dX9_rate_25 (fun r_9 S35 H locs hp hs_S35 hG => ?_)
      obtain ⟨u36, rfl, h⟩ := hp
      have h := h hs_S35
      refine W.eq (g2 := F0 m 28 ls [.long u36, .ref (ad k0)]) rfl ?_
      have hsh := hs_S35.tr hsh
      have hk37 := hs_S35.lt hk33
      have hq38 := hs_S35.kd hq34
      refine r_put (ci := 9) (C := RX9) (T := TX9) (N := 36) hx hb hts hin9 tyX9 tyX9_ok nmX9 hown hK hG hk37 (cell_9 hq38) rfl 34 (by decide) lk_294 (fun _ h9 => h9) rfl rfl rfl (Nat.le_of_ble_eq_true rfl) (S' := sZ S35 k0 34 u36) rfl (pu_9_34 hq38 u36) dX9_rate_28 (fun H locs hG => ?_)
      obtain ⟨S39, eS_S39⟩ : ∃ z : GS, z = sZ S35 k0 34 u36 := ⟨_, rfl⟩
      have h := h S39 eS_S39
      rw [← eS_S39] at hG
      have hs_S39 : gSh S39 S35 := by rw [eS_S39]; exact gSh.z _ _ _ _
      have hsh := hs_S39.tr hsh
      have hk40 := hs_S39.lt hk37
      have hq41 := hs_S39.kd hq38
      refine lv_iconst (v := 0) hx hb dX9_rate_31 (by decide) ?_
      refine lv_istore_n (lv' := [(2, .int 0), (0, .ref (ad k0)), (1, .int x1)]) hx hb dX9_rate_32 rfl hl (by decide) rfl (fun ls hl => ?_)
      obtain ⟨f42, h⟩ := h
      exact b_33 f42 x1 0 S39 H locs ls h hsh hG (lv_sub hl [1, 2, 0] rfl)
  have hl : lv_has ls 3 [(0, .ref (ad k0)), (1, .int x1)] := hl
  have hsh : gSh S S0 := by rw [hS0]; exact gSh.rf S
  obtain ⟨H, eH⟩ : ∃ z : Heap, z = s.heap := ⟨_, rfl⟩
  obtain ⟨locs, eL⟩ : ∃ z : List Loc, z = [] := ⟨_, rfl⟩
  have hG : gS D Y ad A s.heap S H locs := by rw [eH, eL]; exact hG
  suffices hgoal : W p l e (rmD 3) s m args below meth c H locs 0 0 (MQ below (gE D Y za ad S0 s.heap.size (fun r S9 => ∃ x, r = some (vD x) ∧ Q x S9)) args s 0 0 A) (F0 m 0 ls []) by rw [eH, eL] at hgoal; exact hgoal
  unfold wX9_rate at h
  refine lv_aload_n hx hb dX9_rate_0 rfl (lv_at hl 0 rfl) ?_
  refine lv_lconst (v := 0) hx hb dX9_rate_1 rfl ?_
  obtain ⟨hk43, hq44, h⟩ := h
  refine r_put (ci := 9) (C := RX9) (T := TX9) (N := 36) hx hb hts hin9 tyX9 tyX9_ok nmX9 hown hK hG hk43 (cell_9 hq44) rfl 33 (by decide) lk_290 (fun _ h9 => h9) rfl rfl rfl (Nat.le_of_ble_eq_true rfl) (S' := sZ S k0 33 0) rfl (pu_9_33 hq44 0) dX9_rate_2 (fun H locs hG => ?_)
  obtain ⟨S45, eS_S45⟩ : ∃ z : GS, z = sZ S k0 33 0 := ⟨_, rfl⟩
  have h := h S45 eS_S45
  rw [← eS_S45] at hG
  have hs_S45 : gSh S45 S := by rw [eS_S45]; exact gSh.z _ _ _ _
  have hsh := hs_S45.tr hsh
  have hk46 := hs_S45.lt hk43
  have hq47 := hs_S45.kd hq44
  refine lv_aload_n hx hb dX9_rate_5 rfl (lv_at hl 0 rfl) ?_
  refine lv_lconst (v := 0) hx hb dX9_rate_6 rfl ?_
  refine r_put (ci := 9) (C := RX9) (T := TX9) (N := 36) hx hb hts hin9 tyX9 tyX9_ok nmX9 hown hK hG hk46 (cell_9 hq47) rfl 34 (by decide) lk_294 (fun _ h9 => h9) rfl rfl rfl (Nat.le_of_ble_eq_true rfl) (S' := sZ S45 k0 34 0) rfl (pu_9_34 hq47 0) dX9_rate_7 (fun H locs hG => ?_)
  obtain ⟨S48, eS_S48⟩ : ∃ z : GS, z = sZ S45 k0 34 0 := ⟨_, rfl⟩
  have h := h S48 eS_S48
  rw [← eS_S48] at hG
  have hs_S48 : gSh S48 S45 := by rw [eS_S48]; exact gSh.z _ _ _ _
  have hsh := hs_S48.tr hsh
  have hk49 := hs_S48.lt hk46
  have hq50 := hs_S48.kd hq47
  refine lv_iload_n hx hb dX9_rate_10 rfl (lv_at hl 1 rfl) ?_
  refine lv_if_ne (tgt := 18) hx hb dX9_rate_11 (by decide) (fun c_11 => ?_) (fun c_11 => ?_)
  · have h := h.1 c_11
    exact b_18 x1 S48 H locs ls h hsh hG (lv_sub hl [0, 1] rfl)
  · have h := h.2 c_11
    refine lv_aload_n hx hb dX9_rate_14 rfl (lv_at hl 0 rfl) ?_
    refine r_callV (za := za) (k := k0) (ci := 9) (C := RX9) (T := TX9) (N := 36) (As := []) (rest := []) (tX9_allocated l S48 k0  _ h) ⟨hx, hb, hml, hown, hts⟩ (cwV 0 hts gX9_rate_X9_allocated rfl rfl rfl (by decide +kernel) ⟨by decide, by decide⟩) hK hG hA hk49 (cell_9 hq50) rfl rfl hl.1 rfl (Nat.le_of_ble_eq_true rfl) ⟨Nat.le_refl _, Nat.le_refl _⟩ dX9_rate_15 (fun r_9 S51 H locs hp hs_S51 hG => ?_)
    obtain ⟨rfl, h⟩ := hp
    have h := h hs_S51
    refine W.eq (g2 := F0 m 18 ls []) rfl ?_
    have hsh := hs_S51.tr hsh
    have hk53 := hs_S51.lt hk49
    have hq54 := hs_S51.kd hq50
    exact b_18 x1 S51 H locs ls h hsh hG (lv_sub hl [0, 1] rfl)
def wX9_between_46 (Q : Int32 → GS → Prop) (L_5 : Int32 → Int32 → Int32 → Int32 → GS → Prop) (k0 : Nat) (x1 : Int32) (x2 : Int32) (x3 : Int32) (x4 : Int32) (S : GS) : Prop :=
  L_5 x1 x2 x3 (x4 + 1) S
def wX9_between_5 (Q : Int32 → GS → Prop) (k0 : Nat) : Nat → Int32 → Int32 → Int32 → Int32 → GS → Prop
  | 0, _, _, _, _, _ => False
  | f9 + 1, x1, x2, x3, x4, S =>
  k0 < gN S ∧ gK S k0 = 9 ∧ ((gX S k0 25) ≤ x4 → Q x3 S) ∧ (¬ (gX S k0 25) ≤ x4 → wX9_isPause S k0 x4 (fun u4 S3 => gSh S3 S → (u4 = 0 → wX9_between_46 Q (wX9_between_5 Q k0 f9) k0 x1 x2 x3 x4 S3) ∧ (¬ u4 = 0 → wX9_tookOf S3 k0 x4 (fun u8 S7 => gSh S7 S3 → (u8 < x1 → wX9_between_46 Q (wX9_between_5 Q k0 f9) k0 x1 x2 x3 x4 S7) ∧ (¬ u8 < x1 → wX9_tookOf S7 k0 x4 (fun u12 S11 => gSh S11 S7 → (x2 < u12 → wX9_between_46 Q (wX9_between_5 Q k0 f9) k0 x1 x2 x3 x4 S11) ∧ (¬ x2 < u12 → wX9_between_46 Q (wX9_between_5 Q k0 f9) k0 x1 x2 (x3 + 1) x4 S11)))))))
def wX9_between (S : GS) (k0 : Nat) (x1 : Int32) (x2 : Int32) (Q : Int32 → GS → Prop) : Prop :=
  ∃ f15 : Nat, wX9_between_5 Q k0 f15 x1 x2 0 0 S
set_option maxHeartbeats 4000000 in
set_option maxRecDepth 100000 in
theorem tX9_between (l : Launch) (S : GS) (k0 : Nat) (x1 : Int32) (x2 : Int32) (Q : Int32 → GS → Prop) (h : wX9_between S k0 x1 x2 Q) : CS l yX9_between wsX9_between 1 S [vR (some k0), vI x1, vI x2] (fun r S9 => ∃ x, r = some (vI x) ∧ Q x S9) := by
  refine CS.ofW (cc := cX9_between) (maxL := 5) (ret := (some .int)) RX9 (by decide) rfl rfl (fun _ _ => Nat.le_of_ble_eq_true rfl) ?_
  intro p e s m args below meth c D Y za ad A ls hAe hx hb hr hml hts hown hlocks hK hA hG hl
  obtain ⟨S0, hS0⟩ : ∃ z : GS, z = S := ⟨_, rfl⟩
  rw [← hS0] at hAe
  rw [← hS0]
  have hin9 : ∀ w ∈ wsX90, w ∈ wsX9_between := by decide +kernel
  have lk_205 := hts (.fieldLink RX9 205 "PauseLogModel" "events" "I") (by decide +kernel)
  have b_46 : ∀ (L_5 : Int32 → Int32 → Int32 → Int32 → GS → Prop) (hL_5 : ∀ (x1 : Int32) (x2 : Int32) (x3 : Int32) (x4 : Int32) (S : GS) (H : Heap) (locs : List Loc) (ls : Array Slot), L_5 x1 x2 x3 x4 S → gSh S S0 → gS D Y ad A s.heap S H locs → lv_has ls 5 [(0, .ref (ad k0)), (1, .int x1), (2, .int x2), (3, .int x3), (4, .int x4)] → W p l e (rmD 1) s m args below meth c H locs 0 0 (MQ below (gE D Y za ad S0 s.heap.size (fun r S9 => ∃ x, r = some (vI x) ∧ Q x S9)) args s 0 0 A) (F0 m 5 ls [])) (x1 : Int32) (x2 : Int32) (x3 : Int32) (x4 : Int32) (S : GS) (H : Heap) (locs : List Loc) (ls : Array Slot), wX9_between_46 Q L_5 k0 x1 x2 x3 x4 S → gSh S S0 → gS D Y ad A s.heap S H locs → lv_has ls 5 [(0, .ref (ad k0)), (1, .int x1), (2, .int x2), (3, .int x3), (4, .int x4)] → W p l e (rmD 1) s m args below meth c H locs 0 0 (MQ below (gE D Y za ad S0 s.heap.size (fun r S9 => ∃ x, r = some (vI x) ∧ Q x S9)) args s 0 0 A) (F0 m 46 ls []) := by
    intro L_5 hL_5 x1 x2 x3 x4 S H locs ls h hsh hG hl
    unfold wX9_between_46 at h
    refine lv_iinc (v := x4 + 1) (lv' := [(4, .int (x4 + 1)), (0, .ref (ad k0)), (1, .int x1), (2, .int x2), (3, .int x3)]) hx hb dX9_between_46 hl (k := 4) rfl rfl (by decide) rfl (fun ls hl => ?_)
    refine lv_goto (tgt := 5) hx hb dX9_between_49 (by decide) ?_
    exact hL_5 x1 x2 x3 (x4 + 1) S H locs ls h hsh hG (lv_sub hl [1, 2, 3, 4, 0] rfl)
  have b_5 : ∀  (f9 : Nat) (x1 : Int32) (x2 : Int32) (x3 : Int32) (x4 : Int32) (S : GS) (H : Heap) (locs : List Loc) (ls : Array Slot), wX9_between_5 Q k0 f9 x1 x2 x3 x4 S → gSh S S0 → gS D Y ad A s.heap S H locs → lv_has ls 5 [(0, .ref (ad k0)), (1, .int x1), (2, .int x2), (3, .int x3), (4, .int x4)] → W p l e (rmD 1) s m args below meth c H locs 0 0 (MQ below (gE D Y za ad S0 s.heap.size (fun r S9 => ∃ x, r = some (vI x) ∧ Q x S9)) args s 0 0 A) (F0 m 5 ls []) := by
    intro  f9
    induction f9 with
    | zero =>
      intro x1 x2 x3 x4 S H locs ls h
      exact False.elim (by unfold wX9_between_5 at h; exact h)
    | succ f9 hL_5 =>
      intro x1 x2 x3 x4 S H locs ls h hsh hG hl
      unfold wX9_between_5 at h
      refine lv_iload hx hb dX9_between_5 (lv_at hl 4 rfl) ?_
      refine lv_aload_n hx hb dX9_between_7 rfl (lv_at hl 0 rfl) ?_
      obtain ⟨hk1, hq2, h⟩ := h
      refine g_get (ci := 9) (C := RX9) (T := TX9) (N := 36) hx hb hts hin9 hown hK hG hk1 (cell_9 hq2) rfl 25 (by decide) lk_205 (fun _ h9 => h9) (v := .int (gX S k0 25)) rfl dX9_between_8 ?_
      refine lv_icmp_ge (tgt := 52) hx hb dX9_between_11 (by decide) (fun c_11 => ?_) (fun c_11 => ?_)
      · have h := h.1 c_11
        refine lv_iload_n hx hb dX9_between_52 rfl (lv_at hl 3 rfl) ?_
        exact W.iret (v := x3) hx hb hr (fun t ht hW => r_end (r := some (vI x3)) hAe hG hsh ⟨_, rfl, h⟩ rfl ht) hG.2.2.2.2 dX9_between_53
      · have h := h.2 c_11
        refine lv_aload_n hx hb dX9_between_14 rfl (lv_at hl 0 rfl) ?_
        refine lv_iload hx hb dX9_between_15 (lv_at hl 4 rfl) ?_
        refine r_callV (za := za) (k := k0) (ci := 9) (C := RX9) (T := TX9) (N := 36) (As := [vI x4]) (rest := []) (tX9_isPause l S k0 x4 _ h) ⟨hx, hb, hml, hown, hts⟩ (cwV 1 hts gX9_between_X9_isPause rfl rfl rfl (by decide +kernel) ⟨by decide, by decide⟩) hK hG hA hk1 (cell_9 hq2) rfl rfl hl.1 rfl (Nat.le_of_ble_eq_true rfl) ⟨Nat.le_refl _, Nat.le_refl _⟩ dX9_between_17 (fun r_9 S3 H locs hp hs_S3 hG => ?_)
        obtain ⟨u4, rfl, h⟩ := hp
        have h := h hs_S3
        refine W.eq (g2 := F0 m 20 ls [.int u4]) rfl ?_
        have hsh := hs_S3.tr hsh
        have hk5 := hs_S3.lt hk1
        have hq6 := hs_S3.kd hq2
        refine lv_if_eq (tgt := 46) hx hb dX9_between_20 (by decide) (fun c_20 => ?_) (fun c_20 => ?_)
        · have h := h.1 c_20
          exact b_46 (wX9_between_5 Q k0 f9) hL_5 x1 x2 x3 x4 S3 H locs ls h hsh hG (lv_sub hl [0, 1, 2, 3, 4] rfl)
        · have h := h.2 c_20
          refine lv_aload_n hx hb dX9_between_23 rfl (lv_at hl 0 rfl) ?_
          refine lv_iload hx hb dX9_between_24 (lv_at hl 4 rfl) ?_
          refine r_callV (za := za) (k := k0) (ci := 9) (C := RX9) (T := TX9) (N := 36) (As := [vI x4]) (rest := []) (tX9_tookOf l S3 k0 x4 _ h) ⟨hx, hb, hml, hown, hts⟩ (cwV 1 hts gX9_between_X9_tookOf rfl rfl rfl (by decide +kernel) ⟨by decide, by decide⟩) hK hG hA hk5 (cell_9 hq6) rfl rfl hl.1 rfl (Nat.le_of_ble_eq_true rfl) ⟨Nat.le_refl _, Nat.le_refl _⟩ dX9_between_26 (fun r_9 S7 H locs hp hs_S7 hG => ?_)
          obtain ⟨u8, rfl, h⟩ := hp
          have h := h hs_S7
          refine W.eq (g2 := F0 m 29 ls [.int u8]) rfl ?_
          have hsh := hs_S7.tr hsh
          have hk9 := hs_S7.lt hk5
          have hq10 := hs_S7.kd hq6
          refine lv_iload_n hx hb dX9_between_29 rfl (lv_at hl 1 rfl) ?_
          refine lv_icmp_lt (tgt := 46) hx hb dX9_between_30 (by decide) (fun c_30 => ?_) (fun c_30 => ?_)
          · have h := h.1 c_30
            exact b_46 (wX9_between_5 Q k0 f9) hL_5 x1 x2 x3 x4 S7 H locs ls h hsh hG (lv_sub hl [0, 1, 2, 3, 4] rfl)
          · have h := h.2 c_30
            refine lv_aload_n hx hb dX9_between_33 rfl (lv_at hl 0 rfl) ?_
            refine lv_iload hx hb dX9_between_34 (lv_at hl 4 rfl) ?_
            refine r_callV (za := za) (k := k0) (ci := 9) (C := RX9) (T := TX9) (N := 36) (As := [vI x4]) (rest := []) (tX9_tookOf l S7 k0 x4 _ h) ⟨hx, hb, hml, hown, hts⟩ (cwV 1 hts gX9_between_X9_tookOf rfl rfl rfl (by decide +kernel) ⟨by decide, by decide⟩) hK hG hA hk9 (cell_9 hq10) rfl rfl hl.1 rfl (Nat.le_of_ble_eq_true rfl) ⟨Nat.le_refl _, Nat.le_refl _⟩ dX9_between_36 (fun r_9 S11 H locs hp hs_S11 hG => ?_)
            obtain ⟨u12, rfl, h⟩ := hp
            have h := h hs_S11
            refine W.eq (g2 := F0 m 39 ls [.int u12]) rfl ?_
            have hsh := hs_S11.tr hsh
            have hk13 := hs_S11.lt hk9
            have hq14 := hs_S11.kd hq10
            refine lv_iload_n hx hb dX9_between_39 rfl (lv_at hl 2 rfl) ?_
            refine lv_icmp_gt (tgt := 46) hx hb dX9_between_40 (by decide) (fun c_40 => ?_) (fun c_40 => ?_)
            · have h := h.1 c_40
              exact b_46 (wX9_between_5 Q k0 f9) hL_5 x1 x2 x3 x4 S11 H locs ls h hsh hG (lv_sub hl [0, 1, 2, 3, 4] rfl)
            · have h := h.2 c_40
              refine lv_iinc (v := x3 + 1) (lv' := [(3, .int (x3 + 1)), (0, .ref (ad k0)), (1, .int x1), (2, .int x2), (4, .int x4)]) hx hb dX9_between_43 hl (k := 3) rfl rfl (by decide) rfl (fun ls hl => ?_)
              exact b_46 (wX9_between_5 Q k0 f9) hL_5 x1 x2 (x3 + 1) x4 S11 H locs ls h hsh hG (lv_sub hl [1, 2, 3, 0, 4] rfl)
  have hl : lv_has ls 5 [(0, .ref (ad k0)), (1, .int x1), (2, .int x2)] := hl
  have hsh : gSh S S0 := by rw [hS0]; exact gSh.rf S
  obtain ⟨H, eH⟩ : ∃ z : Heap, z = s.heap := ⟨_, rfl⟩
  obtain ⟨locs, eL⟩ : ∃ z : List Loc, z = [] := ⟨_, rfl⟩
  have hG : gS D Y ad A s.heap S H locs := by rw [eH, eL]; exact hG
  suffices hgoal : W p l e (rmD 1) s m args below meth c H locs 0 0 (MQ below (gE D Y za ad S0 s.heap.size (fun r S9 => ∃ x, r = some (vI x) ∧ Q x S9)) args s 0 0 A) (F0 m 0 ls []) by rw [eH, eL] at hgoal; exact hgoal
  unfold wX9_between at h
  refine lv_iconst (v := 0) hx hb dX9_between_0 (by decide) ?_
  refine lv_istore_n (lv' := [(3, .int 0), (0, .ref (ad k0)), (1, .int x1), (2, .int x2)]) hx hb dX9_between_1 rfl hl (by decide) rfl (fun ls hl => ?_)
  refine lv_iconst (v := 0) hx hb dX9_between_2 (by decide) ?_
  refine lv_istore (lv' := [(4, .int 0), (3, .int 0), (0, .ref (ad k0)), (1, .int x1), (2, .int x2)]) hx hb dX9_between_3 hl (by decide) rfl (fun ls hl => ?_)
  obtain ⟨f15, h⟩ := h
  exact b_5 f15 x1 x2 0 0 S H locs ls h hsh hG (lv_sub hl [2, 3, 4, 1, 0] rfl)
def wX9_percentile_104 (Q : Int32 → GS → Prop) (L_49 : Int32 → Int32 → Int32 → Int32 → GS → Prop) (k0 : Nat) (x1 : Int32) (x2 : Int32) (x3 : Int32) (x4 : Int32) (S : GS) : Prop :=
  L_49 x1 x2 x3 (x4 + 1) S
def wX9_percentile_49 (Q : Int32 → GS → Prop) (k0 : Nat) : Nat → Int32 → Int32 → Int32 → Int32 → GS → Prop
  | 0, _, _, _, _, _ => False
  | f9 + 1, x1, x2, x3, x4, S =>
  k0 < gN S ∧ gK S k0 = 9 ∧ ((gX S k0 25) ≤ x4 → Q x3 S) ∧ (¬ (gX S k0 25) ≤ x4 → wX9_isPause S k0 x4 (fun u4 S3 => gSh S3 S → (u4 = 0 → wX9_percentile_104 Q (wX9_percentile_49 Q k0 f9) k0 x1 x2 x3 x4 S3) ∧ (¬ u4 = 0 → wX9_tookOf S3 k0 x4 (fun u8 S7 => gSh S7 S3 → (x3 ≤ u8 → wX9_percentile_104 Q (wX9_percentile_49 Q k0 f9) k0 x1 x2 x3 x4 S7) ∧ (¬ x3 ≤ u8 → wX9_tookOf S7 k0 x4 (fun u12 S11 => gSh S11 S7 → wX9_between S11 k0 0 u12 (fun u16 S15 => gSh S15 S11 → ((100 * u16) < (x1 * x2) → wX9_percentile_104 Q (wX9_percentile_49 Q k0 f9) k0 x1 x2 x3 x4 S15) ∧ (¬ (100 * u16) < (x1 * x2) → wX9_tookOf S15 k0 x4 (fun u20 S19 => gSh S19 S15 → wX9_percentile_104 Q (wX9_percentile_49 Q k0 f9) k0 x1 x2 u20 x4 S19)))))))))
def wX9_percentile_30 (Q : Int32 → GS → Prop) (k0 : Nat) (x1 : Int32) (x2 : Int32) (t0 : Nat) (t1 : Int32) (S : GS) : Prop :=
  t0 < gN S ∧ gK S t0 = 9 ∧ ∀ S25 : GS, S25 = sX S t0 32 t1 → k0 < gN S25 ∧ gK S25 k0 = 9 ∧ ((gX S25 k0 32) = 0 → ∃ f30 : Nat, wX9_percentile_49 Q k0 f30 x1 x2 2147483647 0 S25) ∧ (¬ (gX S25 k0 32) = 0 → Q 0 S25)
def wX9_percentile_17 (Q : Int32 → GS → Prop) (k0 : Nat) (x1 : Int32) (x2 : Int32) (t0 : Nat) (S : GS) : Prop :=
  wX9_percentile_30 Q k0 x1 x2 t0 1 S
def wX9_percentile (S : GS) (k0 : Nat) (x1 : Int32) (Q : Int32 → GS → Prop) : Prop :=
  k0 < gN S ∧ gK S k0 = 9 ∧ wX9_pauses S k0  (fun u34 S33 => gSh S33 S → (x1 < 1 → wX9_percentile_17 Q k0 x1 u34 k0 S33) ∧ (¬ x1 < 1 → (x1 ≤ 100 → (¬ u34 = 0 → wX9_percentile_30 Q k0 x1 u34 k0 0 S33) ∧ (u34 = 0 → wX9_percentile_30 Q k0 x1 u34 k0 2 S33)) ∧ (¬ x1 ≤ 100 → wX9_percentile_17 Q k0 x1 u34 k0 S33)))
set_option maxHeartbeats 4000000 in
set_option maxRecDepth 100000 in
theorem tX9_percentile (l : Launch) (S : GS) (k0 : Nat) (x1 : Int32) (Q : Int32 → GS → Prop) (h : wX9_percentile S k0 x1 Q) : CS l yX9_percentile wsX9_percentile 2 S [vR (some k0), vI x1] (fun r S9 => ∃ x, r = some (vI x) ∧ Q x S9) := by
  refine CS.ofW (cc := cX9_percentile) (maxL := 5) (ret := (some .int)) RX9 (by decide) rfl rfl (fun _ _ => Nat.le_of_ble_eq_true rfl) ?_
  intro p e s m args below meth c D Y za ad A ls hAe hx hb hr hml hts hown hlocks hK hA hG hl
  obtain ⟨S0, hS0⟩ : ∃ z : GS, z = S := ⟨_, rfl⟩
  rw [← hS0] at hAe
  rw [← hS0]
  have hin9 : ∀ w ∈ wsX90, w ∈ wsX9_percentile := by decide +kernel
  have lk_84 := hts (.fieldLink RX9 84 "PauseLogModel" "thrown" "I") (by decide +kernel)
  have lk_264 := hts (.constant RX9 264 (2147483647)) (by decide +kernel)
  have lk_205 := hts (.fieldLink RX9 205 "PauseLogModel" "events" "I") (by decide +kernel)
  have b_104 : ∀ (L_49 : Int32 → Int32 → Int32 → Int32 → GS → Prop) (hL_49 : ∀ (x1 : Int32) (x2 : Int32) (x3 : Int32) (x4 : Int32) (S : GS) (H : Heap) (locs : List Loc) (ls : Array Slot), L_49 x1 x2 x3 x4 S → gSh S S0 → gS D Y ad A s.heap S H locs → lv_has ls 5 [(0, .ref (ad k0)), (1, .int x1), (2, .int x2), (3, .int x3), (4, .int x4)] → W p l e (rmD 2) s m args below meth c H locs 0 0 (MQ below (gE D Y za ad S0 s.heap.size (fun r S9 => ∃ x, r = some (vI x) ∧ Q x S9)) args s 0 0 A) (F0 m 49 ls [])) (x1 : Int32) (x2 : Int32) (x3 : Int32) (x4 : Int32) (S : GS) (H : Heap) (locs : List Loc) (ls : Array Slot), wX9_percentile_104 Q L_49 k0 x1 x2 x3 x4 S → gSh S S0 → gS D Y ad A s.heap S H locs → lv_has ls 5 [(0, .ref (ad k0)), (1, .int x1), (2, .int x2), (3, .int x3), (4, .int x4)] → W p l e (rmD 2) s m args below meth c H locs 0 0 (MQ below (gE D Y za ad S0 s.heap.size (fun r S9 => ∃ x, r = some (vI x) ∧ Q x S9)) args s 0 0 A) (F0 m 104 ls []) := by
    intro L_49 hL_49 x1 x2 x3 x4 S H locs ls h hsh hG hl
    unfold wX9_percentile_104 at h
    refine lv_iinc (v := x4 + 1) (lv' := [(4, .int (x4 + 1)), (0, .ref (ad k0)), (1, .int x1), (2, .int x2), (3, .int x3)]) hx hb dX9_percentile_104 hl (k := 4) rfl rfl (by decide) rfl (fun ls hl => ?_)
    refine lv_goto (tgt := 49) hx hb dX9_percentile_107 (by decide) ?_
    exact hL_49 x1 x2 x3 (x4 + 1) S H locs ls h hsh hG (lv_sub hl [1, 2, 3, 4, 0] rfl)
  have b_49 : ∀  (f9 : Nat) (x1 : Int32) (x2 : Int32) (x3 : Int32) (x4 : Int32) (S : GS) (H : Heap) (locs : List Loc) (ls : Array Slot), wX9_percentile_49 Q k0 f9 x1 x2 x3 x4 S → gSh S S0 → gS D Y ad A s.heap S H locs → lv_has ls 5 [(0, .ref (ad k0)), (1, .int x1), (2, .int x2), (3, .int x3), (4, .int x4)] → W p l e (rmD 2) s m args below meth c H locs 0 0 (MQ below (gE D Y za ad S0 s.heap.size (fun r S9 => ∃ x, r = some (vI x) ∧ Q x S9)) args s 0 0 A) (F0 m 49 ls []) := by
    intro  f9
    induction f9 with
    | zero =>
      intro x1 x2 x3 x4 S H locs ls h
      exact False.elim (by unfold wX9_percentile_49 at h; exact h)
    | succ f9 hL_49 =>
      intro x1 x2 x3 x4 S H locs ls h hsh hG hl
      unfold wX9_percentile_49 at h
      refine lv_iload hx hb dX9_percentile_49 (lv_at hl 4 rfl) ?_
      refine lv_aload_n hx hb dX9_percentile_51 rfl (lv_at hl 0 rfl) ?_
      obtain ⟨hk1, hq2, h⟩ := h
      refine g_get (ci := 9) (C := RX9) (T := TX9) (N := 36) hx hb hts hin9 hown hK hG hk1 (cell_9 hq2) rfl 25 (by decide) lk_205 (fun _ h9 => h9) (v := .int (gX S k0 25)) rfl dX9_percentile_52 ?_
      refine lv_icmp_ge (tgt := 110) hx hb dX9_percentile_55 (by decide) (fun c_55 => ?_) (fun c_55 => ?_)
      · have h := h.1 c_55
        refine lv_iload_n hx hb dX9_percentile_110 rfl (lv_at hl 3 rfl) ?_
        exact W.iret (v := x3) hx hb hr (fun t ht hW => r_end (r := some (vI x3)) hAe hG hsh ⟨_, rfl, h⟩ rfl ht) hG.2.2.2.2 dX9_percentile_111
      · have h := h.2 c_55
        refine lv_aload_n hx hb dX9_percentile_58 rfl (lv_at hl 0 rfl) ?_
        refine lv_iload hx hb dX9_percentile_59 (lv_at hl 4 rfl) ?_
        refine r_callV (za := za) (k := k0) (ci := 9) (C := RX9) (T := TX9) (N := 36) (As := [vI x4]) (rest := []) (tX9_isPause l S k0 x4 _ h) ⟨hx, hb, hml, hown, hts⟩ (cwV 1 hts gX9_percentile_X9_isPause rfl rfl rfl (by decide +kernel) ⟨by decide, by decide⟩) hK hG hA hk1 (cell_9 hq2) rfl rfl hl.1 rfl (Nat.le_of_ble_eq_true rfl) ⟨Nat.le_refl _, Nat.le_refl _⟩ dX9_percentile_61 (fun r_9 S3 H locs hp hs_S3 hG => ?_)
        obtain ⟨u4, rfl, h⟩ := hp
        have h := h hs_S3
        refine W.eq (g2 := F0 m 64 ls [.int u4]) rfl ?_
        have hsh := hs_S3.tr hsh
        have hk5 := hs_S3.lt hk1
        have hq6 := hs_S3.kd hq2
        refine lv_if_eq (tgt := 104) hx hb dX9_percentile_64 (by decide) (fun c_64 => ?_) (fun c_64 => ?_)
        · have h := h.1 c_64
          exact b_104 (wX9_percentile_49 Q k0 f9) hL_49 x1 x2 x3 x4 S3 H locs ls h hsh hG (lv_sub hl [0, 1, 2, 3, 4] rfl)
        · have h := h.2 c_64
          refine lv_aload_n hx hb dX9_percentile_67 rfl (lv_at hl 0 rfl) ?_
          refine lv_iload hx hb dX9_percentile_68 (lv_at hl 4 rfl) ?_
          refine r_callV (za := za) (k := k0) (ci := 9) (C := RX9) (T := TX9) (N := 36) (As := [vI x4]) (rest := []) (tX9_tookOf l S3 k0 x4 _ h) ⟨hx, hb, hml, hown, hts⟩ (cwV 1 hts gX9_percentile_X9_tookOf rfl rfl rfl (by decide +kernel) ⟨by decide, by decide⟩) hK hG hA hk5 (cell_9 hq6) rfl rfl hl.1 rfl (Nat.le_of_ble_eq_true rfl) ⟨Nat.le_refl _, Nat.le_refl _⟩ dX9_percentile_70 (fun r_9 S7 H locs hp hs_S7 hG => ?_)
          obtain ⟨u8, rfl, h⟩ := hp
          have h := h hs_S7
          refine W.eq (g2 := F0 m 73 ls [.int u8]) rfl ?_
          have hsh := hs_S7.tr hsh
          have hk9 := hs_S7.lt hk5
          have hq10 := hs_S7.kd hq6
          refine lv_iload_n hx hb dX9_percentile_73 rfl (lv_at hl 3 rfl) ?_
          refine lv_icmp_ge (tgt := 104) hx hb dX9_percentile_74 (by decide) (fun c_74 => ?_) (fun c_74 => ?_)
          · have h := h.1 c_74
            exact b_104 (wX9_percentile_49 Q k0 f9) hL_49 x1 x2 x3 x4 S7 H locs ls h hsh hG (lv_sub hl [0, 1, 2, 3, 4] rfl)
          · have h := h.2 c_74
            refine lv_bipush (v := 100) hx hb dX9_percentile_77 (by decide) ?_
            refine lv_aload_n hx hb dX9_percentile_79 rfl (lv_at hl 0 rfl) ?_
            refine lv_iconst (v := 0) hx hb dX9_percentile_80 (by decide) ?_
            refine lv_aload_n hx hb dX9_percentile_81 rfl (lv_at hl 0 rfl) ?_
            refine lv_iload hx hb dX9_percentile_82 (lv_at hl 4 rfl) ?_
            refine r_callV (za := za) (k := k0) (ci := 9) (C := RX9) (T := TX9) (N := 36) (As := [vI x4]) (rest := [.int 0, .ref (ad k0), .int 100]) (tX9_tookOf l S7 k0 x4 _ h) ⟨hx, hb, hml, hown, hts⟩ (cwV 1 hts gX9_percentile_X9_tookOf rfl rfl rfl (by decide +kernel) ⟨by decide, by decide⟩) hK hG hA hk9 (cell_9 hq10) rfl rfl hl.1 rfl (Nat.le_of_ble_eq_true rfl) ⟨Nat.le_refl _, Nat.le_refl _⟩ dX9_percentile_84 (fun r_9 S11 H locs hp hs_S11 hG => ?_)
            obtain ⟨u12, rfl, h⟩ := hp
            have h := h hs_S11
            refine W.eq (g2 := F0 m 87 ls [.int u12, .int 0, .ref (ad k0), .int 100]) rfl ?_
            have hsh := hs_S11.tr hsh
            have hk13 := hs_S11.lt hk9
            have hq14 := hs_S11.kd hq10
            refine r_callV (za := za) (k := k0) (ci := 9) (C := RX9) (T := TX9) (N := 36) (As := [vI 0, vI u12]) (rest := [.int 100]) (tX9_between l S11 k0 0 u12 _ h) ⟨hx, hb, hml, hown, hts⟩ (cwV 2 hts gX9_percentile_X9_between rfl rfl rfl (by decide +kernel) ⟨by decide, by decide⟩) hK hG hA hk13 (cell_9 hq14) rfl rfl hl.1 rfl (Nat.le_of_ble_eq_true rfl) ⟨Nat.le_refl _, Nat.le_refl _⟩ dX9_percentile_87 (fun r_9 S15 H locs hp hs_S15 hG => ?_)
            obtain ⟨u16, rfl, h⟩ := hp
            have h := h hs_S15
            refine W.eq (g2 := F0 m 90 ls [.int u16, .int 100]) rfl ?_
            have hsh := hs_S15.tr hsh
            have hk17 := hs_S15.lt hk13
            have hq18 := hs_S15.kd hq14
            refine lv_imul hx hb dX9_percentile_90 ?_
            refine lv_iload_n hx hb dX9_percentile_91 rfl (lv_at hl 1 rfl) ?_
            refine lv_iload_n hx hb dX9_percentile_92 rfl (lv_at hl 2 rfl) ?_
            refine lv_imul hx hb dX9_percentile_93 ?_
            refine lv_icmp_lt (tgt := 104) hx hb dX9_percentile_94 (by decide) (fun c_94 => ?_) (fun c_94 => ?_)
            · have h := h.1 c_94
              exact b_104 (wX9_percentile_49 Q k0 f9) hL_49 x1 x2 x3 x4 S15 H locs ls h hsh hG (lv_sub hl [0, 1, 2, 3, 4] rfl)
            · have h := h.2 c_94
              refine lv_aload_n hx hb dX9_percentile_97 rfl (lv_at hl 0 rfl) ?_
              refine lv_iload hx hb dX9_percentile_98 (lv_at hl 4 rfl) ?_
              refine r_callV (za := za) (k := k0) (ci := 9) (C := RX9) (T := TX9) (N := 36) (As := [vI x4]) (rest := []) (tX9_tookOf l S15 k0 x4 _ h) ⟨hx, hb, hml, hown, hts⟩ (cwV 1 hts gX9_percentile_X9_tookOf rfl rfl rfl (by decide +kernel) ⟨by decide, by decide⟩) hK hG hA hk17 (cell_9 hq18) rfl rfl hl.1 rfl (Nat.le_of_ble_eq_true rfl) ⟨Nat.le_refl _, Nat.le_refl _⟩ dX9_percentile_100 (fun r_9 S19 H locs hp hs_S19 hG => ?_)
              obtain ⟨u20, rfl, h⟩ := hp
              have h := h hs_S19
              refine W.eq (g2 := F0 m 103 ls [.int u20]) rfl ?_
              have hsh := hs_S19.tr hsh
              have hk21 := hs_S19.lt hk17
              have hq22 := hs_S19.kd hq18
              refine lv_istore_n (lv' := [(3, .int u20), (0, .ref (ad k0)), (1, .int x1), (2, .int x2), (4, .int x4)]) hx hb dX9_percentile_103 rfl hl (by decide) rfl (fun ls hl => ?_)
              exact b_104 (wX9_percentile_49 Q k0 f9) hL_49 x1 x2 u20 x4 S19 H locs ls h hsh hG (lv_sub hl [1, 2, 3, 0, 4] rfl)
  have b_30 : ∀  (x1 : Int32) (x2 : Int32) (t0 : Nat) (t1 : Int32) (S : GS) (H : Heap) (locs : List Loc) (ls : Array Slot), wX9_percentile_30 Q k0 x1 x2 t0 t1 S → gSh S S0 → gS D Y ad A s.heap S H locs → lv_has ls 5 [(0, .ref (ad k0)), (1, .int x1), (2, .int x2)] → W p l e (rmD 2) s m args below meth c H locs 0 0 (MQ below (gE D Y za ad S0 s.heap.size (fun r S9 => ∃ x, r = some (vI x) ∧ Q x S9)) args s 0 0 A) (F0 m 30 ls [.int t1, .ref (ad t0)]) := by
    intro  x1 x2 t0 t1 S H locs ls h hsh hG hl
    unfold wX9_percentile_30 at h
    obtain ⟨hk23, hq24, h⟩ := h
    refine r_put (ci := 9) (C := RX9) (T := TX9) (N := 36) hx hb hts hin9 tyX9 tyX9_ok nmX9 hown hK hG hk23 (cell_9 hq24) rfl 32 (by decide) lk_84 (fun _ h9 => h9) rfl rfl rfl (Nat.le_of_ble_eq_true rfl) (S' := sX S t0 32 t1) rfl (pu_9_32 hq24 t1) dX9_percentile_30 (fun H locs hG => ?_)
    obtain ⟨S25, eS_S25⟩ : ∃ z : GS, z = sX S t0 32 t1 := ⟨_, rfl⟩
    have h := h S25 eS_S25
    rw [← eS_S25] at hG
    have hs_S25 : gSh S25 S := by rw [eS_S25]; exact gSh.x _ _ _ _
    have hsh := hs_S25.tr hsh
    have hk26 := hs_S25.lt hk23
    have hq27 := hs_S25.kd hq24
    refine lv_aload_n hx hb dX9_percentile_33 rfl (lv_at hl 0 rfl) ?_
    obtain ⟨hk28, hq29, h⟩ := h
    refine g_get (ci := 9) (C := RX9) (T := TX9) (N := 36) hx hb hts hin9 hown hK hG hk28 (cell_9 hq29) rfl 32 (by decide) lk_84 (fun _ h9 => h9) (v := .int (gX S25 k0 32)) rfl dX9_percentile_34 ?_
    refine lv_if_eq (tgt := 42) hx hb dX9_percentile_37 (by decide) (fun c_37 => ?_) (fun c_37 => ?_)
    · have h := h.1 c_37
      refine lv_ldcw hx hb hown lk_264 dX9_percentile_42 ?_
      refine lv_istore_n (lv' := [(3, .int 2147483647), (0, .ref (ad k0)), (1, .int x1), (2, .int x2)]) hx hb dX9_percentile_45 rfl hl (by decide) rfl (fun ls hl => ?_)
      refine lv_iconst (v := 0) hx hb dX9_percentile_46 (by decide) ?_
      refine lv_istore (lv' := [(4, .int 0), (3, .int 2147483647), (0, .ref (ad k0)), (1, .int x1), (2, .int x2)]) hx hb dX9_percentile_47 hl (by decide) rfl (fun ls hl => ?_)
      obtain ⟨f30, h⟩ := h
      exact b_49 f30 x1 x2 2147483647 0 S25 H locs ls h hsh hG (lv_sub hl [2, 3, 4, 1, 0] rfl)
    · have h := h.2 c_37
      refine lv_iconst (v := 0) hx hb dX9_percentile_40 (by decide) ?_
      exact W.iret (v := 0) hx hb hr (fun t ht hW => r_end (r := some (vI 0)) hAe hG hsh ⟨_, rfl, h⟩ rfl ht) hG.2.2.2.2 dX9_percentile_41
  have b_17 : ∀  (x1 : Int32) (x2 : Int32) (t0 : Nat) (S : GS) (H : Heap) (locs : List Loc) (ls : Array Slot), wX9_percentile_17 Q k0 x1 x2 t0 S → gSh S S0 → gS D Y ad A s.heap S H locs → lv_has ls 5 [(0, .ref (ad k0)), (1, .int x1), (2, .int x2)] → W p l e (rmD 2) s m args below meth c H locs 0 0 (MQ below (gE D Y za ad S0 s.heap.size (fun r S9 => ∃ x, r = some (vI x) ∧ Q x S9)) args s 0 0 A) (F0 m 17 ls [.ref (ad t0)]) := by
    intro  x1 x2 t0 S H locs ls h hsh hG hl
    unfold wX9_percentile_17 at h
    refine lv_iconst (v := 1) hx hb dX9_percentile_17 (by decide) ?_
    refine lv_goto (tgt := 30) hx hb dX9_percentile_18 (by decide) ?_
    exact b_30 x1 x2 t0 1 S H locs ls h hsh hG (lv_sub hl [0, 1, 2] rfl)
  have hl : lv_has ls 5 [(0, .ref (ad k0)), (1, .int x1)] := hl
  have hsh : gSh S S0 := by rw [hS0]; exact gSh.rf S
  obtain ⟨H, eH⟩ : ∃ z : Heap, z = s.heap := ⟨_, rfl⟩
  obtain ⟨locs, eL⟩ : ∃ z : List Loc, z = [] := ⟨_, rfl⟩
  have hG : gS D Y ad A s.heap S H locs := by rw [eH, eL]; exact hG
  suffices hgoal : W p l e (rmD 2) s m args below meth c H locs 0 0 (MQ below (gE D Y za ad S0 s.heap.size (fun r S9 => ∃ x, r = some (vI x) ∧ Q x S9)) args s 0 0 A) (F0 m 0 ls []) by rw [eH, eL] at hgoal; exact hgoal
  unfold wX9_percentile at h
  refine lv_aload_n hx hb dX9_percentile_0 rfl (lv_at hl 0 rfl) ?_
  obtain ⟨hk31, hq32, h⟩ := h
  refine r_callV (za := za) (k := k0) (ci := 9) (C := RX9) (T := TX9) (N := 36) (As := []) (rest := []) (tX9_pauses l S k0  _ h) ⟨hx, hb, hml, hown, hts⟩ (cwV 0 hts gX9_percentile_X9_pauses rfl rfl rfl (by decide +kernel) ⟨by decide, by decide⟩) hK hG hA hk31 (cell_9 hq32) rfl rfl hl.1 rfl (Nat.le_of_ble_eq_true rfl) ⟨Nat.le_refl _, Nat.le_refl _⟩ dX9_percentile_1 (fun r_9 S33 H locs hp hs_S33 hG => ?_)
  obtain ⟨u34, rfl, h⟩ := hp
  have h := h hs_S33
  refine W.eq (g2 := F0 m 4 ls [.int u34]) rfl ?_
  have hsh := hs_S33.tr hsh
  have hk35 := hs_S33.lt hk31
  have hq36 := hs_S33.kd hq32
  refine lv_istore_n (lv' := [(2, .int u34), (0, .ref (ad k0)), (1, .int x1)]) hx hb dX9_percentile_4 rfl hl (by decide) rfl (fun ls hl => ?_)
  refine lv_aload_n hx hb dX9_percentile_5 rfl (lv_at hl 1 rfl) ?_
  refine lv_iload_n hx hb dX9_percentile_6 rfl (lv_at hl 2 rfl) ?_
  refine lv_iconst (v := 1) hx hb dX9_percentile_7 (by decide) ?_
  refine lv_icmp_lt (tgt := 17) hx hb dX9_percentile_8 (by decide) (fun c_8 => ?_) (fun c_8 => ?_)
  · have h := h.1 c_8
    exact b_17 x1 u34 k0 S33 H locs ls h hsh hG (lv_sub hl [1, 2, 0] rfl)
  · have h := h.2 c_8
    refine lv_iload_n hx hb dX9_percentile_11 rfl (lv_at hl 2 rfl) ?_
    refine lv_bipush (v := 100) hx hb dX9_percentile_12 (by decide) ?_
    refine lv_icmp_le (tgt := 21) hx hb dX9_percentile_14 (by decide) (fun c_14 => ?_) (fun c_14 => ?_)
    · have h := h.1 c_14
      refine lv_iload_n hx hb dX9_percentile_21 rfl (lv_at hl 0 rfl) ?_
      refine lv_if_ne (tgt := 29) hx hb dX9_percentile_22 (by decide) (fun c_22 => ?_) (fun c_22 => ?_)
      · have h := h.1 c_22
        refine lv_iconst (v := 0) hx hb dX9_percentile_29 (by decide) ?_
        exact b_30 x1 u34 k0 0 S33 H locs ls h hsh hG (lv_sub hl [1, 2, 0] rfl)
      · have h := h.2 c_22
        refine lv_iconst (v := 2) hx hb dX9_percentile_25 (by decide) ?_
        refine lv_goto (tgt := 30) hx hb dX9_percentile_26 (by decide) ?_
        exact b_30 x1 u34 k0 2 S33 H locs ls h hsh hG (lv_sub hl [1, 2, 0] rfl)
    · have h := h.2 c_14
      exact b_17 x1 u34 k0 S33 H locs ls h hsh hG (lv_sub hl [1, 2, 0] rfl)
def wX9_bucket_49 (Q : Int32 → GS → Prop) (k0 : Nat) (t0 : Int32) (S : GS) : Prop :=
  Q t0 S
def wX9_bucket_41 (Q : Int32 → GS → Prop) (k0 : Nat) (x1 : Int32) (t0 : Nat) (t1 : Int32) (S : GS) : Prop :=
  t0 < gN S ∧ gK S t0 = 9 ∧ wX9_between S t0 t1 ((2 <<< (x1 &&& 31)) - 1) (fun u4 S3 => gSh S3 S → wX9_bucket_49 Q k0 u4 S3)
def wX9_bucket_15 (Q : Int32 → GS → Prop) (k0 : Nat) (x1 : Int32) (t0 : Nat) (t1 : Int32) (S : GS) : Prop :=
  t0 < gN S ∧ gK S t0 = 9 ∧ ∀ S9 : GS, S9 = sX S t0 32 t1 → k0 < gN S9 ∧ gK S9 k0 = 9 ∧ ((gX S9 k0 32) = 0 → (¬ x1 = 0 → wX9_bucket_41 Q k0 x1 k0 (1 <<< (x1 &&& 31)) S9) ∧ (x1 = 0 → wX9_bucket_41 Q k0 x1 k0 0 S9)) ∧ (¬ (gX S9 k0 32) = 0 → wX9_bucket_49 Q k0 0 S9)
def wX9_bucket (S : GS) (k0 : Nat) (x1 : Int32) (Q : Int32 → GS → Prop) : Prop :=
  wX9_tells S x1 23 (fun u15 S14 => gSh S14 S → (u15 = 0 → wX9_bucket_15 Q k0 x1 k0 1 S14) ∧ (¬ u15 = 0 → wX9_bucket_15 Q k0 x1 k0 0 S14))
set_option maxHeartbeats 4000000 in
set_option maxRecDepth 100000 in
theorem tX9_bucket (l : Launch) (S : GS) (k0 : Nat) (x1 : Int32) (Q : Int32 → GS → Prop) (h : wX9_bucket S k0 x1 Q) : CS l yX9_bucket wsX9_bucket 2 S [vR (some k0), vI x1] (fun r S9 => ∃ x, r = some (vI x) ∧ Q x S9) := by
  refine CS.ofW (cc := cX9_bucket) (maxL := 2) (ret := (some .int)) RX9 (by decide) rfl rfl (fun _ _ => Nat.le_of_ble_eq_true rfl) ?_
  intro p e s m args below meth c D Y za ad A ls hAe hx hb hr hml hts hown hlocks hK hA hG hl
  obtain ⟨S0, hS0⟩ : ∃ z : GS, z = S := ⟨_, rfl⟩
  rw [← hS0] at hAe
  rw [← hS0]
  have hin9 : ∀ w ∈ wsX90, w ∈ wsX9_bucket := by decide +kernel
  have lk_84 := hts (.fieldLink RX9 84 "PauseLogModel" "thrown" "I") (by decide +kernel)
  have b_49 : ∀  (t0 : Int32) (S : GS) (H : Heap) (locs : List Loc) (ls : Array Slot), wX9_bucket_49 Q k0 t0 S → gSh S S0 → gS D Y ad A s.heap S H locs → lv_has ls 2 [] → W p l e (rmD 2) s m args below meth c H locs 0 0 (MQ below (gE D Y za ad S0 s.heap.size (fun r S9 => ∃ x, r = some (vI x) ∧ Q x S9)) args s 0 0 A) (F0 m 49 ls [.int t0]) := by
    intro  t0 S H locs ls h hsh hG hl
    unfold wX9_bucket_49 at h
    exact W.iret (v := t0) hx hb hr (fun t ht hW => r_end (r := some (vI t0)) hAe hG hsh ⟨_, rfl, h⟩ rfl ht) hG.2.2.2.2 dX9_bucket_49
  have b_41 : ∀  (x1 : Int32) (t0 : Nat) (t1 : Int32) (S : GS) (H : Heap) (locs : List Loc) (ls : Array Slot), wX9_bucket_41 Q k0 x1 t0 t1 S → gSh S S0 → gS D Y ad A s.heap S H locs → lv_has ls 2 [(1, .int x1)] → W p l e (rmD 2) s m args below meth c H locs 0 0 (MQ below (gE D Y za ad S0 s.heap.size (fun r S9 => ∃ x, r = some (vI x) ∧ Q x S9)) args s 0 0 A) (F0 m 41 ls [.int t1, .ref (ad t0)]) := by
    intro  x1 t0 t1 S H locs ls h hsh hG hl
    unfold wX9_bucket_41 at h
    refine lv_iconst (v := 2) hx hb dX9_bucket_41 (by decide) ?_
    refine lv_iload_n hx hb dX9_bucket_42 rfl (lv_at hl 0 rfl) ?_
    refine lv_ishl hx hb dX9_bucket_43 ?_
    refine lv_iconst (v := 1) hx hb dX9_bucket_44 (by decide) ?_
    refine lv_isub hx hb dX9_bucket_45 ?_
    obtain ⟨hk1, hq2, h⟩ := h
    refine r_callV (za := za) (k := t0) (ci := 9) (C := RX9) (T := TX9) (N := 36) (As := [vI t1, vI ((2 <<< (x1 &&& 31)) - 1)]) (rest := []) (tX9_between l S t0 t1 ((2 <<< (x1 &&& 31)) - 1) _ h) ⟨hx, hb, hml, hown, hts⟩ (cwV 2 hts gX9_bucket_X9_between rfl rfl rfl (by decide +kernel) ⟨by decide, by decide⟩) hK hG hA hk1 (cell_9 hq2) rfl rfl hl.1 rfl (Nat.le_of_ble_eq_true rfl) ⟨Nat.le_refl _, Nat.le_refl _⟩ dX9_bucket_46 (fun r_9 S3 H locs hp hs_S3 hG => ?_)
    obtain ⟨u4, rfl, h⟩ := hp
    have h := h hs_S3
    refine W.eq (g2 := F0 m 49 ls [.int u4]) rfl ?_
    have hsh := hs_S3.tr hsh
    have hk5 := hs_S3.lt hk1
    have hq6 := hs_S3.kd hq2
    exact b_49 u4 S3 H locs ls h hsh hG (lv_sub hl [] rfl)
  have b_15 : ∀  (x1 : Int32) (t0 : Nat) (t1 : Int32) (S : GS) (H : Heap) (locs : List Loc) (ls : Array Slot), wX9_bucket_15 Q k0 x1 t0 t1 S → gSh S S0 → gS D Y ad A s.heap S H locs → lv_has ls 2 [(0, .ref (ad k0)), (1, .int x1)] → W p l e (rmD 2) s m args below meth c H locs 0 0 (MQ below (gE D Y za ad S0 s.heap.size (fun r S9 => ∃ x, r = some (vI x) ∧ Q x S9)) args s 0 0 A) (F0 m 15 ls [.int t1, .ref (ad t0)]) := by
    intro  x1 t0 t1 S H locs ls h hsh hG hl
    unfold wX9_bucket_15 at h
    obtain ⟨hk7, hq8, h⟩ := h
    refine r_put (ci := 9) (C := RX9) (T := TX9) (N := 36) hx hb hts hin9 tyX9 tyX9_ok nmX9 hown hK hG hk7 (cell_9 hq8) rfl 32 (by decide) lk_84 (fun _ h9 => h9) rfl rfl rfl (Nat.le_of_ble_eq_true rfl) (S' := sX S t0 32 t1) rfl (pu_9_32 hq8 t1) dX9_bucket_15 (fun H locs hG => ?_)
    obtain ⟨S9, eS_S9⟩ : ∃ z : GS, z = sX S t0 32 t1 := ⟨_, rfl⟩
    have h := h S9 eS_S9
    rw [← eS_S9] at hG
    have hs_S9 : gSh S9 S := by rw [eS_S9]; exact gSh.x _ _ _ _
    have hsh := hs_S9.tr hsh
    have hk10 := hs_S9.lt hk7
    have hq11 := hs_S9.kd hq8
    refine lv_aload_n hx hb dX9_bucket_18 rfl (lv_at hl 0 rfl) ?_
    obtain ⟨hk12, hq13, h⟩ := h
    refine g_get (ci := 9) (C := RX9) (T := TX9) (N := 36) hx hb hts hin9 hown hK hG hk12 (cell_9 hq13) rfl 32 (by decide) lk_84 (fun _ h9 => h9) (v := .int (gX S9 k0 32)) rfl dX9_bucket_19 ?_
    refine lv_if_eq (tgt := 29) hx hb dX9_bucket_22 (by decide) (fun c_22 => ?_) (fun c_22 => ?_)
    · have h := h.1 c_22
      refine lv_aload_n hx hb dX9_bucket_29 rfl (lv_at hl 0 rfl) ?_
      refine lv_iload_n hx hb dX9_bucket_30 rfl (lv_at hl 1 rfl) ?_
      refine lv_if_ne (tgt := 38) hx hb dX9_bucket_31 (by decide) (fun c_31 => ?_) (fun c_31 => ?_)
      · have h := h.1 c_31
        refine lv_iconst (v := 1) hx hb dX9_bucket_38 (by decide) ?_
        refine lv_iload_n hx hb dX9_bucket_39 rfl (lv_at hl 1 rfl) ?_
        refine lv_ishl hx hb dX9_bucket_40 ?_
        exact b_41 x1 k0 (1 <<< (x1 &&& 31)) S9 H locs ls h hsh hG (lv_sub hl [1] rfl)
      · have h := h.2 c_31
        refine lv_iconst (v := 0) hx hb dX9_bucket_34 (by decide) ?_
        refine lv_goto (tgt := 41) hx hb dX9_bucket_35 (by decide) ?_
        exact b_41 x1 k0 0 S9 H locs ls h hsh hG (lv_sub hl [1] rfl)
    · have h := h.2 c_22
      refine lv_iconst (v := 0) hx hb dX9_bucket_25 (by decide) ?_
      refine lv_goto (tgt := 49) hx hb dX9_bucket_26 (by decide) ?_
      exact b_49 0 S9 H locs ls h hsh hG (lv_sub hl [] rfl)
  have hl : lv_has ls 2 [(0, .ref (ad k0)), (1, .int x1)] := hl
  have hsh : gSh S S0 := by rw [hS0]; exact gSh.rf S
  obtain ⟨H, eH⟩ : ∃ z : Heap, z = s.heap := ⟨_, rfl⟩
  obtain ⟨locs, eL⟩ : ∃ z : List Loc, z = [] := ⟨_, rfl⟩
  have hG : gS D Y ad A s.heap S H locs := by rw [eH, eL]; exact hG
  suffices hgoal : W p l e (rmD 2) s m args below meth c H locs 0 0 (MQ below (gE D Y za ad S0 s.heap.size (fun r S9 => ∃ x, r = some (vI x) ∧ Q x S9)) args s 0 0 A) (F0 m 0 ls []) by rw [eH, eL] at hgoal; exact hgoal
  unfold wX9_bucket at h
  refine lv_aload_n hx hb dX9_bucket_0 rfl (lv_at hl 0 rfl) ?_
  refine lv_iload_n hx hb dX9_bucket_1 rfl (lv_at hl 1 rfl) ?_
  refine lv_bipush (v := 23) hx hb dX9_bucket_2 (by decide) ?_
  refine r_callS (za := za) (As := [vI x1, vI 23]) (rest := [.ref (ad k0)]) (tX9_tells l S x1 23 _ h) ⟨hx, hb, hml, hown, hts⟩ (cwS 2 hts gX9_bucket_X9_tells rfl rfl rfl (by decide +kernel) ⟨by decide, by decide⟩) hK hG hA rfl hl.1 rfl (Nat.le_of_ble_eq_true rfl) ⟨Nat.le_refl _, Nat.le_refl _⟩ dX9_bucket_4 (fun r_9 S14 H locs hp hs_S14 hG => ?_)
  obtain ⟨u15, rfl, h⟩ := hp
  have h := h hs_S14
  refine W.eq (g2 := F0 m 7 ls [.int u15, .ref (ad k0)]) rfl ?_
  have hsh := hs_S14.tr hsh
  refine lv_if_eq (tgt := 14) hx hb dX9_bucket_7 (by decide) (fun c_7 => ?_) (fun c_7 => ?_)
  · have h := h.1 c_7
    refine lv_iconst (v := 1) hx hb dX9_bucket_14 (by decide) ?_
    exact b_15 x1 k0 1 S14 H locs ls h hsh hG (lv_sub hl [0, 1] rfl)
  · have h := h.2 c_7
    refine lv_iconst (v := 0) hx hb dX9_bucket_10 (by decide) ?_
    refine lv_goto (tgt := 15) hx hb dX9_bucket_11 (by decide) ?_
    exact b_15 x1 k0 0 S14 H locs ls h hsh hG (lv_sub hl [0, 1] rfl)
def wX9_ofCause_73 (Q : Int64 → GS → Prop) (L_22 : Int32 → Int64 → Int32 → GS → Prop) (k0 : Nat) (x1 : Int32) (x2 : Int64) (x4 : Int32) (S : GS) : Prop :=
  L_22 x1 x2 (x4 + 1) S
def wX9_ofCause_79 (Q : Int64 → GS → Prop) (k0 : Nat) (x2 : Int64) (S : GS) : Prop :=
  Q x2 S
def wX9_ofCause_22 (Q : Int64 → GS → Prop) (k0 : Nat) : Nat → Int32 → Int64 → Int32 → GS → Prop
  | 0, _, _, _, _ => False
  | f9 + 1, x1, x2, x4, S =>
  k0 < gN S ∧ gK S k0 = 9 ∧ ((gX S k0 25) ≤ x4 → wX9_ofCause_79 Q k0 x2 S) ∧ (¬ (gX S k0 25) ≤ x4 → (¬ (gX S k0 32) = 0 → wX9_ofCause_79 Q k0 x2 S) ∧ ((gX S k0 32) = 0 → wX9_isPause S k0 x4 (fun u4 S3 => gSh S3 S → (u4 = 0 → wX9_ofCause_73 Q (wX9_ofCause_22 Q k0 f9) k0 x1 x2 x4 S3) ∧ (¬ u4 = 0 → ∃ q7 : Nat, gR S3 k0 21 = some q7 ∧ q7 < gN S3 ∧ gK S3 q7 = 11 ∧ vp_in x4 (gL S3 q7) ∧ ∃ q12 : Nat, gR S3 k0 14 = some q12 ∧ q12 < gN S3 ∧ gK S3 q12 = 11 ∧ vp_in (gX S3 q7 (Int32.toNatClampNeg x4)) (gL S3 q12) ∧ (¬ (gX S3 q12 (Int32.toNatClampNeg (gX S3 q7 (Int32.toNatClampNeg x4)))) = x1 → wX9_ofCause_73 Q (wX9_ofCause_22 Q k0 f9) k0 x1 x2 x4 S3) ∧ ((gX S3 q12 (Int32.toNatClampNeg (gX S3 q7 (Int32.toNatClampNeg x4)))) = x1 → wX9_tookOf S3 k0 x4 (fun u18 S17 => gSh S17 S3 → wX9_ofCause_73 Q (wX9_ofCause_22 Q k0 f9) k0 x1 (x2 + (Int32.toInt64 u18)) x4 S17))))))
def wX9_ofCause_14 (Q : Int64 → GS → Prop) (k0 : Nat) (x1 : Int32) (t0 : Nat) (t1 : Int32) (S : GS) : Prop :=
  t0 < gN S ∧ gK S t0 = 9 ∧ ∀ S27 : GS, S27 = sX S t0 32 t1 → ∃ f30 : Nat, wX9_ofCause_22 Q k0 f30 x1 0 0 S27
def wX9_ofCause (S : GS) (k0 : Nat) (x1 : Int32) (Q : Int64 → GS → Prop) : Prop :=
  wX9_tells S x1 2 (fun u32 S31 => gSh S31 S → (u32 = 0 → wX9_ofCause_14 Q k0 x1 k0 1 S31) ∧ (¬ u32 = 0 → wX9_ofCause_14 Q k0 x1 k0 0 S31))
set_option maxHeartbeats 4000000 in
set_option maxRecDepth 100000 in
theorem tX9_ofCause (l : Launch) (S : GS) (k0 : Nat) (x1 : Int32) (Q : Int64 → GS → Prop) (h : wX9_ofCause S k0 x1 Q) : CS l yX9_ofCause wsX9_ofCause 1 S [vR (some k0), vI x1] (fun r S9 => ∃ x, r = some (vL x) ∧ Q x S9) := by
  refine CS.ofW (cc := cX9_ofCause) (maxL := 5) (ret := (some .long)) RX9 (by decide) rfl rfl (fun _ _ => Nat.le_of_ble_eq_true rfl) ?_
  intro p e s m args below meth c D Y za ad A ls hAe hx hb hr hml hts hown hlocks hK hA hG hl
  obtain ⟨S0, hS0⟩ : ∃ z : GS, z = S := ⟨_, rfl⟩
  rw [← hS0] at hAe
  rw [← hS0]
  have hin9 : ∀ w ∈ wsX90, w ∈ wsX9_ofCause := by decide +kernel
  have lk_84 := hts (.fieldLink RX9 84 "PauseLogModel" "thrown" "I") (by decide +kernel)
  have lk_205 := hts (.fieldLink RX9 205 "PauseLogModel" "events" "I") (by decide +kernel)
  have lk_41 := hts (.fieldLink RX9 41 "PauseLogModel" "cause" "[I") (by decide +kernel)
  have lk_56 := hts (.fieldLink RX9 56 "PauseLogModel" "beginLine" "[I") (by decide +kernel)
  have b_73 : ∀ (L_22 : Int32 → Int64 → Int32 → GS → Prop) (hL_22 : ∀ (x1 : Int32) (x2 : Int64) (x4 : Int32) (S : GS) (H : Heap) (locs : List Loc) (ls : Array Slot), L_22 x1 x2 x4 S → gSh S S0 → gS D Y ad A s.heap S H locs → lv_has ls 5 [(0, .ref (ad k0)), (1, .int x1), (2, .long x2), (4, .int x4)] → W p l e (rmD 1) s m args below meth c H locs 0 0 (MQ below (gE D Y za ad S0 s.heap.size (fun r S9 => ∃ x, r = some (vL x) ∧ Q x S9)) args s 0 0 A) (F0 m 22 ls [])) (x1 : Int32) (x2 : Int64) (x4 : Int32) (S : GS) (H : Heap) (locs : List Loc) (ls : Array Slot), wX9_ofCause_73 Q L_22 k0 x1 x2 x4 S → gSh S S0 → gS D Y ad A s.heap S H locs → lv_has ls 5 [(0, .ref (ad k0)), (1, .int x1), (2, .long x2), (4, .int x4)] → W p l e (rmD 1) s m args below meth c H locs 0 0 (MQ below (gE D Y za ad S0 s.heap.size (fun r S9 => ∃ x, r = some (vL x) ∧ Q x S9)) args s 0 0 A) (F0 m 73 ls []) := by
    intro L_22 hL_22 x1 x2 x4 S H locs ls h hsh hG hl
    unfold wX9_ofCause_73 at h
    refine lv_iinc (v := x4 + 1) (lv' := [(4, .int (x4 + 1)), (0, .ref (ad k0)), (1, .int x1), (2, .long x2)]) hx hb dX9_ofCause_73 hl (k := 3) rfl rfl (by decide) rfl (fun ls hl => ?_)
    refine lv_goto (tgt := 22) hx hb dX9_ofCause_76 (by decide) ?_
    exact hL_22 x1 x2 (x4 + 1) S H locs ls h hsh hG (lv_sub hl [1, 2, 3, 0] rfl)
  have b_79 : ∀  (x2 : Int64) (S : GS) (H : Heap) (locs : List Loc) (ls : Array Slot), wX9_ofCause_79 Q k0 x2 S → gSh S S0 → gS D Y ad A s.heap S H locs → lv_has ls 5 [(2, .long x2)] → W p l e (rmD 1) s m args below meth c H locs 0 0 (MQ below (gE D Y za ad S0 s.heap.size (fun r S9 => ∃ x, r = some (vL x) ∧ Q x S9)) args s 0 0 A) (F0 m 79 ls []) := by
    intro  x2 S H locs ls h hsh hG hl
    unfold wX9_ofCause_79 at h
    refine lv_lload_n hx hb dX9_ofCause_79 rfl (lv_at hl 0 rfl) ?_
    exact W.lret (v := x2) hx hb hr (fun t ht hW => r_end (r := some (vL x2)) hAe hG hsh ⟨_, rfl, h⟩ rfl ht) hG.2.2.2.2 dX9_ofCause_80
  have b_22 : ∀  (f9 : Nat) (x1 : Int32) (x2 : Int64) (x4 : Int32) (S : GS) (H : Heap) (locs : List Loc) (ls : Array Slot), wX9_ofCause_22 Q k0 f9 x1 x2 x4 S → gSh S S0 → gS D Y ad A s.heap S H locs → lv_has ls 5 [(0, .ref (ad k0)), (1, .int x1), (2, .long x2), (4, .int x4)] → W p l e (rmD 1) s m args below meth c H locs 0 0 (MQ below (gE D Y za ad S0 s.heap.size (fun r S9 => ∃ x, r = some (vL x) ∧ Q x S9)) args s 0 0 A) (F0 m 22 ls []) := by
    intro  f9
    induction f9 with
    | zero =>
      intro x1 x2 x4 S H locs ls h
      exact False.elim (by unfold wX9_ofCause_22 at h; exact h)
    | succ f9 hL_22 =>
      intro x1 x2 x4 S H locs ls h hsh hG hl
      unfold wX9_ofCause_22 at h
      refine lv_iload hx hb dX9_ofCause_22 (lv_at hl 3 rfl) ?_
      refine lv_aload_n hx hb dX9_ofCause_24 rfl (lv_at hl 0 rfl) ?_
      obtain ⟨hk1, hq2, h⟩ := h
      refine g_get (ci := 9) (C := RX9) (T := TX9) (N := 36) hx hb hts hin9 hown hK hG hk1 (cell_9 hq2) rfl 25 (by decide) lk_205 (fun _ h9 => h9) (v := .int (gX S k0 25)) rfl dX9_ofCause_25 ?_
      refine lv_icmp_ge (tgt := 79) hx hb dX9_ofCause_28 (by decide) (fun c_28 => ?_) (fun c_28 => ?_)
      · have h := h.1 c_28
        exact b_79 x2 S H locs ls h hsh hG (lv_sub hl [2] rfl)
      · have h := h.2 c_28
        refine lv_aload_n hx hb dX9_ofCause_31 rfl (lv_at hl 0 rfl) ?_
        refine g_get (ci := 9) (C := RX9) (T := TX9) (N := 36) hx hb hts hin9 hown hK hG hk1 (cell_9 hq2) rfl 32 (by decide) lk_84 (fun _ h9 => h9) (v := .int (gX S k0 32)) rfl dX9_ofCause_32 ?_
        refine lv_if_ne (tgt := 79) hx hb dX9_ofCause_35 (by decide) (fun c_35 => ?_) (fun c_35 => ?_)
        · have h := h.1 c_35
          exact b_79 x2 S H locs ls h hsh hG (lv_sub hl [2] rfl)
        · have h := h.2 c_35
          refine lv_aload_n hx hb dX9_ofCause_38 rfl (lv_at hl 0 rfl) ?_
          refine lv_iload hx hb dX9_ofCause_39 (lv_at hl 3 rfl) ?_
          refine r_callV (za := za) (k := k0) (ci := 9) (C := RX9) (T := TX9) (N := 36) (As := [vI x4]) (rest := []) (tX9_isPause l S k0 x4 _ h) ⟨hx, hb, hml, hown, hts⟩ (cwV 1 hts gX9_ofCause_X9_isPause rfl rfl rfl (by decide +kernel) ⟨by decide, by decide⟩) hK hG hA hk1 (cell_9 hq2) rfl rfl hl.1 rfl (Nat.le_of_ble_eq_true rfl) ⟨Nat.le_refl _, Nat.le_refl _⟩ dX9_ofCause_41 (fun r_9 S3 H locs hp hs_S3 hG => ?_)
          obtain ⟨u4, rfl, h⟩ := hp
          have h := h hs_S3
          refine W.eq (g2 := F0 m 44 ls [.int u4]) rfl ?_
          have hsh := hs_S3.tr hsh
          have hk5 := hs_S3.lt hk1
          have hq6 := hs_S3.kd hq2
          refine lv_if_eq (tgt := 73) hx hb dX9_ofCause_44 (by decide) (fun c_44 => ?_) (fun c_44 => ?_)
          · have h := h.1 c_44
            exact b_73 (wX9_ofCause_22 Q k0 f9) hL_22 x1 x2 x4 S3 H locs ls h hsh hG (lv_sub hl [0, 1, 2, 3] rfl)
          · have h := h.2 c_44
            refine lv_aload_n hx hb dX9_ofCause_47 rfl (lv_at hl 0 rfl) ?_
            refine g_get (ci := 9) (C := RX9) (T := TX9) (N := 36) hx hb hts hin9 hown hK hG hk5 (cell_9 hq6) rfl 14 (by decide) lk_41 (fun _ h9 => h9) (v := rv ad (gR S3 k0 14)) rfl dX9_ofCause_48 ?_
            refine lv_aload_n hx hb dX9_ofCause_51 rfl (lv_at hl 0 rfl) ?_
            refine g_get (ci := 9) (C := RX9) (T := TX9) (N := 36) hx hb hts hin9 hown hK hG hk5 (cell_9 hq6) rfl 21 (by decide) lk_56 (fun _ h9 => h9) (v := rv ad (gR S3 k0 21)) rfl dX9_ofCause_52 ?_
            refine lv_iload hx hb dX9_ofCause_55 (lv_at hl 3 rfl) ?_
            obtain ⟨q7, e8, h⟩ := h
            refine W.eq (g2 := F0 m 57 ls [.int x4, .ref (ad q7), rv ad (gR S3 k0 14)]) (by rw [e8]; rfl) ?_
            obtain ⟨hk9, hq10, h⟩ := h
            obtain ⟨hi11, h⟩ := h
            refine r_iald hx hb hK hG hk9 hq10 hi11 dX9_ofCause_57 ?_
            obtain ⟨q12, e13, h⟩ := h
            refine W.eq (g2 := F0 m 58 ls [.int (gX S3 q7 (Int32.toNatClampNeg x4)), .ref (ad q12)]) (by rw [e13]; rfl) ?_
            obtain ⟨hk14, hq15, h⟩ := h
            obtain ⟨hi16, h⟩ := h
            refine r_iald hx hb hK hG hk14 hq15 hi16 dX9_ofCause_58 ?_
            refine lv_iload_n hx hb dX9_ofCause_59 rfl (lv_at hl 1 rfl) ?_
            refine lv_icmp_ne (tgt := 73) hx hb dX9_ofCause_60 (by decide) (fun c_60 => ?_) (fun c_60 => ?_)
            · have h := h.1 c_60
              exact b_73 (wX9_ofCause_22 Q k0 f9) hL_22 x1 x2 x4 S3 H locs ls h hsh hG (lv_sub hl [0, 1, 2, 3] rfl)
            · have h := h.2 c_60
              refine lv_lload_n hx hb dX9_ofCause_63 rfl (lv_at hl 2 rfl) ?_
              refine lv_aload_n hx hb dX9_ofCause_64 rfl (lv_at hl 0 rfl) ?_
              refine lv_iload hx hb dX9_ofCause_65 (lv_at hl 3 rfl) ?_
              refine r_callV (za := za) (k := k0) (ci := 9) (C := RX9) (T := TX9) (N := 36) (As := [vI x4]) (rest := [.long x2]) (tX9_tookOf l S3 k0 x4 _ h) ⟨hx, hb, hml, hown, hts⟩ (cwV 1 hts gX9_ofCause_X9_tookOf rfl rfl rfl (by decide +kernel) ⟨by decide, by decide⟩) hK hG hA hk5 (cell_9 hq6) rfl rfl hl.1 rfl (Nat.le_of_ble_eq_true rfl) ⟨Nat.le_refl _, Nat.le_refl _⟩ dX9_ofCause_67 (fun r_9 S17 H locs hp hs_S17 hG => ?_)
              obtain ⟨u18, rfl, h⟩ := hp
              have h := h hs_S17
              refine W.eq (g2 := F0 m 70 ls [.int u18, .long x2]) rfl ?_
              have hsh := hs_S17.tr hsh
              have hk19 := hs_S17.lt hk5
              have hq20 := hs_S17.kd hq6
              have hk21 := hs_S17.lt hk9
              have hq22 := hs_S17.kd hq10
              have hk23 := hs_S17.lt hk14
              have hq24 := hs_S17.kd hq15
              refine lv_i2l hx hb dX9_ofCause_70 rfl ?_
              refine lv_ladd hx hb dX9_ofCause_71 ?_
              refine lv_lstore_n (lv' := [(2, .long (x2 + (Int32.toInt64 u18))), (0, .ref (ad k0)), (1, .int x1), (4, .int x4)]) hx hb dX9_ofCause_72 rfl hl (by decide) rfl (fun ls hl => ?_)
              exact b_73 (wX9_ofCause_22 Q k0 f9) hL_22 x1 (x2 + (Int32.toInt64 u18)) x4 S17 H locs ls h hsh hG (lv_sub hl [1, 2, 0, 3] rfl)
  have b_14 : ∀  (x1 : Int32) (t0 : Nat) (t1 : Int32) (S : GS) (H : Heap) (locs : List Loc) (ls : Array Slot), wX9_ofCause_14 Q k0 x1 t0 t1 S → gSh S S0 → gS D Y ad A s.heap S H locs → lv_has ls 5 [(0, .ref (ad k0)), (1, .int x1)] → W p l e (rmD 1) s m args below meth c H locs 0 0 (MQ below (gE D Y za ad S0 s.heap.size (fun r S9 => ∃ x, r = some (vL x) ∧ Q x S9)) args s 0 0 A) (F0 m 14 ls [.int t1, .ref (ad t0)]) := by
    intro  x1 t0 t1 S H locs ls h hsh hG hl
    unfold wX9_ofCause_14 at h
    obtain ⟨hk25, hq26, h⟩ := h
    refine r_put (ci := 9) (C := RX9) (T := TX9) (N := 36) hx hb hts hin9 tyX9 tyX9_ok nmX9 hown hK hG hk25 (cell_9 hq26) rfl 32 (by decide) lk_84 (fun _ h9 => h9) rfl rfl rfl (Nat.le_of_ble_eq_true rfl) (S' := sX S t0 32 t1) rfl (pu_9_32 hq26 t1) dX9_ofCause_14 (fun H locs hG => ?_)
    obtain ⟨S27, eS_S27⟩ : ∃ z : GS, z = sX S t0 32 t1 := ⟨_, rfl⟩
    have h := h S27 eS_S27
    rw [← eS_S27] at hG
    have hs_S27 : gSh S27 S := by rw [eS_S27]; exact gSh.x _ _ _ _
    have hsh := hs_S27.tr hsh
    have hk28 := hs_S27.lt hk25
    have hq29 := hs_S27.kd hq26
    refine lv_lconst (v := 0) hx hb dX9_ofCause_17 rfl ?_
    refine lv_lstore_n (lv' := [(2, .long 0), (0, .ref (ad k0)), (1, .int x1)]) hx hb dX9_ofCause_18 rfl hl (by decide) rfl (fun ls hl => ?_)
    refine lv_iconst (v := 0) hx hb dX9_ofCause_19 (by decide) ?_
    refine lv_istore (lv' := [(4, .int 0), (2, .long 0), (0, .ref (ad k0)), (1, .int x1)]) hx hb dX9_ofCause_20 hl (by decide) rfl (fun ls hl => ?_)
    obtain ⟨f30, h⟩ := h
    exact b_22 f30 x1 0 0 S27 H locs ls h hsh hG (lv_sub hl [2, 3, 1, 0] rfl)
  have hl : lv_has ls 5 [(0, .ref (ad k0)), (1, .int x1)] := hl
  have hsh : gSh S S0 := by rw [hS0]; exact gSh.rf S
  obtain ⟨H, eH⟩ : ∃ z : Heap, z = s.heap := ⟨_, rfl⟩
  obtain ⟨locs, eL⟩ : ∃ z : List Loc, z = [] := ⟨_, rfl⟩
  have hG : gS D Y ad A s.heap S H locs := by rw [eH, eL]; exact hG
  suffices hgoal : W p l e (rmD 1) s m args below meth c H locs 0 0 (MQ below (gE D Y za ad S0 s.heap.size (fun r S9 => ∃ x, r = some (vL x) ∧ Q x S9)) args s 0 0 A) (F0 m 0 ls []) by rw [eH, eL] at hgoal; exact hgoal
  unfold wX9_ofCause at h
  refine lv_aload_n hx hb dX9_ofCause_0 rfl (lv_at hl 0 rfl) ?_
  refine lv_iload_n hx hb dX9_ofCause_1 rfl (lv_at hl 1 rfl) ?_
  refine lv_iconst (v := 2) hx hb dX9_ofCause_2 (by decide) ?_
  refine r_callS (za := za) (As := [vI x1, vI 2]) (rest := [.ref (ad k0)]) (tX9_tells l S x1 2 _ h) ⟨hx, hb, hml, hown, hts⟩ (cwS 2 hts gX9_ofCause_X9_tells rfl rfl rfl (by decide +kernel) ⟨by decide, by decide⟩) hK hG hA rfl hl.1 rfl (Nat.le_of_ble_eq_true rfl) ⟨Nat.le_refl _, Nat.le_refl _⟩ dX9_ofCause_3 (fun r_9 S31 H locs hp hs_S31 hG => ?_)
  obtain ⟨u32, rfl, h⟩ := hp
  have h := h hs_S31
  refine W.eq (g2 := F0 m 6 ls [.int u32, .ref (ad k0)]) rfl ?_
  have hsh := hs_S31.tr hsh
  refine lv_if_eq (tgt := 13) hx hb dX9_ofCause_6 (by decide) (fun c_6 => ?_) (fun c_6 => ?_)
  · have h := h.1 c_6
    refine lv_iconst (v := 1) hx hb dX9_ofCause_13 (by decide) ?_
    exact b_14 x1 k0 1 S31 H locs ls h hsh hG (lv_sub hl [0, 1] rfl)
  · have h := h.2 c_6
    refine lv_iconst (v := 0) hx hb dX9_ofCause_9 (by decide) ?_
    refine lv_goto (tgt := 14) hx hb dX9_ofCause_10 (by decide) ?_
    exact b_14 x1 k0 0 S31 H locs ls h hsh hG (lv_sub hl [0, 1] rfl)
def wX9_count_168 (Q : Int32 → GS → Prop) (k0 : Nat) (t0 : Int32) (S : GS) : Prop :=
  Q t0 S
def wX9_count_146 (Q : Int32 → GS → Prop) (k0 : Nat) (t0 : Int32) (S : GS) : Prop :=
  Q t0 S
def wX9_count_15 (Q : Int32 → GS → Prop) (k0 : Nat) (x1 : Int32) (t0 : Nat) (t1 : Int32) (S : GS) : Prop :=
  t0 < gN S ∧ gK S t0 = 9 ∧ ∀ S3 : GS, S3 = sX S t0 32 t1 → (x1 = 0 → k0 < gN S3 ∧ gK S3 k0 = 9 ∧ Q (gX S3 k0 19) S3) ∧ (x1 = 1 → k0 < gN S3 ∧ gK S3 k0 = 9 ∧ Q (gX S3 k0 25) S3) ∧ (x1 = 2 → k0 < gN S3 ∧ gK S3 k0 = 9 ∧ Q (gX S3 k0 29) S3) ∧ (x1 = 3 → k0 < gN S3 ∧ gK S3 k0 = 9 ∧ wX9_owned S3 k0 1 (fun u15 S14 => gSh S14 S3 → Q u15 S14)) ∧ (x1 = 4 → k0 < gN S3 ∧ gK S3 k0 = 9 ∧ wX9_owned S3 k0 2 (fun u23 S22 => gSh S22 S3 → Q u23 S22)) ∧ (x1 = 5 → k0 < gN S3 ∧ gK S3 k0 = 9 ∧ wX9_owned S3 k0 0 (fun u31 S30 => gSh S30 S3 → Q u31 S30)) ∧ (x1 = 6 → k0 < gN S3 ∧ gK S3 k0 = 9 ∧ Q (gX S3 k0 1) S3) ∧ (x1 = 7 → k0 < gN S3 ∧ gK S3 k0 = 9 ∧ wX9_span S3 k0  (fun u41 S40 => gSh S40 S3 → Q (Int64.toInt32 u41) S40)) ∧ (x1 = 8 → k0 < gN S3 ∧ gK S3 k0 = 9 ∧ wX9_pauses S3 k0  (fun u49 S48 => gSh S48 S3 → Q u49 S48)) ∧ (x1 = 9 → k0 < gN S3 ∧ gK S3 k0 = 9 ∧ (¬ (gX S3 k0 30) = (-1) → ∃ q56 : Nat, gR S3 k0 16 = some q56 ∧ q56 < gN S3 ∧ gK S3 q56 = 11 ∧ vp_in (gX S3 k0 30) (gL S3 q56) ∧ wX9_count_146 Q k0 (gX S3 q56 (Int32.toNatClampNeg (gX S3 k0 30))) S3) ∧ ((gX S3 k0 30) = (-1) → wX9_count_146 Q k0 (-1) S3)) ∧ (x1 = 10 → k0 < gN S3 ∧ gK S3 k0 = 9 ∧ (¬ (gX S3 k0 31) = (-1) → ∃ q63 : Nat, gR S3 k0 16 = some q63 ∧ q63 < gN S3 ∧ gK S3 q63 = 11 ∧ vp_in (gX S3 k0 31) (gL S3 q63) ∧ wX9_count_168 Q k0 (gX S3 q63 (Int32.toNatClampNeg (gX S3 k0 31))) S3) ∧ ((gX S3 k0 31) = (-1) → wX9_count_168 Q k0 (-1) S3)) ∧ (¬ x1 = 0 → ¬ x1 = 1 → ¬ x1 = 2 → ¬ x1 = 3 → ¬ x1 = 4 → ¬ x1 = 5 → ¬ x1 = 6 → ¬ x1 = 7 → ¬ x1 = 8 → ¬ x1 = 9 → ¬ x1 = 10 → Q 0 S3)
def wX9_count (S : GS) (k0 : Nat) (x1 : Int32) (Q : Int32 → GS → Prop) : Prop :=
  wX9_tells S x1 10 (fun u69 S68 => gSh S68 S → (u69 = 0 → wX9_count_15 Q k0 x1 k0 1 S68) ∧ (¬ u69 = 0 → wX9_count_15 Q k0 x1 k0 0 S68))
set_option maxHeartbeats 4000000 in
set_option maxRecDepth 100000 in
theorem tX9_count (l : Launch) (S : GS) (k0 : Nat) (x1 : Int32) (Q : Int32 → GS → Prop) (h : wX9_count S k0 x1 Q) : CS l yX9_count wsX9_count 2 S [vR (some k0), vI x1] (fun r S9 => ∃ x, r = some (vI x) ∧ Q x S9) := by
  refine CS.ofW (cc := cX9_count) (maxL := 2) (ret := (some .int)) RX9 (by decide) rfl rfl (fun _ _ => Nat.le_of_ble_eq_true rfl) ?_
  intro p e s m args below meth c D Y za ad A ls hAe hx hb hr hml hts hown hlocks hK hA hG hl
  obtain ⟨S0, hS0⟩ : ∃ z : GS, z = S := ⟨_, rfl⟩
  rw [← hS0] at hAe
  rw [← hS0]
  have hin9 : ∀ w ∈ wsX90, w ∈ wsX9_count := by decide +kernel
  have lk_84 := hts (.fieldLink RX9 84 "PauseLogModel" "thrown" "I") (by decide +kernel)
  have lk_175 := hts (.fieldLink RX9 175 "PauseLogModel" "lines" "I") (by decide +kernel)
  have lk_205 := hts (.fieldLink RX9 205 "PauseLogModel" "events" "I") (by decide +kernel)
  have lk_208 := hts (.fieldLink RX9 208 "PauseLogModel" "problems" "I") (by decide +kernel)
  have lk_143 := hts (.fieldLink RX9 143 "PauseLogModel" "padLong" "I") (by decide +kernel)
  have lk_77 := hts (.fieldLink RX9 77 "PauseLogModel" "openPause" "I") (by decide +kernel)
  have lk_47 := hts (.fieldLink RX9 47 "PauseLogModel" "id" "[I") (by decide +kernel)
  have lk_81 := hts (.fieldLink RX9 81 "PauseLogModel" "openMark" "I") (by decide +kernel)
  have b_168 : ∀  (t0 : Int32) (S : GS) (H : Heap) (locs : List Loc) (ls : Array Slot), wX9_count_168 Q k0 t0 S → gSh S S0 → gS D Y ad A s.heap S H locs → lv_has ls 2 [] → W p l e (rmD 2) s m args below meth c H locs 0 0 (MQ below (gE D Y za ad S0 s.heap.size (fun r S9 => ∃ x, r = some (vI x) ∧ Q x S9)) args s 0 0 A) (F0 m 168 ls [.int t0]) := by
    intro  t0 S H locs ls h hsh hG hl
    unfold wX9_count_168 at h
    exact W.iret (v := t0) hx hb hr (fun t ht hW => r_end (r := some (vI t0)) hAe hG hsh ⟨_, rfl, h⟩ rfl ht) hG.2.2.2.2 dX9_count_168
  have b_146 : ∀  (t0 : Int32) (S : GS) (H : Heap) (locs : List Loc) (ls : Array Slot), wX9_count_146 Q k0 t0 S → gSh S S0 → gS D Y ad A s.heap S H locs → lv_has ls 2 [] → W p l e (rmD 2) s m args below meth c H locs 0 0 (MQ below (gE D Y za ad S0 s.heap.size (fun r S9 => ∃ x, r = some (vI x) ∧ Q x S9)) args s 0 0 A) (F0 m 146 ls [.int t0]) := by
    intro  t0 S H locs ls h hsh hG hl
    unfold wX9_count_146 at h
    exact W.iret (v := t0) hx hb hr (fun t ht hW => r_end (r := some (vI t0)) hAe hG hsh ⟨_, rfl, h⟩ rfl ht) hG.2.2.2.2 dX9_count_146
  have b_15 : ∀  (x1 : Int32) (t0 : Nat) (t1 : Int32) (S : GS) (H : Heap) (locs : List Loc) (ls : Array Slot), wX9_count_15 Q k0 x1 t0 t1 S → gSh S S0 → gS D Y ad A s.heap S H locs → lv_has ls 2 [(0, .ref (ad k0)), (1, .int x1)] → W p l e (rmD 2) s m args below meth c H locs 0 0 (MQ below (gE D Y za ad S0 s.heap.size (fun r S9 => ∃ x, r = some (vI x) ∧ Q x S9)) args s 0 0 A) (F0 m 15 ls [.int t1, .ref (ad t0)]) := by
    intro  x1 t0 t1 S H locs ls h hsh hG hl
    unfold wX9_count_15 at h
    obtain ⟨hk1, hq2, h⟩ := h
    refine r_put (ci := 9) (C := RX9) (T := TX9) (N := 36) hx hb hts hin9 tyX9 tyX9_ok nmX9 hown hK hG hk1 (cell_9 hq2) rfl 32 (by decide) lk_84 (fun _ h9 => h9) rfl rfl rfl (Nat.le_of_ble_eq_true rfl) (S' := sX S t0 32 t1) rfl (pu_9_32 hq2 t1) dX9_count_15 (fun H locs hG => ?_)
    obtain ⟨S3, eS_S3⟩ : ∃ z : GS, z = sX S t0 32 t1 := ⟨_, rfl⟩
    have h := h S3 eS_S3
    rw [← eS_S3] at hG
    have hs_S3 : gSh S3 S := by rw [eS_S3]; exact gSh.x _ _ _ _
    have hsh := hs_S3.tr hsh
    have hk4 := hs_S3.lt hk1
    have hq5 := hs_S3.kd hq2
    refine lv_iload_n hx hb dX9_count_18 rfl (lv_at hl 1 rfl) ?_
    by_cases q_19_0 : x1 = 0
    · have h := h.1 q_19_0
      refine lv_tableIn (tgt := 76) hx hb dX9_count_19 (by rw [q_19_0]; decide) (by rw [q_19_0]; decide) (by rw [q_19_0]; rfl) (by decide) ?_
      refine lv_aload_n hx hb dX9_count_76 rfl (lv_at hl 0 rfl) ?_
      obtain ⟨hk6, hq7, h⟩ := h
      refine g_get (ci := 9) (C := RX9) (T := TX9) (N := 36) hx hb hts hin9 hown hK hG hk6 (cell_9 hq7) rfl 19 (by decide) lk_175 (fun _ h9 => h9) (v := .int (gX S3 k0 19)) rfl dX9_count_77 ?_
      exact W.iret (v := gX S3 k0 19) hx hb hr (fun t ht hW => r_end (r := some (vI (gX S3 k0 19))) hAe hG hsh ⟨_, rfl, h⟩ rfl ht) hG.2.2.2.2 dX9_count_80
    by_cases q_19_1 : x1 = 1
    · have h := h.2.1 q_19_1
      refine lv_tableIn (tgt := 81) hx hb dX9_count_19 (by rw [q_19_1]; decide) (by rw [q_19_1]; decide) (by rw [q_19_1]; rfl) (by decide) ?_
      refine lv_aload_n hx hb dX9_count_81 rfl (lv_at hl 0 rfl) ?_
      obtain ⟨hk8, hq9, h⟩ := h
      refine g_get (ci := 9) (C := RX9) (T := TX9) (N := 36) hx hb hts hin9 hown hK hG hk8 (cell_9 hq9) rfl 25 (by decide) lk_205 (fun _ h9 => h9) (v := .int (gX S3 k0 25)) rfl dX9_count_82 ?_
      exact W.iret (v := gX S3 k0 25) hx hb hr (fun t ht hW => r_end (r := some (vI (gX S3 k0 25))) hAe hG hsh ⟨_, rfl, h⟩ rfl ht) hG.2.2.2.2 dX9_count_85
    by_cases q_19_2 : x1 = 2
    · have h := h.2.2.1 q_19_2
      refine lv_tableIn (tgt := 86) hx hb dX9_count_19 (by rw [q_19_2]; decide) (by rw [q_19_2]; decide) (by rw [q_19_2]; rfl) (by decide) ?_
      refine lv_aload_n hx hb dX9_count_86 rfl (lv_at hl 0 rfl) ?_
      obtain ⟨hk10, hq11, h⟩ := h
      refine g_get (ci := 9) (C := RX9) (T := TX9) (N := 36) hx hb hts hin9 hown hK hG hk10 (cell_9 hq11) rfl 29 (by decide) lk_208 (fun _ h9 => h9) (v := .int (gX S3 k0 29)) rfl dX9_count_87 ?_
      exact W.iret (v := gX S3 k0 29) hx hb hr (fun t ht hW => r_end (r := some (vI (gX S3 k0 29))) hAe hG hsh ⟨_, rfl, h⟩ rfl ht) hG.2.2.2.2 dX9_count_90
    by_cases q_19_3 : x1 = 3
    · have h := h.2.2.2.1 q_19_3
      refine lv_tableIn (tgt := 91) hx hb dX9_count_19 (by rw [q_19_3]; decide) (by rw [q_19_3]; decide) (by rw [q_19_3]; rfl) (by decide) ?_
      refine lv_aload_n hx hb dX9_count_91 rfl (lv_at hl 0 rfl) ?_
      refine lv_iconst (v := 1) hx hb dX9_count_92 (by decide) ?_
      obtain ⟨hk12, hq13, h⟩ := h
      refine r_callV (za := za) (k := k0) (ci := 9) (C := RX9) (T := TX9) (N := 36) (As := [vI 1]) (rest := []) (tX9_owned l S3 k0 1 _ h) ⟨hx, hb, hml, hown, hts⟩ (cwV 1 hts gX9_count_X9_owned rfl rfl rfl (by decide +kernel) ⟨by decide, by decide⟩) hK hG hA hk12 (cell_9 hq13) rfl rfl hl.1 rfl (Nat.le_of_ble_eq_true rfl) ⟨Nat.le_refl _, Nat.le_refl _⟩ dX9_count_93 (fun r_9 S14 H locs hp hs_S14 hG => ?_)
      obtain ⟨u15, rfl, h⟩ := hp
      have h := h hs_S14
      refine W.eq (g2 := F0 m 96 ls [.int u15]) rfl ?_
      have hsh := hs_S14.tr hsh
      have hk16 := hs_S14.lt hk4
      have hq17 := hs_S14.kd hq5
      have hk18 := hs_S14.lt hk12
      have hq19 := hs_S14.kd hq13
      exact W.iret (v := u15) hx hb hr (fun t ht hW => r_end (r := some (vI u15)) hAe hG hsh ⟨_, rfl, h⟩ rfl ht) hG.2.2.2.2 dX9_count_96
    by_cases q_19_4 : x1 = 4
    · have h := h.2.2.2.2.1 q_19_4
      refine lv_tableIn (tgt := 97) hx hb dX9_count_19 (by rw [q_19_4]; decide) (by rw [q_19_4]; decide) (by rw [q_19_4]; rfl) (by decide) ?_
      refine lv_aload_n hx hb dX9_count_97 rfl (lv_at hl 0 rfl) ?_
      refine lv_iconst (v := 2) hx hb dX9_count_98 (by decide) ?_
      obtain ⟨hk20, hq21, h⟩ := h
      refine r_callV (za := za) (k := k0) (ci := 9) (C := RX9) (T := TX9) (N := 36) (As := [vI 2]) (rest := []) (tX9_owned l S3 k0 2 _ h) ⟨hx, hb, hml, hown, hts⟩ (cwV 1 hts gX9_count_X9_owned rfl rfl rfl (by decide +kernel) ⟨by decide, by decide⟩) hK hG hA hk20 (cell_9 hq21) rfl rfl hl.1 rfl (Nat.le_of_ble_eq_true rfl) ⟨Nat.le_refl _, Nat.le_refl _⟩ dX9_count_99 (fun r_9 S22 H locs hp hs_S22 hG => ?_)
      obtain ⟨u23, rfl, h⟩ := hp
      have h := h hs_S22
      refine W.eq (g2 := F0 m 102 ls [.int u23]) rfl ?_
      have hsh := hs_S22.tr hsh
      have hk24 := hs_S22.lt hk4
      have hq25 := hs_S22.kd hq5
      have hk26 := hs_S22.lt hk20
      have hq27 := hs_S22.kd hq21
      exact W.iret (v := u23) hx hb hr (fun t ht hW => r_end (r := some (vI u23)) hAe hG hsh ⟨_, rfl, h⟩ rfl ht) hG.2.2.2.2 dX9_count_102
    by_cases q_19_5 : x1 = 5
    · have h := h.2.2.2.2.2.1 q_19_5
      refine lv_tableIn (tgt := 103) hx hb dX9_count_19 (by rw [q_19_5]; decide) (by rw [q_19_5]; decide) (by rw [q_19_5]; rfl) (by decide) ?_
      refine lv_aload_n hx hb dX9_count_103 rfl (lv_at hl 0 rfl) ?_
      refine lv_iconst (v := 0) hx hb dX9_count_104 (by decide) ?_
      obtain ⟨hk28, hq29, h⟩ := h
      refine r_callV (za := za) (k := k0) (ci := 9) (C := RX9) (T := TX9) (N := 36) (As := [vI 0]) (rest := []) (tX9_owned l S3 k0 0 _ h) ⟨hx, hb, hml, hown, hts⟩ (cwV 1 hts gX9_count_X9_owned rfl rfl rfl (by decide +kernel) ⟨by decide, by decide⟩) hK hG hA hk28 (cell_9 hq29) rfl rfl hl.1 rfl (Nat.le_of_ble_eq_true rfl) ⟨Nat.le_refl _, Nat.le_refl _⟩ dX9_count_105 (fun r_9 S30 H locs hp hs_S30 hG => ?_)
      obtain ⟨u31, rfl, h⟩ := hp
      have h := h hs_S30
      refine W.eq (g2 := F0 m 108 ls [.int u31]) rfl ?_
      have hsh := hs_S30.tr hsh
      have hk32 := hs_S30.lt hk4
      have hq33 := hs_S30.kd hq5
      have hk34 := hs_S30.lt hk28
      have hq35 := hs_S30.kd hq29
      exact W.iret (v := u31) hx hb hr (fun t ht hW => r_end (r := some (vI u31)) hAe hG hsh ⟨_, rfl, h⟩ rfl ht) hG.2.2.2.2 dX9_count_108
    by_cases q_19_6 : x1 = 6
    · have h := h.2.2.2.2.2.2.1 q_19_6
      refine lv_tableIn (tgt := 109) hx hb dX9_count_19 (by rw [q_19_6]; decide) (by rw [q_19_6]; decide) (by rw [q_19_6]; rfl) (by decide) ?_
      refine lv_aload_n hx hb dX9_count_109 rfl (lv_at hl 0 rfl) ?_
      obtain ⟨hk36, hq37, h⟩ := h
      refine g_get (ci := 9) (C := RX9) (T := TX9) (N := 36) hx hb hts hin9 hown hK hG hk36 (cell_9 hq37) rfl 1 (by decide) lk_143 (fun _ h9 => h9) (v := .int (gX S3 k0 1)) rfl dX9_count_110 ?_
      exact W.iret (v := gX S3 k0 1) hx hb hr (fun t ht hW => r_end (r := some (vI (gX S3 k0 1))) hAe hG hsh ⟨_, rfl, h⟩ rfl ht) hG.2.2.2.2 dX9_count_113
    by_cases q_19_7 : x1 = 7
    · have h := h.2.2.2.2.2.2.2.1 q_19_7
      refine lv_tableIn (tgt := 114) hx hb dX9_count_19 (by rw [q_19_7]; decide) (by rw [q_19_7]; decide) (by rw [q_19_7]; rfl) (by decide) ?_
      refine lv_aload_n hx hb dX9_count_114 rfl (lv_at hl 0 rfl) ?_
      obtain ⟨hk38, hq39, h⟩ := h
      refine r_callV (za := za) (k := k0) (ci := 9) (C := RX9) (T := TX9) (N := 36) (As := []) (rest := []) (tX9_span l S3 k0  _ h) ⟨hx, hb, hml, hown, hts⟩ (cwV 0 hts gX9_count_X9_span rfl rfl rfl (by decide +kernel) ⟨by decide, by decide⟩) hK hG hA hk38 (cell_9 hq39) rfl rfl hl.1 rfl (Nat.le_of_ble_eq_true rfl) ⟨Nat.le_refl _, Nat.le_refl _⟩ dX9_count_115 (fun r_9 S40 H locs hp hs_S40 hG => ?_)
      obtain ⟨u41, rfl, h⟩ := hp
      have h := h hs_S40
      refine W.eq (g2 := F0 m 118 ls [.long u41]) rfl ?_
      have hsh := hs_S40.tr hsh
      have hk42 := hs_S40.lt hk4
      have hq43 := hs_S40.kd hq5
      have hk44 := hs_S40.lt hk38
      have hq45 := hs_S40.kd hq39
      refine lv_l2i hx hb dX9_count_118 rfl ?_
      exact W.iret (v := Int64.toInt32 u41) hx hb hr (fun t ht hW => r_end (r := some (vI (Int64.toInt32 u41))) hAe hG hsh ⟨_, rfl, h⟩ rfl ht) hG.2.2.2.2 dX9_count_119
    by_cases q_19_8 : x1 = 8
    · have h := h.2.2.2.2.2.2.2.2.1 q_19_8
      refine lv_tableIn (tgt := 120) hx hb dX9_count_19 (by rw [q_19_8]; decide) (by rw [q_19_8]; decide) (by rw [q_19_8]; rfl) (by decide) ?_
      refine lv_aload_n hx hb dX9_count_120 rfl (lv_at hl 0 rfl) ?_
      obtain ⟨hk46, hq47, h⟩ := h
      refine r_callV (za := za) (k := k0) (ci := 9) (C := RX9) (T := TX9) (N := 36) (As := []) (rest := []) (tX9_pauses l S3 k0  _ h) ⟨hx, hb, hml, hown, hts⟩ (cwV 0 hts gX9_count_X9_pauses rfl rfl rfl (by decide +kernel) ⟨by decide, by decide⟩) hK hG hA hk46 (cell_9 hq47) rfl rfl hl.1 rfl (Nat.le_of_ble_eq_true rfl) ⟨Nat.le_refl _, Nat.le_refl _⟩ dX9_count_121 (fun r_9 S48 H locs hp hs_S48 hG => ?_)
      obtain ⟨u49, rfl, h⟩ := hp
      have h := h hs_S48
      refine W.eq (g2 := F0 m 124 ls [.int u49]) rfl ?_
      have hsh := hs_S48.tr hsh
      have hk50 := hs_S48.lt hk4
      have hq51 := hs_S48.kd hq5
      have hk52 := hs_S48.lt hk46
      have hq53 := hs_S48.kd hq47
      exact W.iret (v := u49) hx hb hr (fun t ht hW => r_end (r := some (vI u49)) hAe hG hsh ⟨_, rfl, h⟩ rfl ht) hG.2.2.2.2 dX9_count_124
    by_cases q_19_9 : x1 = 9
    · have h := h.2.2.2.2.2.2.2.2.2.1 q_19_9
      refine lv_tableIn (tgt := 125) hx hb dX9_count_19 (by rw [q_19_9]; decide) (by rw [q_19_9]; decide) (by rw [q_19_9]; rfl) (by decide) ?_
      refine lv_aload_n hx hb dX9_count_125 rfl (lv_at hl 0 rfl) ?_
      obtain ⟨hk54, hq55, h⟩ := h
      refine g_get (ci := 9) (C := RX9) (T := TX9) (N := 36) hx hb hts hin9 hown hK hG hk54 (cell_9 hq55) rfl 30 (by decide) lk_77 (fun _ h9 => h9) (v := .int (gX S3 k0 30)) rfl dX9_count_126 ?_
      refine lv_iconst (v := (-1)) hx hb dX9_count_129 (by decide) ?_
      refine lv_icmp_ne (tgt := 137) hx hb dX9_count_130 (by decide) (fun c_130 => ?_) (fun c_130 => ?_)
      · have h := h.1 c_130
        refine lv_aload_n hx hb dX9_count_137 rfl (lv_at hl 0 rfl) ?_
        refine g_get (ci := 9) (C := RX9) (T := TX9) (N := 36) hx hb hts hin9 hown hK hG hk54 (cell_9 hq55) rfl 16 (by decide) lk_47 (fun _ h9 => h9) (v := rv ad (gR S3 k0 16)) rfl dX9_count_138 ?_
        refine lv_aload_n hx hb dX9_count_141 rfl (lv_at hl 0 rfl) ?_
        refine g_get (ci := 9) (C := RX9) (T := TX9) (N := 36) hx hb hts hin9 hown hK hG hk54 (cell_9 hq55) rfl 30 (by decide) lk_77 (fun _ h9 => h9) (v := .int (gX S3 k0 30)) rfl dX9_count_142 ?_
        obtain ⟨q56, e57, h⟩ := h
        refine W.eq (g2 := F0 m 145 ls [.int (gX S3 k0 30), .ref (ad q56)]) (by rw [e57]; rfl) ?_
        obtain ⟨hk58, hq59, h⟩ := h
        obtain ⟨hi60, h⟩ := h
        refine r_iald hx hb hK hG hk58 hq59 hi60 dX9_count_145 ?_
        exact b_146 (gX S3 q56 (Int32.toNatClampNeg (gX S3 k0 30))) S3 H locs ls h hsh hG (lv_sub hl [] rfl)
      · have h := h.2 c_130
        refine lv_iconst (v := (-1)) hx hb dX9_count_133 (by decide) ?_
        refine lv_goto (tgt := 146) hx hb dX9_count_134 (by decide) ?_
        exact b_146 (-1) S3 H locs ls h hsh hG (lv_sub hl [] rfl)
    by_cases q_19_10 : x1 = 10
    · have h := h.2.2.2.2.2.2.2.2.2.2.1 q_19_10
      refine lv_tableIn (tgt := 147) hx hb dX9_count_19 (by rw [q_19_10]; decide) (by rw [q_19_10]; decide) (by rw [q_19_10]; rfl) (by decide) ?_
      refine lv_aload_n hx hb dX9_count_147 rfl (lv_at hl 0 rfl) ?_
      obtain ⟨hk61, hq62, h⟩ := h
      refine g_get (ci := 9) (C := RX9) (T := TX9) (N := 36) hx hb hts hin9 hown hK hG hk61 (cell_9 hq62) rfl 31 (by decide) lk_81 (fun _ h9 => h9) (v := .int (gX S3 k0 31)) rfl dX9_count_148 ?_
      refine lv_iconst (v := (-1)) hx hb dX9_count_151 (by decide) ?_
      refine lv_icmp_ne (tgt := 159) hx hb dX9_count_152 (by decide) (fun c_152 => ?_) (fun c_152 => ?_)
      · have h := h.1 c_152
        refine lv_aload_n hx hb dX9_count_159 rfl (lv_at hl 0 rfl) ?_
        refine g_get (ci := 9) (C := RX9) (T := TX9) (N := 36) hx hb hts hin9 hown hK hG hk61 (cell_9 hq62) rfl 16 (by decide) lk_47 (fun _ h9 => h9) (v := rv ad (gR S3 k0 16)) rfl dX9_count_160 ?_
        refine lv_aload_n hx hb dX9_count_163 rfl (lv_at hl 0 rfl) ?_
        refine g_get (ci := 9) (C := RX9) (T := TX9) (N := 36) hx hb hts hin9 hown hK hG hk61 (cell_9 hq62) rfl 31 (by decide) lk_81 (fun _ h9 => h9) (v := .int (gX S3 k0 31)) rfl dX9_count_164 ?_
        obtain ⟨q63, e64, h⟩ := h
        refine W.eq (g2 := F0 m 167 ls [.int (gX S3 k0 31), .ref (ad q63)]) (by rw [e64]; rfl) ?_
        obtain ⟨hk65, hq66, h⟩ := h
        obtain ⟨hi67, h⟩ := h
        refine r_iald hx hb hK hG hk65 hq66 hi67 dX9_count_167 ?_
        exact b_168 (gX S3 q63 (Int32.toNatClampNeg (gX S3 k0 31))) S3 H locs ls h hsh hG (lv_sub hl [] rfl)
      · have h := h.2 c_152
        refine lv_iconst (v := (-1)) hx hb dX9_count_155 (by decide) ?_
        refine lv_goto (tgt := 168) hx hb dX9_count_156 (by decide) ?_
        exact b_168 (-1) S3 H locs ls h hsh hG (lv_sub hl [] rfl)
    have h := h.2.2.2.2.2.2.2.2.2.2.2 q_19_0 q_19_1 q_19_2 q_19_3 q_19_4 q_19_5 q_19_6 q_19_7 q_19_8 q_19_9 q_19_10
    refine lv_tableOut (tgt := 169) hx hb dX9_count_19 (tab0 (N := 10) (fun k hk => match k, hk with | 0, _ => q_19_0 | 1, _ => q_19_1 | 2, _ => q_19_2 | 3, _ => q_19_3 | 4, _ => q_19_4 | 5, _ => q_19_5 | 6, _ => q_19_6 | 7, _ => q_19_7 | 8, _ => q_19_8 | 9, _ => q_19_9 | 10, _ => q_19_10 | k + 11, hk => absurd hk (by omega)) (by decide)) (by decide) ?_
    refine lv_iconst (v := 0) hx hb dX9_count_169 (by decide) ?_
    exact W.iret (v := 0) hx hb hr (fun t ht hW => r_end (r := some (vI 0)) hAe hG hsh ⟨_, rfl, h⟩ rfl ht) hG.2.2.2.2 dX9_count_170
  have hl : lv_has ls 2 [(0, .ref (ad k0)), (1, .int x1)] := hl
  have hsh : gSh S S0 := by rw [hS0]; exact gSh.rf S
  obtain ⟨H, eH⟩ : ∃ z : Heap, z = s.heap := ⟨_, rfl⟩
  obtain ⟨locs, eL⟩ : ∃ z : List Loc, z = [] := ⟨_, rfl⟩
  have hG : gS D Y ad A s.heap S H locs := by rw [eH, eL]; exact hG
  suffices hgoal : W p l e (rmD 2) s m args below meth c H locs 0 0 (MQ below (gE D Y za ad S0 s.heap.size (fun r S9 => ∃ x, r = some (vI x) ∧ Q x S9)) args s 0 0 A) (F0 m 0 ls []) by rw [eH, eL] at hgoal; exact hgoal
  unfold wX9_count at h
  refine lv_aload_n hx hb dX9_count_0 rfl (lv_at hl 0 rfl) ?_
  refine lv_iload_n hx hb dX9_count_1 rfl (lv_at hl 1 rfl) ?_
  refine lv_bipush (v := 10) hx hb dX9_count_2 (by decide) ?_
  refine r_callS (za := za) (As := [vI x1, vI 10]) (rest := [.ref (ad k0)]) (tX9_tells l S x1 10 _ h) ⟨hx, hb, hml, hown, hts⟩ (cwS 2 hts gX9_count_X9_tells rfl rfl rfl (by decide +kernel) ⟨by decide, by decide⟩) hK hG hA rfl hl.1 rfl (Nat.le_of_ble_eq_true rfl) ⟨Nat.le_refl _, Nat.le_refl _⟩ dX9_count_4 (fun r_9 S68 H locs hp hs_S68 hG => ?_)
  obtain ⟨u69, rfl, h⟩ := hp
  have h := h hs_S68
  refine W.eq (g2 := F0 m 7 ls [.int u69, .ref (ad k0)]) rfl ?_
  have hsh := hs_S68.tr hsh
  refine lv_if_eq (tgt := 14) hx hb dX9_count_7 (by decide) (fun c_7 => ?_) (fun c_7 => ?_)
  · have h := h.1 c_7
    refine lv_iconst (v := 1) hx hb dX9_count_14 (by decide) ?_
    exact b_15 x1 k0 1 S68 H locs ls h hsh hG (lv_sub hl [0, 1] rfl)
  · have h := h.2 c_7
    refine lv_iconst (v := 0) hx hb dX9_count_10 (by decide) ?_
    refine lv_goto (tgt := 15) hx hb dX9_count_11 (by decide) ?_
    exact b_15 x1 k0 0 S68 H locs ls h hsh hG (lv_sub hl [0, 1] rfl)
