def wX8_linesOf_12 (Q : Int32 → GS → Prop) (t0 : Int32) (S : GS) : Prop :=
  Q t0 S
def wX8_linesOf (S : GS) (x0 : Option Nat) (Q : Int32 → GS → Prop) : Prop :=
  (x0 = none → wX8_linesOf_12 Q  0 S) ∧ (∀ q1 : Nat, x0 = some q1 → q1 < gN S ∧ gK S q1 = 2 ∧ wX8_linesOf_12 Q  (gX S q1 14) S)
set_option maxHeartbeats 4000000 in
set_option maxRecDepth 100000 in
theorem tX8_linesOf (l : Launch) (S : GS) (x0 : Option Nat) (Q : Int32 → GS → Prop) (h : wX8_linesOf S x0 Q) : CS l yX8_linesOf wsX8_linesOf 0 S [vR x0] (fun r S9 => ∃ x, r = some (vI x) ∧ Q x S9) := by
  refine CS.ofW (cc := cX8_linesOf) (maxL := 1) (ret := (some .int)) RX8 (by decide) rfl rfl (fun _ _ => by cases x0 <;> exact Nat.le_of_ble_eq_true rfl) ?_
  intro p e s m args below meth c D Y za ad A ls hAe hx hb hr hml hts hown hlocks hK hA hG hl
  obtain ⟨S0, hS0⟩ : ∃ z : GS, z = S := ⟨_, rfl⟩
  rw [← hS0] at hAe
  rw [← hS0]
  have hin2 : ∀ w ∈ wsX20, w ∈ wsX8_linesOf := by decide +kernel
  have lk_169 := hts (.fieldLink RX8 169 "PauseLog$Event" "lines" "I") (by decide +kernel)
  have b_12 : ∀  (t0 : Int32) (S : GS) (H : Heap) (locs : List Loc) (ls : Array Slot), wX8_linesOf_12 Q  t0 S → gSh S S0 → gS D Y ad A s.heap S H locs → lv_has ls 1 [] → W p l e (rmD 0) s m args below meth c H locs 0 0 (MQ below (gE D Y za ad S0 s.heap.size (fun r S9 => ∃ x, r = some (vI x) ∧ Q x S9)) args s 0 0 A) (F0 m 12 ls [.int t0]) := by
    intro  t0 S H locs ls h hsh hG hl
    unfold wX8_linesOf_12 at h
    exact W.iret (v := t0) hx hb hr (fun t ht hW => r_end (r := some (vI t0)) hAe hG hsh ⟨_, rfl, h⟩ rfl ht) hG.2.2.2.2 dX8_linesOf_12
  have hl : lv_has ls 1 [(0, rv ad x0)] := hl
  have hsh : gSh S S0 := by rw [hS0]; exact gSh.rf S
  obtain ⟨H, eH⟩ : ∃ z : Heap, z = s.heap := ⟨_, rfl⟩
  obtain ⟨locs, eL⟩ : ∃ z : List Loc, z = [] := ⟨_, rfl⟩
  have hG : gS D Y ad A s.heap S H locs := by rw [eH, eL]; exact hG
  suffices hgoal : W p l e (rmD 0) s m args below meth c H locs 0 0 (MQ below (gE D Y za ad S0 s.heap.size (fun r S9 => ∃ x, r = some (vI x) ∧ Q x S9)) args s 0 0 A) (F0 m 0 ls []) by rw [eH, eL] at hgoal; exact hgoal
  unfold wX8_linesOf at h
  refine r_aload_n hx hb dX8_linesOf_0 rfl (lv_at hl 0 rfl) ?_
  cases e2 : x0 with
  | none =>
    have h := h.1 e2
    refine W.eq (g2 := F0 m 1 ls [.null]) (by first | rfl | rw [e2]; rfl) ?_
    refine lv_ifnonnullN hx hb dX8_linesOf_1 ?_
    refine lv_iconst (v := 0) hx hb dX8_linesOf_4 (by decide) ?_
    refine lv_goto (tgt := 12) hx hb dX8_linesOf_5 (by decide) ?_
    exact b_12 0 S H locs ls h hsh hG (lv_sub hl [] rfl)
  | some q1 =>
    have h := h.2 q1 e2
    refine W.eq (g2 := F0 m 1 ls [.ref (ad q1)]) (by first | rfl | rw [e2]; rfl) ?_
    refine lv_ifnonnull (tgt := 8) hx hb dX8_linesOf_1 (by decide) ?_
    refine r_aload_n hx hb dX8_linesOf_8 rfl (lv_at hl 0 rfl) ?_
    refine W.eq (g2 := F0 m 9 ls [.ref (ad q1)]) (by rw [e2]; rfl) ?_
    obtain ⟨hk3, hq4, h⟩ := h
    refine g_get (ci := 2) (C := RX2) (T := TX2) (N := 15) hx hb hts hin2 hown hK hG hk3 (cell_2 hq4) rfl 14 (by decide) lk_169 (fun _ h9 => h9) (v := .int (gX S q1 14)) rfl dX8_linesOf_9 ?_
    exact b_12 (gX S q1 14) S H locs ls h hsh hG (lv_sub hl [] rfl)
def wX8_idOf_12 (Q : Int32 → GS → Prop) (t0 : Int32) (S : GS) : Prop :=
  Q t0 S
def wX8_idOf (S : GS) (x0 : Option Nat) (Q : Int32 → GS → Prop) : Prop :=
  (x0 = none → wX8_idOf_12 Q  (-1) S) ∧ (∀ q1 : Nat, x0 = some q1 → q1 < gN S ∧ gK S q1 = 2 ∧ wX8_idOf_12 Q  (gX S q1 1) S)
set_option maxHeartbeats 4000000 in
set_option maxRecDepth 100000 in
theorem tX8_idOf (l : Launch) (S : GS) (x0 : Option Nat) (Q : Int32 → GS → Prop) (h : wX8_idOf S x0 Q) : CS l yX8_idOf wsX8_idOf 0 S [vR x0] (fun r S9 => ∃ x, r = some (vI x) ∧ Q x S9) := by
  refine CS.ofW (cc := cX8_idOf) (maxL := 1) (ret := (some .int)) RX8 (by decide) rfl rfl (fun _ _ => by cases x0 <;> exact Nat.le_of_ble_eq_true rfl) ?_
  intro p e s m args below meth c D Y za ad A ls hAe hx hb hr hml hts hown hlocks hK hA hG hl
  obtain ⟨S0, hS0⟩ : ∃ z : GS, z = S := ⟨_, rfl⟩
  rw [← hS0] at hAe
  rw [← hS0]
  have hin2 : ∀ w ∈ wsX20, w ∈ wsX8_idOf := by decide +kernel
  have lk_253 := hts (.fieldLink RX8 253 "PauseLog$Event" "id" "I") (by decide +kernel)
  have b_12 : ∀  (t0 : Int32) (S : GS) (H : Heap) (locs : List Loc) (ls : Array Slot), wX8_idOf_12 Q  t0 S → gSh S S0 → gS D Y ad A s.heap S H locs → lv_has ls 1 [] → W p l e (rmD 0) s m args below meth c H locs 0 0 (MQ below (gE D Y za ad S0 s.heap.size (fun r S9 => ∃ x, r = some (vI x) ∧ Q x S9)) args s 0 0 A) (F0 m 12 ls [.int t0]) := by
    intro  t0 S H locs ls h hsh hG hl
    unfold wX8_idOf_12 at h
    exact W.iret (v := t0) hx hb hr (fun t ht hW => r_end (r := some (vI t0)) hAe hG hsh ⟨_, rfl, h⟩ rfl ht) hG.2.2.2.2 dX8_idOf_12
  have hl : lv_has ls 1 [(0, rv ad x0)] := hl
  have hsh : gSh S S0 := by rw [hS0]; exact gSh.rf S
  obtain ⟨H, eH⟩ : ∃ z : Heap, z = s.heap := ⟨_, rfl⟩
  obtain ⟨locs, eL⟩ : ∃ z : List Loc, z = [] := ⟨_, rfl⟩
  have hG : gS D Y ad A s.heap S H locs := by rw [eH, eL]; exact hG
  suffices hgoal : W p l e (rmD 0) s m args below meth c H locs 0 0 (MQ below (gE D Y za ad S0 s.heap.size (fun r S9 => ∃ x, r = some (vI x) ∧ Q x S9)) args s 0 0 A) (F0 m 0 ls []) by rw [eH, eL] at hgoal; exact hgoal
  unfold wX8_idOf at h
  refine r_aload_n hx hb dX8_idOf_0 rfl (lv_at hl 0 rfl) ?_
  cases e2 : x0 with
  | none =>
    have h := h.1 e2
    refine W.eq (g2 := F0 m 1 ls [.null]) (by first | rfl | rw [e2]; rfl) ?_
    refine lv_ifnonnullN hx hb dX8_idOf_1 ?_
    refine lv_iconst (v := (-1)) hx hb dX8_idOf_4 (by decide) ?_
    refine lv_goto (tgt := 12) hx hb dX8_idOf_5 (by decide) ?_
    exact b_12 (-1) S H locs ls h hsh hG (lv_sub hl [] rfl)
  | some q1 =>
    have h := h.2 q1 e2
    refine W.eq (g2 := F0 m 1 ls [.ref (ad q1)]) (by first | rfl | rw [e2]; rfl) ?_
    refine lv_ifnonnull (tgt := 8) hx hb dX8_idOf_1 (by decide) ?_
    refine r_aload_n hx hb dX8_idOf_8 rfl (lv_at hl 0 rfl) ?_
    refine W.eq (g2 := F0 m 9 ls [.ref (ad q1)]) (by rw [e2]; rfl) ?_
    obtain ⟨hk3, hq4, h⟩ := h
    refine g_get (ci := 2) (C := RX2) (T := TX2) (N := 15) hx hb hts hin2 hown hK hG hk3 (cell_2 hq4) rfl 1 (by decide) lk_253 (fun _ h9 => h9) (v := .int (gX S q1 1)) rfl dX8_idOf_9 ?_
    exact b_12 (gX S q1 1) S H locs ls h hsh hG (lv_sub hl [] rfl)
def wX8_truncate (S : GS) (k0 : Nat) (x1 : Option Nat) (Q : Int32 → GS → Prop) : Prop :=
  (x1 = none → Q 0 S) ∧ (∀ q1 : Nat, x1 = some q1 → k0 < gN S ∧ gK S k0 = 8 ∧ q1 < gN S ∧ gK S q1 = 2 ∧ ∃ q7 : Nat, gR S k0 4 = some q7 ∧ q7 < gN S ∧ gK S q7 = 0 ∧ wX0_add S q7 8 (gX S q1 0) 0 (gX S q1 14) (fun S11 => gSh S11 S → ∃ q19 : Nat, x1 = some q19 ∧ q19 < gN S11 ∧ gK S11 q19 = 2 ∧ Q (gX S11 q19 14) S11))
set_option maxHeartbeats 4000000 in
set_option maxRecDepth 100000 in
theorem tX8_truncate (l : Launch) (S : GS) (k0 : Nat) (x1 : Option Nat) (Q : Int32 → GS → Prop) (h : wX8_truncate S k0 x1 Q) : CS l yX8_truncate wsX8_truncate 1 S [vR (some k0), vR x1] (fun r S9 => ∃ x, r = some (vI x) ∧ Q x S9) := by
  refine CS.ofW (cc := cX8_truncate) (maxL := 2) (ret := (some .int)) RX8 (by decide) rfl rfl (fun _ _ => by cases x1 <;> exact Nat.le_of_ble_eq_true rfl) ?_
  intro p e s m args below meth c D Y za ad A ls hAe hx hb hr hml hts hown hlocks hK hA hG hl
  obtain ⟨S0, hS0⟩ : ∃ z : GS, z = S := ⟨_, rfl⟩
  rw [← hS0] at hAe
  rw [← hS0]
  have hin2 : ∀ w ∈ wsX20, w ∈ wsX8_truncate := by decide +kernel
  have hin8 : ∀ w ∈ wsX80, w ∈ wsX8_truncate := by decide +kernel
  have lk_36 := hts (.fieldLink RX8 36 "PauseLog" "diagnostics" "LPauseLog$Diagnostics;") (by decide +kernel)
  have lk_254 := hts (.fieldLink RX8 254 "PauseLog$Event" "firstLine" "I") (by decide +kernel)
  have lk_169 := hts (.fieldLink RX8 169 "PauseLog$Event" "lines" "I") (by decide +kernel)
  have hl : lv_has ls 2 [(0, .ref (ad k0)), (1, rv ad x1)] := hl
  have hsh : gSh S S0 := by rw [hS0]; exact gSh.rf S
  obtain ⟨H, eH⟩ : ∃ z : Heap, z = s.heap := ⟨_, rfl⟩
  obtain ⟨locs, eL⟩ : ∃ z : List Loc, z = [] := ⟨_, rfl⟩
  have hG : gS D Y ad A s.heap S H locs := by rw [eH, eL]; exact hG
  suffices hgoal : W p l e (rmD 1) s m args below meth c H locs 0 0 (MQ below (gE D Y za ad S0 s.heap.size (fun r S9 => ∃ x, r = some (vI x) ∧ Q x S9)) args s 0 0 A) (F0 m 0 ls []) by rw [eH, eL] at hgoal; exact hgoal
  unfold wX8_truncate at h
  refine r_aload_n hx hb dX8_truncate_0 rfl (lv_at hl 1 rfl) ?_
  cases e2 : x1 with
  | none =>
    have h := h.1 e2
    refine W.eq (g2 := F0 m 1 ls [.null]) (by first | rfl | rw [e2]; rfl) ?_
    refine lv_ifnonnullN hx hb dX8_truncate_1 ?_
    refine lv_iconst (v := 0) hx hb dX8_truncate_4 (by decide) ?_
    exact W.iret (v := 0) hx hb hr (fun t ht hW => r_end (r := some (vI 0)) hAe hG hsh ⟨_, rfl, h⟩ rfl ht) hG.2.2.2.2 dX8_truncate_5
  | some q1 =>
    have h := h.2 q1 e2
    refine W.eq (g2 := F0 m 1 ls [.ref (ad q1)]) (by first | rfl | rw [e2]; rfl) ?_
    refine lv_ifnonnull (tgt := 6) hx hb dX8_truncate_1 (by decide) ?_
    refine lv_aload_n hx hb dX8_truncate_6 rfl (lv_at hl 0 rfl) ?_
    obtain ⟨hk3, hq4, h⟩ := h
    refine g_get (ci := 8) (C := RX8) (T := TX8) (N := 12) hx hb hts hin8 hown hK hG hk3 (cell_8 hq4) rfl 4 (by decide) lk_36 (fun _ h9 => h9) (v := rv ad (gR S k0 4)) rfl dX8_truncate_7 ?_
    refine lv_bipush (v := 8) hx hb dX8_truncate_10 (by decide) ?_
    refine r_aload_n hx hb dX8_truncate_12 rfl (lv_at hl 1 rfl) ?_
    refine W.eq (g2 := F0 m 13 ls [.ref (ad q1), .int 8, rv ad (gR S k0 4)]) (by rw [e2]; rfl) ?_
    obtain ⟨hk5, hq6, h⟩ := h
    refine g_get (ci := 2) (C := RX2) (T := TX2) (N := 15) hx hb hts hin2 hown hK hG hk5 (cell_2 hq6) rfl 0 (by decide) lk_254 (fun _ h9 => h9) (v := .int (gX S q1 0)) rfl dX8_truncate_13 ?_
    refine lv_iconst (v := 0) hx hb dX8_truncate_16 (by decide) ?_
    refine r_aload_n hx hb dX8_truncate_17 rfl (lv_at hl 1 rfl) ?_
    refine W.eq (g2 := F0 m 18 ls [.ref (ad q1), .int 0, .int (gX S q1 0), .int 8, rv ad (gR S k0 4)]) (by rw [e2]; rfl) ?_
    refine g_get (ci := 2) (C := RX2) (T := TX2) (N := 15) hx hb hts hin2 hown hK hG hk5 (cell_2 hq6) rfl 14 (by decide) lk_169 (fun _ h9 => h9) (v := .int (gX S q1 14)) rfl dX8_truncate_18 ?_
    obtain ⟨q7, e8, h⟩ := h
    refine W.eq (g2 := F0 m 21 ls [.int (gX S q1 14), .int 0, .int (gX S q1 0), .int 8, .ref (ad q7)]) (by rw [e8]; rfl) ?_
    obtain ⟨hk9, hq10, h⟩ := h
    refine r_callV (za := za) (k := q7) (ci := 0) (C := RX0) (T := TX0) (N := 5) (As := [vI 8, vI (gX S q1 0), vI 0, vI (gX S q1 14)]) (rest := []) (tX0_add l S q7 8 (gX S q1 0) 0 (gX S q1 14) _ h) ⟨hx, hb, hml, hown, hts⟩ (cwV 4 hts gX8_truncate_X0_add rfl rfl rfl (by decide +kernel) ⟨by decide, by decide⟩) hK hG hA hk9 (cell_0 hq10) rfl rfl hl.1 rfl (Nat.le_of_ble_eq_true rfl) ⟨Nat.zero_le _, Nat.zero_le _⟩ dX8_truncate_21 (fun r_9 S11 H locs hp hs_S11 hG => ?_)
    obtain ⟨rfl, h⟩ := hp
    have h := h hs_S11
    refine W.eq (g2 := F0 m 24 ls []) rfl ?_
    have hsh := hs_S11.tr hsh
    have hk13 := hs_S11.lt hk3
    have hq14 := hs_S11.kd hq4
    have hk15 := hs_S11.lt hk5
    have hq16 := hs_S11.kd hq6
    have hk17 := hs_S11.lt hk9
    have hq18 := hs_S11.kd hq10
    refine r_aload_n hx hb dX8_truncate_24 rfl (lv_at hl 1 rfl) ?_
    obtain ⟨q19, e20, h⟩ := h
    refine W.eq (g2 := F0 m 25 ls [.ref (ad q19)]) (by rw [e20]; rfl) ?_
    obtain ⟨hk21, hq22, h⟩ := h
    refine g_get (ci := 2) (C := RX2) (T := TX2) (N := 15) hx hb hts hin2 hown hK hG hk21 (cell_2 hq22) rfl 14 (by decide) lk_169 (fun _ h9 => h9) (v := .int (gX S11 q19 14)) rfl dX8_truncate_25 ?_
    exact W.iret (v := gX S11 q19 14) hx hb hr (fun t ht hW => r_end (r := some (vI (gX S11 q19 14))) hAe hG hsh ⟨_, rfl, h⟩ rfl ht) hG.2.2.2.2 dX8_truncate_28
def wX8_keep (S : GS) (k0 : Nat) (x1 : Nat) (Q : Int32 → GS → Prop) : Prop :=
  k0 < gN S ∧ gK S k0 = 8 ∧ ∃ q3 : Nat, gR S k0 3 = some q3 ∧ q3 < gN S ∧ gK S q3 = 3 ∧ wX3_add S q3 x1 (fun S7 => gSh S7 S → x1 < gN S7 ∧ gK S7 x1 = 2 ∧ ∀ S15 : GS, S15 = sX S7 k0 11 ((gX S7 k0 11) + (gX S7 x1 14)) → Q 1 S15)
set_option maxHeartbeats 4000000 in
set_option maxRecDepth 100000 in
theorem tX8_keep (l : Launch) (S : GS) (k0 : Nat) (x1 : Nat) (Q : Int32 → GS → Prop) (h : wX8_keep S k0 x1 Q) : CS l yX8_keep wsX8_keep 1 S [vR (some k0), vR (some x1)] (fun r S9 => ∃ x, r = some (vI x) ∧ Q x S9) := by
  refine CS.ofW (cc := cX8_keep) (maxL := 2) (ret := (some .int)) RX8 (by decide) rfl rfl (fun _ _ => Nat.le_of_ble_eq_true rfl) ?_
  intro p e s m args below meth c D Y za ad A ls hAe hx hb hr hml hts hown hlocks hK hA hG hl
  obtain ⟨S0, hS0⟩ : ∃ z : GS, z = S := ⟨_, rfl⟩
  rw [← hS0] at hAe
  rw [← hS0]
  have hin2 : ∀ w ∈ wsX20, w ∈ wsX8_keep := by decide +kernel
  have hin8 : ∀ w ∈ wsX80, w ∈ wsX8_keep := by decide +kernel
  have lk_29 := hts (.fieldLink RX8 29 "PauseLog" "events" "LPauseLog$Events;") (by decide +kernel)
  have lk_241 := hts (.fieldLink RX8 241 "PauseLog" "linesOfEvents" "I") (by decide +kernel)
  have lk_169 := hts (.fieldLink RX8 169 "PauseLog$Event" "lines" "I") (by decide +kernel)
  have hl : lv_has ls 2 [(0, .ref (ad k0)), (1, .ref (ad x1))] := hl
  have hsh : gSh S S0 := by rw [hS0]; exact gSh.rf S
  obtain ⟨H, eH⟩ : ∃ z : Heap, z = s.heap := ⟨_, rfl⟩
  obtain ⟨locs, eL⟩ : ∃ z : List Loc, z = [] := ⟨_, rfl⟩
  have hG : gS D Y ad A s.heap S H locs := by rw [eH, eL]; exact hG
  suffices hgoal : W p l e (rmD 1) s m args below meth c H locs 0 0 (MQ below (gE D Y za ad S0 s.heap.size (fun r S9 => ∃ x, r = some (vI x) ∧ Q x S9)) args s 0 0 A) (F0 m 0 ls []) by rw [eH, eL] at hgoal; exact hgoal
  unfold wX8_keep at h
  refine lv_aload_n hx hb dX8_keep_0 rfl (lv_at hl 0 rfl) ?_
  obtain ⟨hk1, hq2, h⟩ := h
  refine g_get (ci := 8) (C := RX8) (T := TX8) (N := 12) hx hb hts hin8 hown hK hG hk1 (cell_8 hq2) rfl 3 (by decide) lk_29 (fun _ h9 => h9) (v := rv ad (gR S k0 3)) rfl dX8_keep_1 ?_
  refine lv_aload_n hx hb dX8_keep_4 rfl (lv_at hl 1 rfl) ?_
  obtain ⟨q3, e4, h⟩ := h
  refine W.eq (g2 := F0 m 5 ls [.ref (ad x1), .ref (ad q3)]) (by rw [e4]; rfl) ?_
  obtain ⟨hk5, hq6, h⟩ := h
  refine r_callV (za := za) (k := q3) (ci := 3) (C := RX3) (T := TX3) (N := 2) (As := [vR (some x1)]) (rest := []) (tX3_add l S q3 x1 _ h) ⟨hx, hb, hml, hown, hts⟩ (cwV 1 hts gX8_keep_X3_add rfl rfl rfl (by decide +kernel) ⟨by decide, by decide⟩) hK hG hA hk5 (cell_3 hq6) rfl rfl hl.1 rfl (Nat.le_of_ble_eq_true rfl) ⟨Nat.zero_le _, Nat.zero_le _⟩ dX8_keep_5 (fun r_9 S7 H locs hp hs_S7 hG => ?_)
  obtain ⟨rfl, h⟩ := hp
  have h := h hs_S7
  refine W.eq (g2 := F0 m 8 ls []) rfl ?_
  have hsh := hs_S7.tr hsh
  have hk9 := hs_S7.lt hk1
  have hq10 := hs_S7.kd hq2
  have hk11 := hs_S7.lt hk5
  have hq12 := hs_S7.kd hq6
  refine lv_aload_n hx hb dX8_keep_8 rfl (lv_at hl 0 rfl) ?_
  refine lv_dup hx hb dX8_keep_9 rfl ?_
  refine g_get (ci := 8) (C := RX8) (T := TX8) (N := 12) hx hb hts hin8 hown hK hG hk9 (cell_8 hq10) rfl 11 (by decide) lk_241 (fun _ h9 => h9) (v := .int (gX S7 k0 11)) rfl dX8_keep_10 ?_
  refine lv_aload_n hx hb dX8_keep_13 rfl (lv_at hl 1 rfl) ?_
  obtain ⟨hk13, hq14, h⟩ := h
  refine g_get (ci := 2) (C := RX2) (T := TX2) (N := 15) hx hb hts hin2 hown hK hG hk13 (cell_2 hq14) rfl 14 (by decide) lk_169 (fun _ h9 => h9) (v := .int (gX S7 x1 14)) rfl dX8_keep_14 ?_
  refine lv_iadd hx hb dX8_keep_17 ?_
  refine r_put (ci := 8) (C := RX8) (T := TX8) (N := 12) hx hb hts hin8 tyX8 tyX8_ok nmX8 hown hK hG hk9 (cell_8 hq10) rfl 11 (by decide) lk_241 (fun _ h9 => h9) rfl rfl rfl (Nat.le_of_ble_eq_true rfl) (S' := sX S7 k0 11 ((gX S7 k0 11) + (gX S7 x1 14))) rfl (pu_8_11 hq10 ((gX S7 k0 11) + (gX S7 x1 14))) dX8_keep_18 (fun H locs hG => ?_)
  obtain ⟨S15, eS_S15⟩ : ∃ z : GS, z = sX S7 k0 11 ((gX S7 k0 11) + (gX S7 x1 14)) := ⟨_, rfl⟩
  have h := h S15 eS_S15
  rw [← eS_S15] at hG
  have hs_S15 : gSh S15 S7 := by rw [eS_S15]; exact gSh.x _ _ _ _
  have hsh := hs_S15.tr hsh
  have hk16 := hs_S15.lt hk9
  have hq17 := hs_S15.kd hq10
  have hk18 := hs_S15.lt hk11
  have hq19 := hs_S15.kd hq12
  have hk20 := hs_S15.lt hk13
  have hq21 := hs_S15.kd hq14
  refine lv_iconst (v := 1) hx hb dX8_keep_21 (by decide) ?_
  exact W.iret (v := 1) hx hb hr (fun t ht hW => r_end (r := some (vI 1)) hAe hG hsh ⟨_, rfl, h⟩ rfl ht) hG.2.2.2.2 dX8_keep_22
def wX8_addPart_20 (Q : Int32 → GS → Prop) (k0 : Nat)  (S : GS) : Prop :=
  Q (-5) S
def wX8_addPart_37 (Q : Int32 → GS → Prop) (k0 : Nat) (t0 : Int32) (S : GS) : Prop :=
  Q t0 S
def wX8_addPart (S : GS) (k0 : Nat) (x1 : Nat) (Q : Int32 → GS → Prop) : Prop :=
  k0 < gN S ∧ gK S k0 = 8 ∧ (gR S k0 7 = none → wX8_addPart_20 Q k0  S) ∧ (∀ q3 : Nat, gR S k0 7 = some q3 → q3 < gN S ∧ gK S q3 = 2 ∧ x1 < gN S ∧ gK S x1 = 1 ∧ ((gX S q3 1) = (gX S x1 3) → wX2_addPart S q3 x1 (fun u10 S9 => gSh S9 S → (u10 = 0 → wX8_addPart_37 Q k0 (-6) S9) ∧ (¬ u10 = 0 → wX8_addPart_37 Q k0 0 S9))) ∧ (¬ (gX S q3 1) = (gX S x1 3) → wX8_addPart_20 Q k0  S))
set_option maxHeartbeats 4000000 in
set_option maxRecDepth 100000 in
theorem tX8_addPart (l : Launch) (S : GS) (k0 : Nat) (x1 : Nat) (Q : Int32 → GS → Prop) (h : wX8_addPart S k0 x1 Q) : CS l yX8_addPart wsX8_addPart 1 S [vR (some k0), vR (some x1)] (fun r S9 => ∃ x, r = some (vI x) ∧ Q x S9) := by
  refine CS.ofW (cc := cX8_addPart) (maxL := 3) (ret := (some .int)) RX8 (by decide) rfl rfl (fun _ _ => Nat.le_of_ble_eq_true rfl) ?_
  intro p e s m args below meth c D Y za ad A ls hAe hx hb hr hml hts hown hlocks hK hA hG hl
  obtain ⟨S0, hS0⟩ : ∃ z : GS, z = S := ⟨_, rfl⟩
  rw [← hS0] at hAe
  rw [← hS0]
  have hin1 : ∀ w ∈ wsX10, w ∈ wsX8_addPart := by decide +kernel
  have hin2 : ∀ w ∈ wsX20, w ∈ wsX8_addPart := by decide +kernel
  have hin8 : ∀ w ∈ wsX80, w ∈ wsX8_addPart := by decide +kernel
  have lk_140 := hts (.fieldLink RX8 140 "PauseLog" "openPause" "LPauseLog$Event;") (by decide +kernel)
  have lk_253 := hts (.fieldLink RX8 253 "PauseLog$Event" "id" "I") (by decide +kernel)
  have lk_79 := hts (.fieldLink RX8 79 "PauseLog$Entry" "id" "I") (by decide +kernel)
  have b_20 : ∀   (S : GS) (H : Heap) (locs : List Loc) (ls : Array Slot), wX8_addPart_20 Q k0  S → gSh S S0 → gS D Y ad A s.heap S H locs → lv_has ls 3 [] → W p l e (rmD 1) s m args below meth c H locs 0 0 (MQ below (gE D Y za ad S0 s.heap.size (fun r S9 => ∃ x, r = some (vI x) ∧ Q x S9)) args s 0 0 A) (F0 m 20 ls []) := by
    intro   S H locs ls h hsh hG hl
    unfold wX8_addPart_20 at h
    refine lv_bipush (v := (-5)) hx hb dX8_addPart_20 (by decide) ?_
    exact W.iret (v := (-5)) hx hb hr (fun t ht hW => r_end (r := some (vI (-5))) hAe hG hsh ⟨_, rfl, h⟩ rfl ht) hG.2.2.2.2 dX8_addPart_22
  have b_37 : ∀  (t0 : Int32) (S : GS) (H : Heap) (locs : List Loc) (ls : Array Slot), wX8_addPart_37 Q k0 t0 S → gSh S S0 → gS D Y ad A s.heap S H locs → lv_has ls 3 [] → W p l e (rmD 1) s m args below meth c H locs 0 0 (MQ below (gE D Y za ad S0 s.heap.size (fun r S9 => ∃ x, r = some (vI x) ∧ Q x S9)) args s 0 0 A) (F0 m 37 ls [.int t0]) := by
    intro  t0 S H locs ls h hsh hG hl
    unfold wX8_addPart_37 at h
    exact W.iret (v := t0) hx hb hr (fun t ht hW => r_end (r := some (vI t0)) hAe hG hsh ⟨_, rfl, h⟩ rfl ht) hG.2.2.2.2 dX8_addPart_37
  have hl : lv_has ls 3 [(0, .ref (ad k0)), (1, .ref (ad x1))] := hl
  have hsh : gSh S S0 := by rw [hS0]; exact gSh.rf S
  obtain ⟨H, eH⟩ : ∃ z : Heap, z = s.heap := ⟨_, rfl⟩
  obtain ⟨locs, eL⟩ : ∃ z : List Loc, z = [] := ⟨_, rfl⟩
  have hG : gS D Y ad A s.heap S H locs := by rw [eH, eL]; exact hG
  suffices hgoal : W p l e (rmD 1) s m args below meth c H locs 0 0 (MQ below (gE D Y za ad S0 s.heap.size (fun r S9 => ∃ x, r = some (vI x) ∧ Q x S9)) args s 0 0 A) (F0 m 0 ls []) by rw [eH, eL] at hgoal; exact hgoal
  unfold wX8_addPart at h
  refine lv_aload_n hx hb dX8_addPart_0 rfl (lv_at hl 0 rfl) ?_
  obtain ⟨hk1, hq2, h⟩ := h
  refine g_get (ci := 8) (C := RX8) (T := TX8) (N := 12) hx hb hts hin8 hown hK hG hk1 (cell_8 hq2) rfl 7 (by decide) lk_140 (fun _ h9 => h9) (v := rv ad (gR S k0 7)) rfl dX8_addPart_1 ?_
  refine r_astore_n (lv' := [(2, rv ad (gR S k0 7)), (0, .ref (ad k0)), (1, .ref (ad x1))]) hx hb dX8_addPart_4 rfl hl (by decide) rfl (fun ls hl => ?_)
  refine r_aload_n hx hb dX8_addPart_5 rfl (lv_at hl 0 rfl) ?_
  cases e4 : gR S k0 7 with
  | none =>
    have h := h.1 e4
    refine W.eq (g2 := F0 m 6 ls [.null]) (by first | rfl | rw [e4]; rfl) ?_
    refine lv_ifnullN (tgt := 20) hx hb dX8_addPart_6 (by decide) ?_
    exact b_20  S H locs ls h hsh hG (lv_sub hl [] rfl)
  | some q3 =>
    have h := h.2 q3 e4
    refine W.eq (g2 := F0 m 6 ls [.ref (ad q3)]) (by first | rfl | rw [e4]; rfl) ?_
    refine lv_ifnull hx hb dX8_addPart_6 ?_
    refine r_aload_n hx hb dX8_addPart_9 rfl (lv_at hl 0 rfl) ?_
    refine W.eq (g2 := F0 m 10 ls [.ref (ad q3)]) (by rw [e4]; rfl) ?_
    obtain ⟨hk5, hq6, h⟩ := h
    refine g_get (ci := 2) (C := RX2) (T := TX2) (N := 15) hx hb hts hin2 hown hK hG hk5 (cell_2 hq6) rfl 1 (by decide) lk_253 (fun _ h9 => h9) (v := .int (gX S q3 1)) rfl dX8_addPart_10 ?_
    refine lv_aload_n hx hb dX8_addPart_13 rfl (lv_at hl 2 rfl) ?_
    obtain ⟨hk7, hq8, h⟩ := h
    refine g_get (ci := 1) (C := RX1) (T := TX1) (N := 9) hx hb hts hin1 hown hK hG hk7 (cell_1 hq8) rfl 3 (by decide) lk_79 (fun _ h9 => h9) (v := .int (gX S x1 3)) rfl dX8_addPart_14 ?_
    refine lv_icmp_eq (tgt := 23) hx hb dX8_addPart_17 (by decide) (fun c_17 => ?_) (fun c_17 => ?_)
    · have h := h.1 c_17
      refine r_aload_n hx hb dX8_addPart_23 rfl (lv_at hl 0 rfl) ?_
      refine lv_aload_n hx hb dX8_addPart_24 rfl (lv_at hl 2 rfl) ?_
      refine W.eq (g2 := F0 m 25 ls [.ref (ad x1), .ref (ad q3)]) (by rw [e4]; rfl) ?_
      refine r_callV (za := za) (k := q3) (ci := 2) (C := RX2) (T := TX2) (N := 15) (As := [vR (some x1)]) (rest := []) (tX2_addPart l S q3 x1 _ h) ⟨hx, hb, hml, hown, hts⟩ (cwV 1 hts gX8_addPart_X2_addPart rfl rfl rfl (by decide +kernel) ⟨by decide, by decide⟩) hK hG hA hk5 (cell_2 hq6) rfl rfl hl.1 rfl (Nat.le_of_ble_eq_true rfl) ⟨Nat.zero_le _, Nat.zero_le _⟩ dX8_addPart_25 (fun r_9 S9 H locs hp hs_S9 hG => ?_)
      obtain ⟨u10, rfl, h⟩ := hp
      have h := h hs_S9
      refine W.eq (g2 := F0 m 28 ls [.int u10]) rfl ?_
      have hsh := hs_S9.tr hsh
      have hk11 := hs_S9.lt hk1
      have hq12 := hs_S9.kd hq2
      have hk13 := hs_S9.lt hk5
      have hq14 := hs_S9.kd hq6
      have hk15 := hs_S9.lt hk7
      have hq16 := hs_S9.kd hq8
      refine lv_if_eq (tgt := 35) hx hb dX8_addPart_28 (by decide) (fun c_28 => ?_) (fun c_28 => ?_)
      · have h := h.1 c_28
        refine lv_bipush (v := (-6)) hx hb dX8_addPart_35 (by decide) ?_
        exact b_37 (-6) S9 H locs ls h hsh hG (lv_sub hl [] rfl)
      · have h := h.2 c_28
        refine lv_iconst (v := 0) hx hb dX8_addPart_31 (by decide) ?_
        refine lv_goto (tgt := 37) hx hb dX8_addPart_32 (by decide) ?_
        exact b_37 0 S9 H locs ls h hsh hG (lv_sub hl [] rfl)
    · have h := h.2 c_17
      exact b_20  S H locs ls h hsh hG (lv_sub hl [] rfl)
def wX8_endPause_20 (Q : Int32 → GS → Prop) (k0 : Nat)  (S : GS) : Prop :=
  Q (-5) S
def wX8_endPause_47 (Q : Int32 → GS → Prop) (k0 : Nat)  (S : GS) : Prop :=
  Q (-6) S
def wX8_endPause (S : GS) (k0 : Nat) (x1 : Nat) (Q : Int32 → GS → Prop) : Prop :=
  k0 < gN S ∧ gK S k0 = 8 ∧ (gR S k0 7 = none → wX8_endPause_20 Q k0  S) ∧ (∀ q3 : Nat, gR S k0 7 = some q3 → q3 < gN S ∧ gK S q3 = 2 ∧ x1 < gN S ∧ gK S x1 = 1 ∧ ((gX S q3 1) = (gX S x1 3) → wX2_isAnotherPauseThan S q3 x1 (fun u10 S9 => gSh S9 S → (¬ u10 = 0 → wX8_endPause_47 Q k0  S9) ∧ (u10 = 0 → ∃ q17 : Nat, gR S k0 7 = some q17 ∧ q17 < gN S9 ∧ gK S9 q17 = 2 ∧ wX2_hasNoRoomIn S9 q17 x1 (fun u22 S21 => gSh S21 S9 → (¬ u22 = 0 → wX8_endPause_47 Q k0  S21) ∧ (u22 = 0 → ∃ q31 : Nat, gR S k0 7 = some q31 ∧ q31 < gN S21 ∧ gK S21 q31 = 2 ∧ wX2_isTooShortFor S21 q31 x1 (fun u36 S35 => gSh S35 S21 → (u36 = 0 → ∃ q47 : Nat, gR S35 k0 3 = some q47 ∧ q47 < gN S35 ∧ gK S35 q47 = 3 ∧ wX3_isFull S35 q47  (fun u52 S51 => gSh S51 S35 → (u52 = 0 → ∃ q65 : Nat, gR S k0 7 = some q65 ∧ q65 < gN S51 ∧ gK S51 q65 = 2 ∧ wX2_endAsPause S51 q65 x1 (fun S69 => gSh S69 S51 → ∀ S85 : GS, S85 = sR S69 k0 7 none → ∃ q100 : Nat, gR S k0 7 = some q100 ∧ ∃ q102 : Nat, gR S85 k0 6 = some q102 ∧ q102 < gN S85 ∧ gK S85 q102 = 5 ∧ wX5_addPause S85 q102 q100 (fun S106 => gSh S106 S85 → ∃ q124 : Nat, gR S k0 7 = some q124 ∧ wX8_keep S106 k0 q124 (fun u127 S126 => gSh S126 S106 → Q u127 S126)))) ∧ (¬ u52 = 0 → Q (-7) S51))) ∧ (¬ u36 = 0 → wX8_endPause_47 Q k0  S35))))))) ∧ (¬ (gX S q3 1) = (gX S x1 3) → wX8_endPause_20 Q k0  S))
set_option maxHeartbeats 4000000 in
set_option maxRecDepth 100000 in
theorem tX8_endPause (l : Launch) (S : GS) (k0 : Nat) (x1 : Nat) (Q : Int32 → GS → Prop) (h : wX8_endPause S k0 x1 Q) : CS l yX8_endPause wsX8_endPause 2 S [vR (some k0), vR (some x1)] (fun r S9 => ∃ x, r = some (vI x) ∧ Q x S9) := by
  refine CS.ofW (cc := cX8_endPause) (maxL := 3) (ret := (some .int)) RX8 (by decide) rfl rfl (fun _ _ => Nat.le_of_ble_eq_true rfl) ?_
  intro p e s m args below meth c D Y za ad A ls hAe hx hb hr hml hts hown hlocks hK hA hG hl
  obtain ⟨S0, hS0⟩ : ∃ z : GS, z = S := ⟨_, rfl⟩
  rw [← hS0] at hAe
  rw [← hS0]
  have hin1 : ∀ w ∈ wsX10, w ∈ wsX8_endPause := by decide +kernel
  have hin2 : ∀ w ∈ wsX20, w ∈ wsX8_endPause := by decide +kernel
  have hin8 : ∀ w ∈ wsX80, w ∈ wsX8_endPause := by decide +kernel
  have lk_140 := hts (.fieldLink RX8 140 "PauseLog" "openPause" "LPauseLog$Event;") (by decide +kernel)
  have lk_253 := hts (.fieldLink RX8 253 "PauseLog$Event" "id" "I") (by decide +kernel)
  have lk_79 := hts (.fieldLink RX8 79 "PauseLog$Entry" "id" "I") (by decide +kernel)
  have lk_29 := hts (.fieldLink RX8 29 "PauseLog" "events" "LPauseLog$Events;") (by decide +kernel)
  have lk_50 := hts (.fieldLink RX8 50 "PauseLog" "sums" "LPauseLog$Sums;") (by decide +kernel)
  have b_20 : ∀   (S : GS) (H : Heap) (locs : List Loc) (ls : Array Slot), wX8_endPause_20 Q k0  S → gSh S S0 → gS D Y ad A s.heap S H locs → lv_has ls 3 [] → W p l e (rmD 2) s m args below meth c H locs 0 0 (MQ below (gE D Y za ad S0 s.heap.size (fun r S9 => ∃ x, r = some (vI x) ∧ Q x S9)) args s 0 0 A) (F0 m 20 ls []) := by
    intro   S H locs ls h hsh hG hl
    unfold wX8_endPause_20 at h
    refine lv_bipush (v := (-5)) hx hb dX8_endPause_20 (by decide) ?_
    exact W.iret (v := (-5)) hx hb hr (fun t ht hW => r_end (r := some (vI (-5))) hAe hG hsh ⟨_, rfl, h⟩ rfl ht) hG.2.2.2.2 dX8_endPause_22
  have b_47 : ∀   (S : GS) (H : Heap) (locs : List Loc) (ls : Array Slot), wX8_endPause_47 Q k0  S → gSh S S0 → gS D Y ad A s.heap S H locs → lv_has ls 3 [] → W p l e (rmD 2) s m args below meth c H locs 0 0 (MQ below (gE D Y za ad S0 s.heap.size (fun r S9 => ∃ x, r = some (vI x) ∧ Q x S9)) args s 0 0 A) (F0 m 47 ls []) := by
    intro   S H locs ls h hsh hG hl
    unfold wX8_endPause_47 at h
    refine lv_bipush (v := (-6)) hx hb dX8_endPause_47 (by decide) ?_
    exact W.iret (v := (-6)) hx hb hr (fun t ht hW => r_end (r := some (vI (-6))) hAe hG hsh ⟨_, rfl, h⟩ rfl ht) hG.2.2.2.2 dX8_endPause_49
  have hl : lv_has ls 3 [(0, .ref (ad k0)), (1, .ref (ad x1))] := hl
  have hsh : gSh S S0 := by rw [hS0]; exact gSh.rf S
  obtain ⟨H, eH⟩ : ∃ z : Heap, z = s.heap := ⟨_, rfl⟩
  obtain ⟨locs, eL⟩ : ∃ z : List Loc, z = [] := ⟨_, rfl⟩
  have hG : gS D Y ad A s.heap S H locs := by rw [eH, eL]; exact hG
  suffices hgoal : W p l e (rmD 2) s m args below meth c H locs 0 0 (MQ below (gE D Y za ad S0 s.heap.size (fun r S9 => ∃ x, r = some (vI x) ∧ Q x S9)) args s 0 0 A) (F0 m 0 ls []) by rw [eH, eL] at hgoal; exact hgoal
  unfold wX8_endPause at h
  refine lv_aload_n hx hb dX8_endPause_0 rfl (lv_at hl 0 rfl) ?_
  obtain ⟨hk1, hq2, h⟩ := h
  refine g_get (ci := 8) (C := RX8) (T := TX8) (N := 12) hx hb hts hin8 hown hK hG hk1 (cell_8 hq2) rfl 7 (by decide) lk_140 (fun _ h9 => h9) (v := rv ad (gR S k0 7)) rfl dX8_endPause_1 ?_
  refine r_astore_n (lv' := [(2, rv ad (gR S k0 7)), (0, .ref (ad k0)), (1, .ref (ad x1))]) hx hb dX8_endPause_4 rfl hl (by decide) rfl (fun ls hl => ?_)
  refine r_aload_n hx hb dX8_endPause_5 rfl (lv_at hl 0 rfl) ?_
  cases e4 : gR S k0 7 with
  | none =>
    have h := h.1 e4
    refine W.eq (g2 := F0 m 6 ls [.null]) (by first | rfl | rw [e4]; rfl) ?_
    refine lv_ifnullN (tgt := 20) hx hb dX8_endPause_6 (by decide) ?_
    exact b_20  S H locs ls h hsh hG (lv_sub hl [] rfl)
  | some q3 =>
    have h := h.2 q3 e4
    refine W.eq (g2 := F0 m 6 ls [.ref (ad q3)]) (by first | rfl | rw [e4]; rfl) ?_
    refine lv_ifnull hx hb dX8_endPause_6 ?_
    refine r_aload_n hx hb dX8_endPause_9 rfl (lv_at hl 0 rfl) ?_
    refine W.eq (g2 := F0 m 10 ls [.ref (ad q3)]) (by rw [e4]; rfl) ?_
    obtain ⟨hk5, hq6, h⟩ := h
    refine g_get (ci := 2) (C := RX2) (T := TX2) (N := 15) hx hb hts hin2 hown hK hG hk5 (cell_2 hq6) rfl 1 (by decide) lk_253 (fun _ h9 => h9) (v := .int (gX S q3 1)) rfl dX8_endPause_10 ?_
    refine lv_aload_n hx hb dX8_endPause_13 rfl (lv_at hl 2 rfl) ?_
    obtain ⟨hk7, hq8, h⟩ := h
    refine g_get (ci := 1) (C := RX1) (T := TX1) (N := 9) hx hb hts hin1 hown hK hG hk7 (cell_1 hq8) rfl 3 (by decide) lk_79 (fun _ h9 => h9) (v := .int (gX S x1 3)) rfl dX8_endPause_14 ?_
    refine lv_icmp_eq (tgt := 23) hx hb dX8_endPause_17 (by decide) (fun c_17 => ?_) (fun c_17 => ?_)
    · have h := h.1 c_17
      refine r_aload_n hx hb dX8_endPause_23 rfl (lv_at hl 0 rfl) ?_
      refine lv_aload_n hx hb dX8_endPause_24 rfl (lv_at hl 2 rfl) ?_
      refine W.eq (g2 := F0 m 25 ls [.ref (ad x1), .ref (ad q3)]) (by rw [e4]; rfl) ?_
      refine r_callV (za := za) (k := q3) (ci := 2) (C := RX2) (T := TX2) (N := 15) (As := [vR (some x1)]) (rest := []) (tX2_isAnotherPauseThan l S q3 x1 _ h) ⟨hx, hb, hml, hown, hts⟩ (cwV 1 hts gX8_endPause_X2_isAnotherPauseThan rfl rfl rfl (by decide +kernel) ⟨by decide, by decide⟩) hK hG hA hk5 (cell_2 hq6) rfl rfl hl.1 rfl (Nat.le_of_ble_eq_true rfl) ⟨Nat.zero_le _, Nat.zero_le _⟩ dX8_endPause_25 (fun r_9 S9 H locs hp hs_S9 hG => ?_)
      obtain ⟨u10, rfl, h⟩ := hp
      have h := h hs_S9
      refine W.eq (g2 := F0 m 28 ls [.int u10]) rfl ?_
      have hsh := hs_S9.tr hsh
      have hk11 := hs_S9.lt hk1
      have hq12 := hs_S9.kd hq2
      have hk13 := hs_S9.lt hk5
      have hq14 := hs_S9.kd hq6
      have hk15 := hs_S9.lt hk7
      have hq16 := hs_S9.kd hq8
      refine lv_if_ne (tgt := 47) hx hb dX8_endPause_28 (by decide) (fun c_28 => ?_) (fun c_28 => ?_)
      · have h := h.1 c_28
        exact b_47  S9 H locs ls h hsh hG (lv_sub hl [] rfl)
      · have h := h.2 c_28
        refine r_aload_n hx hb dX8_endPause_31 rfl (lv_at hl 0 rfl) ?_
        refine lv_aload_n hx hb dX8_endPause_32 rfl (lv_at hl 2 rfl) ?_
        obtain ⟨q17, e18, h⟩ := h
        refine W.eq (g2 := F0 m 33 ls [.ref (ad x1), .ref (ad q17)]) (by rw [e18]; rfl) ?_
        obtain ⟨hk19, hq20, h⟩ := h
        refine r_callV (za := za) (k := q17) (ci := 2) (C := RX2) (T := TX2) (N := 15) (As := [vR (some x1)]) (rest := []) (tX2_hasNoRoomIn l S9 q17 x1 _ h) ⟨hx, hb, hml, hown, hts⟩ (cwV 1 hts gX8_endPause_X2_hasNoRoomIn rfl rfl rfl (by decide +kernel) ⟨by decide, by decide⟩) hK hG hA hk19 (cell_2 hq20) rfl rfl hl.1 rfl (Nat.le_of_ble_eq_true rfl) ⟨Nat.zero_le _, Nat.zero_le _⟩ dX8_endPause_33 (fun r_9 S21 H locs hp hs_S21 hG => ?_)
        obtain ⟨u22, rfl, h⟩ := hp
        have h := h hs_S21
        refine W.eq (g2 := F0 m 36 ls [.int u22]) rfl ?_
        have hsh := hs_S21.tr hsh
        have hk23 := hs_S21.lt hk11
        have hq24 := hs_S21.kd hq12
        have hk25 := hs_S21.lt hk13
        have hq26 := hs_S21.kd hq14
        have hk27 := hs_S21.lt hk15
        have hq28 := hs_S21.kd hq16
        have hk29 := hs_S21.lt hk19
        have hq30 := hs_S21.kd hq20
        refine lv_if_ne (tgt := 47) hx hb dX8_endPause_36 (by decide) (fun c_36 => ?_) (fun c_36 => ?_)
        · have h := h.1 c_36
          exact b_47  S21 H locs ls h hsh hG (lv_sub hl [] rfl)
        · have h := h.2 c_36
          refine r_aload_n hx hb dX8_endPause_39 rfl (lv_at hl 0 rfl) ?_
          refine lv_aload_n hx hb dX8_endPause_40 rfl (lv_at hl 2 rfl) ?_
          obtain ⟨q31, e32, h⟩ := h
          refine W.eq (g2 := F0 m 41 ls [.ref (ad x1), .ref (ad q31)]) (by rw [e32]; rfl) ?_
          obtain ⟨hk33, hq34, h⟩ := h
          refine r_callV (za := za) (k := q31) (ci := 2) (C := RX2) (T := TX2) (N := 15) (As := [vR (some x1)]) (rest := []) (tX2_isTooShortFor l S21 q31 x1 _ h) ⟨hx, hb, hml, hown, hts⟩ (cwV 1 hts gX8_endPause_X2_isTooShortFor rfl rfl rfl (by decide +kernel) ⟨by decide, by decide⟩) hK hG hA hk33 (cell_2 hq34) rfl rfl hl.1 rfl (Nat.le_of_ble_eq_true rfl) ⟨Nat.zero_le _, Nat.zero_le _⟩ dX8_endPause_41 (fun r_9 S35 H locs hp hs_S35 hG => ?_)
          obtain ⟨u36, rfl, h⟩ := hp
          have h := h hs_S35
          refine W.eq (g2 := F0 m 44 ls [.int u36]) rfl ?_
          have hsh := hs_S35.tr hsh
          have hk37 := hs_S35.lt hk23
          have hq38 := hs_S35.kd hq24
          have hk39 := hs_S35.lt hk25
          have hq40 := hs_S35.kd hq26
          have hk41 := hs_S35.lt hk27
          have hq42 := hs_S35.kd hq28
          have hk43 := hs_S35.lt hk29
          have hq44 := hs_S35.kd hq30
          have hk45 := hs_S35.lt hk33
          have hq46 := hs_S35.kd hq34
          refine lv_if_eq (tgt := 50) hx hb dX8_endPause_44 (by decide) (fun c_44 => ?_) (fun c_44 => ?_)
          · have h := h.1 c_44
            refine lv_aload_n hx hb dX8_endPause_50 rfl (lv_at hl 1 rfl) ?_
            refine g_get (ci := 8) (C := RX8) (T := TX8) (N := 12) hx hb hts hin8 hown hK hG hk37 (cell_8 hq38) rfl 3 (by decide) lk_29 (fun _ h9 => h9) (v := rv ad (gR S35 k0 3)) rfl dX8_endPause_51 ?_
            obtain ⟨q47, e48, h⟩ := h
            refine W.eq (g2 := F0 m 54 ls [.ref (ad q47)]) (by rw [e48]; rfl) ?_
            obtain ⟨hk49, hq50, h⟩ := h
            refine r_callV (za := za) (k := q47) (ci := 3) (C := RX3) (T := TX3) (N := 2) (As := []) (rest := []) (tX3_isFull l S35 q47  _ h) ⟨hx, hb, hml, hown, hts⟩ (cwV 0 hts gX8_endPause_X3_isFull rfl rfl rfl (by decide +kernel) ⟨by decide, by decide⟩) hK hG hA hk49 (cell_3 hq50) rfl rfl hl.1 rfl (Nat.le_of_ble_eq_true rfl) ⟨Nat.zero_le _, Nat.zero_le _⟩ dX8_endPause_54 (fun r_9 S51 H locs hp hs_S51 hG => ?_)
            obtain ⟨u52, rfl, h⟩ := hp
            have h := h hs_S51
            refine W.eq (g2 := F0 m 57 ls [.int u52]) rfl ?_
            have hsh := hs_S51.tr hsh
            have hk53 := hs_S51.lt hk37
            have hq54 := hs_S51.kd hq38
            have hk55 := hs_S51.lt hk39
            have hq56 := hs_S51.kd hq40
            have hk57 := hs_S51.lt hk41
            have hq58 := hs_S51.kd hq42
            have hk59 := hs_S51.lt hk43
            have hq60 := hs_S51.kd hq44
            have hk61 := hs_S51.lt hk45
            have hq62 := hs_S51.kd hq46
            have hk63 := hs_S51.lt hk49
            have hq64 := hs_S51.kd hq50
            refine lv_if_eq (tgt := 63) hx hb dX8_endPause_57 (by decide) (fun c_57 => ?_) (fun c_57 => ?_)
            · have h := h.1 c_57
              refine r_aload_n hx hb dX8_endPause_63 rfl (lv_at hl 0 rfl) ?_
              refine lv_aload_n hx hb dX8_endPause_64 rfl (lv_at hl 2 rfl) ?_
              obtain ⟨q65, e66, h⟩ := h
              refine W.eq (g2 := F0 m 65 ls [.ref (ad x1), .ref (ad q65)]) (by rw [e66]; rfl) ?_
              obtain ⟨hk67, hq68, h⟩ := h
              refine r_callV (za := za) (k := q65) (ci := 2) (C := RX2) (T := TX2) (N := 15) (As := [vR (some x1)]) (rest := []) (tX2_endAsPause l S51 q65 x1 _ h) ⟨hx, hb, hml, hown, hts⟩ (cwV 1 hts gX8_endPause_X2_endAsPause rfl rfl rfl (by decide +kernel) ⟨by decide, by decide⟩) hK hG hA hk67 (cell_2 hq68) rfl rfl hl.1 rfl (Nat.le_of_ble_eq_true rfl) ⟨Nat.zero_le _, Nat.zero_le _⟩ dX8_endPause_65 (fun r_9 S69 H locs hp hs_S69 hG => ?_)
              obtain ⟨rfl, h⟩ := hp
              have h := h hs_S69
              refine W.eq (g2 := F0 m 68 ls []) rfl ?_
              have hsh := hs_S69.tr hsh
              have hk71 := hs_S69.lt hk53
              have hq72 := hs_S69.kd hq54
              have hk73 := hs_S69.lt hk55
              have hq74 := hs_S69.kd hq56
              have hk75 := hs_S69.lt hk57
              have hq76 := hs_S69.kd hq58
              have hk77 := hs_S69.lt hk59
              have hq78 := hs_S69.kd hq60
              have hk79 := hs_S69.lt hk61
              have hq80 := hs_S69.kd hq62
              have hk81 := hs_S69.lt hk63
              have hq82 := hs_S69.kd hq64
              have hk83 := hs_S69.lt hk67
              have hq84 := hs_S69.kd hq68
              refine lv_aload_n hx hb dX8_endPause_68 rfl (lv_at hl 1 rfl) ?_
              refine lv_null hx hb dX8_endPause_69 ?_
              refine r_put (ci := 8) (C := RX8) (T := TX8) (N := 12) hx hb hts hin8 tyX8 tyX8_ok nmX8 hown hK hG hk71 (cell_8 hq72) rfl 7 (by decide) lk_140 (fun _ h9 => h9) rfl rfl rfl (Nat.le_of_ble_eq_true rfl) (S' := sR S69 k0 7 none) rfl (pu_8_7 hq72 none) dX8_endPause_70 (fun H locs hG => ?_)
              obtain ⟨S85, eS_S85⟩ : ∃ z : GS, z = sR S69 k0 7 none := ⟨_, rfl⟩
              have h := h S85 eS_S85
              rw [← eS_S85] at hG
              have hs_S85 : gSh S85 S69 := by rw [eS_S85]; exact gSh.r _ _ _ _
              have hsh := hs_S85.tr hsh
              have hk86 := hs_S85.lt hk71
              have hq87 := hs_S85.kd hq72
              have hk88 := hs_S85.lt hk73
              have hq89 := hs_S85.kd hq74
              have hk90 := hs_S85.lt hk75
              have hq91 := hs_S85.kd hq76
              have hk92 := hs_S85.lt hk77
              have hq93 := hs_S85.kd hq78
              have hk94 := hs_S85.lt hk79
              have hq95 := hs_S85.kd hq80
              have hk96 := hs_S85.lt hk81
              have hq97 := hs_S85.kd hq82
              have hk98 := hs_S85.lt hk83
              have hq99 := hs_S85.kd hq84
              refine lv_aload_n hx hb dX8_endPause_73 rfl (lv_at hl 1 rfl) ?_
              refine g_get (ci := 8) (C := RX8) (T := TX8) (N := 12) hx hb hts hin8 hown hK hG hk86 (cell_8 hq87) rfl 6 (by decide) lk_50 (fun _ h9 => h9) (v := rv ad (gR S85 k0 6)) rfl dX8_endPause_74 ?_
              refine r_aload_n hx hb dX8_endPause_77 rfl (lv_at hl 0 rfl) ?_
              obtain ⟨q100, e101, h⟩ := h
              refine W.eq (g2 := F0 m 78 ls [.ref (ad q100), rv ad (gR S85 k0 6)]) (by rw [e101]; rfl) ?_
              obtain ⟨q102, e103, h⟩ := h
              refine W.eq (g2 := F0 m 78 ls [.ref (ad q100), .ref (ad q102)]) (by rw [e103]; rfl) ?_
              obtain ⟨hk104, hq105, h⟩ := h
              refine r_callV (za := za) (k := q102) (ci := 5) (C := RX5) (T := TX5) (N := 6) (As := [vR (some q100)]) (rest := []) (tX5_addPause l S85 q102 q100 _ h) ⟨hx, hb, hml, hown, hts⟩ (cwV 1 hts gX8_endPause_X5_addPause rfl rfl rfl (by decide +kernel) ⟨by decide, by decide⟩) hK hG hA hk104 (cell_5 hq105) rfl rfl hl.1 rfl (Nat.le_of_ble_eq_true rfl) ⟨Nat.zero_le _, Nat.zero_le _⟩ dX8_endPause_78 (fun r_9 S106 H locs hp hs_S106 hG => ?_)
              obtain ⟨rfl, h⟩ := hp
              have h := h hs_S106
              refine W.eq (g2 := F0 m 81 ls []) rfl ?_
              have hsh := hs_S106.tr hsh
              have hk108 := hs_S106.lt hk86
              have hq109 := hs_S106.kd hq87
              have hk110 := hs_S106.lt hk88
              have hq111 := hs_S106.kd hq89
              have hk112 := hs_S106.lt hk90
              have hq113 := hs_S106.kd hq91
              have hk114 := hs_S106.lt hk92
              have hq115 := hs_S106.kd hq93
              have hk116 := hs_S106.lt hk94
              have hq117 := hs_S106.kd hq95
              have hk118 := hs_S106.lt hk96
              have hq119 := hs_S106.kd hq97
              have hk120 := hs_S106.lt hk98
              have hq121 := hs_S106.kd hq99
              have hk122 := hs_S106.lt hk104
              have hq123 := hs_S106.kd hq105
              refine lv_aload_n hx hb dX8_endPause_81 rfl (lv_at hl 1 rfl) ?_
              refine r_aload_n hx hb dX8_endPause_82 rfl (lv_at hl 0 rfl) ?_
              obtain ⟨q124, e125, h⟩ := h
              refine W.eq (g2 := F0 m 83 ls [.ref (ad q124), .ref (ad k0)]) (by rw [e125]; rfl) ?_
              refine r_callV (za := za) (k := k0) (ci := 8) (C := RX8) (T := TX8) (N := 12) (As := [vR (some q124)]) (rest := []) (tX8_keep l S106 k0 q124 _ h) ⟨hx, hb, hml, hown, hts⟩ (cwV 1 hts gX8_endPause_X8_keep rfl rfl rfl (by decide +kernel) ⟨by decide, by decide⟩) hK hG hA hk108 (cell_8 hq109) rfl rfl hl.1 rfl (Nat.le_of_ble_eq_true rfl) ⟨Nat.zero_le _, Nat.zero_le _⟩ dX8_endPause_83 (fun r_9 S126 H locs hp hs_S126 hG => ?_)
              obtain ⟨u127, rfl, h⟩ := hp
              have h := h hs_S126
              refine W.eq (g2 := F0 m 86 ls [.int u127]) rfl ?_
              have hsh := hs_S126.tr hsh
              have hk128 := hs_S126.lt hk108
              have hq129 := hs_S126.kd hq109
              have hk130 := hs_S126.lt hk110
              have hq131 := hs_S126.kd hq111
              have hk132 := hs_S126.lt hk112
              have hq133 := hs_S126.kd hq113
              have hk134 := hs_S126.lt hk114
              have hq135 := hs_S126.kd hq115
              have hk136 := hs_S126.lt hk116
              have hq137 := hs_S126.kd hq117
              have hk138 := hs_S126.lt hk118
              have hq139 := hs_S126.kd hq119
              have hk140 := hs_S126.lt hk120
              have hq141 := hs_S126.kd hq121
              have hk142 := hs_S126.lt hk122
              have hq143 := hs_S126.kd hq123
              exact W.iret (v := u127) hx hb hr (fun t ht hW => r_end (r := some (vI u127)) hAe hG hsh ⟨_, rfl, h⟩ rfl ht) hG.2.2.2.2 dX8_endPause_86
            · have h := h.2 c_57
              refine lv_bipush (v := (-7)) hx hb dX8_endPause_60 (by decide) ?_
              exact W.iret (v := (-7)) hx hb hr (fun t ht hW => r_end (r := some (vI (-7))) hAe hG hsh ⟨_, rfl, h⟩ rfl ht) hG.2.2.2.2 dX8_endPause_62
          · have h := h.2 c_44
            exact b_47  S35 H locs ls h hsh hG (lv_sub hl [] rfl)
    · have h := h.2 c_17
      exact b_20  S H locs ls h hsh hG (lv_sub hl [] rfl)
def wX8_endMark_20 (Q : Int32 → GS → Prop) (k0 : Nat)  (S : GS) : Prop :=
  Q (-5) S
def wX8_endMark_42 (Q : Int32 → GS → Prop) (k0 : Nat) (x1 : Nat) (x2 : Option Nat) (S : GS) : Prop :=
  k0 < gN S ∧ gK S k0 = 8 ∧ ∃ q3 : Nat, gR S k0 3 = some q3 ∧ q3 < gN S ∧ gK S q3 = 3 ∧ wX3_isFull S q3  (fun u8 S7 => gSh S7 S → (u8 = 0 → ∃ q13 : Nat, x2 = some q13 ∧ q13 < gN S7 ∧ gK S7 q13 = 2 ∧ wX2_endAsMark S7 q13 x1 (fun S17 => gSh S17 S7 → ∀ S25 : GS, S25 = sR S17 k0 8 none → ∃ q32 : Nat, x2 = some q32 ∧ wX8_keep S25 k0 q32 (fun u35 S34 => gSh S34 S25 → Q u35 S34))) ∧ (¬ u8 = 0 → Q (-7) S7))
def wX8_endMark (S : GS) (k0 : Nat) (x1 : Nat) (Q : Int32 → GS → Prop) : Prop :=
  k0 < gN S ∧ gK S k0 = 8 ∧ (gR S k0 8 = none → wX8_endMark_20 Q k0  S) ∧ (∀ q44 : Nat, gR S k0 8 = some q44 → q44 < gN S ∧ gK S q44 = 2 ∧ x1 < gN S ∧ gK S x1 = 1 ∧ ((gX S q44 1) = (gX S x1 3) → (¬ (gX S x1 0) = 5 → wX8_endMark_42 Q k0 x1 (gR S k0 8) S) ∧ ((gX S x1 0) = 5 → wX2_isTooShortFor S q44 x1 (fun u51 S50 => gSh S50 S → (u51 = 0 → wX8_endMark_42 Q k0 x1 (gR S k0 8) S50) ∧ (¬ u51 = 0 → Q (-6) S50)))) ∧ (¬ (gX S q44 1) = (gX S x1 3) → wX8_endMark_20 Q k0  S))
set_option maxHeartbeats 4000000 in
set_option maxRecDepth 100000 in
theorem tX8_endMark (l : Launch) (S : GS) (k0 : Nat) (x1 : Nat) (Q : Int32 → GS → Prop) (h : wX8_endMark S k0 x1 Q) : CS l yX8_endMark wsX8_endMark 2 S [vR (some k0), vR (some x1)] (fun r S9 => ∃ x, r = some (vI x) ∧ Q x S9) := by
  refine CS.ofW (cc := cX8_endMark) (maxL := 3) (ret := (some .int)) RX8 (by decide) rfl rfl (fun _ _ => Nat.le_of_ble_eq_true rfl) ?_
  intro p e s m args below meth c D Y za ad A ls hAe hx hb hr hml hts hown hlocks hK hA hG hl
  obtain ⟨S0, hS0⟩ : ∃ z : GS, z = S := ⟨_, rfl⟩
  rw [← hS0] at hAe
  rw [← hS0]
  have hin1 : ∀ w ∈ wsX10, w ∈ wsX8_endMark := by decide +kernel
  have hin2 : ∀ w ∈ wsX20, w ∈ wsX8_endMark := by decide +kernel
  have hin8 : ∀ w ∈ wsX80, w ∈ wsX8_endMark := by decide +kernel
  have lk_148 := hts (.fieldLink RX8 148 "PauseLog" "openMark" "LPauseLog$Event;") (by decide +kernel)
  have lk_253 := hts (.fieldLink RX8 253 "PauseLog$Event" "id" "I") (by decide +kernel)
  have lk_79 := hts (.fieldLink RX8 79 "PauseLog$Entry" "id" "I") (by decide +kernel)
  have lk_264 := hts (.fieldLink RX8 264 "PauseLog$Entry" "shape" "I") (by decide +kernel)
  have lk_29 := hts (.fieldLink RX8 29 "PauseLog" "events" "LPauseLog$Events;") (by decide +kernel)
  have b_20 : ∀   (S : GS) (H : Heap) (locs : List Loc) (ls : Array Slot), wX8_endMark_20 Q k0  S → gSh S S0 → gS D Y ad A s.heap S H locs → lv_has ls 3 [] → W p l e (rmD 2) s m args below meth c H locs 0 0 (MQ below (gE D Y za ad S0 s.heap.size (fun r S9 => ∃ x, r = some (vI x) ∧ Q x S9)) args s 0 0 A) (F0 m 20 ls []) := by
    intro   S H locs ls h hsh hG hl
    unfold wX8_endMark_20 at h
    refine lv_bipush (v := (-5)) hx hb dX8_endMark_20 (by decide) ?_
    exact W.iret (v := (-5)) hx hb hr (fun t ht hW => r_end (r := some (vI (-5))) hAe hG hsh ⟨_, rfl, h⟩ rfl ht) hG.2.2.2.2 dX8_endMark_22
  have b_42 : ∀  (x1 : Nat) (x2 : Option Nat) (S : GS) (H : Heap) (locs : List Loc) (ls : Array Slot), wX8_endMark_42 Q k0 x1 x2 S → gSh S S0 → gS D Y ad A s.heap S H locs → lv_has ls 3 [(0, .ref (ad k0)), (1, .ref (ad x1)), (2, rv ad x2)] → W p l e (rmD 2) s m args below meth c H locs 0 0 (MQ below (gE D Y za ad S0 s.heap.size (fun r S9 => ∃ x, r = some (vI x) ∧ Q x S9)) args s 0 0 A) (F0 m 42 ls []) := by
    intro  x1 x2 S H locs ls h hsh hG hl
    unfold wX8_endMark_42 at h
    refine lv_aload_n hx hb dX8_endMark_42 rfl (lv_at hl 0 rfl) ?_
    obtain ⟨hk1, hq2, h⟩ := h
    refine g_get (ci := 8) (C := RX8) (T := TX8) (N := 12) hx hb hts hin8 hown hK hG hk1 (cell_8 hq2) rfl 3 (by decide) lk_29 (fun _ h9 => h9) (v := rv ad (gR S k0 3)) rfl dX8_endMark_43 ?_
    obtain ⟨q3, e4, h⟩ := h
    refine W.eq (g2 := F0 m 46 ls [.ref (ad q3)]) (by rw [e4]; rfl) ?_
    obtain ⟨hk5, hq6, h⟩ := h
    refine r_callV (za := za) (k := q3) (ci := 3) (C := RX3) (T := TX3) (N := 2) (As := []) (rest := []) (tX3_isFull l S q3  _ h) ⟨hx, hb, hml, hown, hts⟩ (cwV 0 hts gX8_endMark_X3_isFull rfl rfl rfl (by decide +kernel) ⟨by decide, by decide⟩) hK hG hA hk5 (cell_3 hq6) rfl rfl hl.1 rfl (Nat.le_of_ble_eq_true rfl) ⟨Nat.zero_le _, Nat.zero_le _⟩ dX8_endMark_46 (fun r_9 S7 H locs hp hs_S7 hG => ?_)
    obtain ⟨u8, rfl, h⟩ := hp
    have h := h hs_S7
    refine W.eq (g2 := F0 m 49 ls [.int u8]) rfl ?_
    have hsh := hs_S7.tr hsh
    have hk9 := hs_S7.lt hk1
    have hq10 := hs_S7.kd hq2
    have hk11 := hs_S7.lt hk5
    have hq12 := hs_S7.kd hq6
    refine lv_if_eq (tgt := 55) hx hb dX8_endMark_49 (by decide) (fun c_49 => ?_) (fun c_49 => ?_)
    · have h := h.1 c_49
      refine r_aload_n hx hb dX8_endMark_55 rfl (lv_at hl 2 rfl) ?_
      refine lv_aload_n hx hb dX8_endMark_56 rfl (lv_at hl 1 rfl) ?_
      obtain ⟨q13, e14, h⟩ := h
      refine W.eq (g2 := F0 m 57 ls [.ref (ad x1), .ref (ad q13)]) (by rw [e14]; rfl) ?_
      obtain ⟨hk15, hq16, h⟩ := h
      refine r_callV (za := za) (k := q13) (ci := 2) (C := RX2) (T := TX2) (N := 15) (As := [vR (some x1)]) (rest := []) (tX2_endAsMark l S7 q13 x1 _ h) ⟨hx, hb, hml, hown, hts⟩ (cwV 1 hts gX8_endMark_X2_endAsMark rfl rfl rfl (by decide +kernel) ⟨by decide, by decide⟩) hK hG hA hk15 (cell_2 hq16) rfl rfl hl.1 rfl (Nat.le_of_ble_eq_true rfl) ⟨Nat.zero_le _, Nat.zero_le _⟩ dX8_endMark_57 (fun r_9 S17 H locs hp hs_S17 hG => ?_)
      obtain ⟨rfl, h⟩ := hp
      have h := h hs_S17
      refine W.eq (g2 := F0 m 60 ls []) rfl ?_
      have hsh := hs_S17.tr hsh
      have hk19 := hs_S17.lt hk9
      have hq20 := hs_S17.kd hq10
      have hk21 := hs_S17.lt hk11
      have hq22 := hs_S17.kd hq12
      have hk23 := hs_S17.lt hk15
      have hq24 := hs_S17.kd hq16
      refine lv_aload_n hx hb dX8_endMark_60 rfl (lv_at hl 0 rfl) ?_
      refine lv_null hx hb dX8_endMark_61 ?_
      refine r_put (ci := 8) (C := RX8) (T := TX8) (N := 12) hx hb hts hin8 tyX8 tyX8_ok nmX8 hown hK hG hk19 (cell_8 hq20) rfl 8 (by decide) lk_148 (fun _ h9 => h9) rfl rfl rfl (Nat.le_of_ble_eq_true rfl) (S' := sR S17 k0 8 none) rfl (pu_8_8 hq20 none) dX8_endMark_62 (fun H locs hG => ?_)
      obtain ⟨S25, eS_S25⟩ : ∃ z : GS, z = sR S17 k0 8 none := ⟨_, rfl⟩
      have h := h S25 eS_S25
      rw [← eS_S25] at hG
      have hs_S25 : gSh S25 S17 := by rw [eS_S25]; exact gSh.r _ _ _ _
      have hsh := hs_S25.tr hsh
      have hk26 := hs_S25.lt hk19
      have hq27 := hs_S25.kd hq20
      have hk28 := hs_S25.lt hk21
      have hq29 := hs_S25.kd hq22
      have hk30 := hs_S25.lt hk23
      have hq31 := hs_S25.kd hq24
      refine lv_aload_n hx hb dX8_endMark_65 rfl (lv_at hl 0 rfl) ?_
      refine r_aload_n hx hb dX8_endMark_66 rfl (lv_at hl 2 rfl) ?_
      obtain ⟨q32, e33, h⟩ := h
      refine W.eq (g2 := F0 m 67 ls [.ref (ad q32), .ref (ad k0)]) (by rw [e33]; rfl) ?_
      refine r_callV (za := za) (k := k0) (ci := 8) (C := RX8) (T := TX8) (N := 12) (As := [vR (some q32)]) (rest := []) (tX8_keep l S25 k0 q32 _ h) ⟨hx, hb, hml, hown, hts⟩ (cwV 1 hts gX8_endMark_X8_keep rfl rfl rfl (by decide +kernel) ⟨by decide, by decide⟩) hK hG hA hk26 (cell_8 hq27) rfl rfl hl.1 rfl (Nat.le_of_ble_eq_true rfl) ⟨Nat.zero_le _, Nat.zero_le _⟩ dX8_endMark_67 (fun r_9 S34 H locs hp hs_S34 hG => ?_)
      obtain ⟨u35, rfl, h⟩ := hp
      have h := h hs_S34
      refine W.eq (g2 := F0 m 70 ls [.int u35]) rfl ?_
      have hsh := hs_S34.tr hsh
      have hk36 := hs_S34.lt hk26
      have hq37 := hs_S34.kd hq27
      have hk38 := hs_S34.lt hk28
      have hq39 := hs_S34.kd hq29
      have hk40 := hs_S34.lt hk30
      have hq41 := hs_S34.kd hq31
      exact W.iret (v := u35) hx hb hr (fun t ht hW => r_end (r := some (vI u35)) hAe hG hsh ⟨_, rfl, h⟩ rfl ht) hG.2.2.2.2 dX8_endMark_70
    · have h := h.2 c_49
      refine lv_bipush (v := (-7)) hx hb dX8_endMark_52 (by decide) ?_
      exact W.iret (v := (-7)) hx hb hr (fun t ht hW => r_end (r := some (vI (-7))) hAe hG hsh ⟨_, rfl, h⟩ rfl ht) hG.2.2.2.2 dX8_endMark_54
  have hl : lv_has ls 3 [(0, .ref (ad k0)), (1, .ref (ad x1))] := hl
  have hsh : gSh S S0 := by rw [hS0]; exact gSh.rf S
  obtain ⟨H, eH⟩ : ∃ z : Heap, z = s.heap := ⟨_, rfl⟩
  obtain ⟨locs, eL⟩ : ∃ z : List Loc, z = [] := ⟨_, rfl⟩
  have hG : gS D Y ad A s.heap S H locs := by rw [eH, eL]; exact hG
  suffices hgoal : W p l e (rmD 2) s m args below meth c H locs 0 0 (MQ below (gE D Y za ad S0 s.heap.size (fun r S9 => ∃ x, r = some (vI x) ∧ Q x S9)) args s 0 0 A) (F0 m 0 ls []) by rw [eH, eL] at hgoal; exact hgoal
  unfold wX8_endMark at h
  refine lv_aload_n hx hb dX8_endMark_0 rfl (lv_at hl 0 rfl) ?_
  obtain ⟨hk42, hq43, h⟩ := h
  refine g_get (ci := 8) (C := RX8) (T := TX8) (N := 12) hx hb hts hin8 hown hK hG hk42 (cell_8 hq43) rfl 8 (by decide) lk_148 (fun _ h9 => h9) (v := rv ad (gR S k0 8)) rfl dX8_endMark_1 ?_
  refine r_astore_n (lv' := [(2, rv ad (gR S k0 8)), (0, .ref (ad k0)), (1, .ref (ad x1))]) hx hb dX8_endMark_4 rfl hl (by decide) rfl (fun ls hl => ?_)
  refine r_aload_n hx hb dX8_endMark_5 rfl (lv_at hl 0 rfl) ?_
  cases e45 : gR S k0 8 with
  | none =>
    have h := h.1 e45
    refine W.eq (g2 := F0 m 6 ls [.null]) (by first | rfl | rw [e45]; rfl) ?_
    refine lv_ifnullN (tgt := 20) hx hb dX8_endMark_6 (by decide) ?_
    exact b_20  S H locs ls h hsh hG (lv_sub hl [] rfl)
  | some q44 =>
    have h := h.2 q44 e45
    refine W.eq (g2 := F0 m 6 ls [.ref (ad q44)]) (by first | rfl | rw [e45]; rfl) ?_
    refine lv_ifnull hx hb dX8_endMark_6 ?_
    refine r_aload_n hx hb dX8_endMark_9 rfl (lv_at hl 0 rfl) ?_
    refine W.eq (g2 := F0 m 10 ls [.ref (ad q44)]) (by rw [e45]; rfl) ?_
    obtain ⟨hk46, hq47, h⟩ := h
    refine g_get (ci := 2) (C := RX2) (T := TX2) (N := 15) hx hb hts hin2 hown hK hG hk46 (cell_2 hq47) rfl 1 (by decide) lk_253 (fun _ h9 => h9) (v := .int (gX S q44 1)) rfl dX8_endMark_10 ?_
    refine lv_aload_n hx hb dX8_endMark_13 rfl (lv_at hl 2 rfl) ?_
    obtain ⟨hk48, hq49, h⟩ := h
    refine g_get (ci := 1) (C := RX1) (T := TX1) (N := 9) hx hb hts hin1 hown hK hG hk48 (cell_1 hq49) rfl 3 (by decide) lk_79 (fun _ h9 => h9) (v := .int (gX S x1 3)) rfl dX8_endMark_14 ?_
    refine lv_icmp_eq (tgt := 23) hx hb dX8_endMark_17 (by decide) (fun c_17 => ?_) (fun c_17 => ?_)
    · have h := h.1 c_17
      refine lv_aload_n hx hb dX8_endMark_23 rfl (lv_at hl 2 rfl) ?_
      refine g_get (ci := 1) (C := RX1) (T := TX1) (N := 9) hx hb hts hin1 hown hK hG hk48 (cell_1 hq49) rfl 0 (by decide) lk_264 (fun _ h9 => h9) (v := .int (gX S x1 0)) rfl dX8_endMark_24 ?_
      refine lv_iconst (v := 5) hx hb dX8_endMark_27 (by decide) ?_
      refine lv_icmp_ne (tgt := 42) hx hb dX8_endMark_28 (by decide) (fun c_28 => ?_) (fun c_28 => ?_)
      · have h := h.1 c_28
        exact b_42 x1 (gR S k0 8) S H locs ls h hsh hG (lv_sub hl [1, 2, 0] rfl)
      · have h := h.2 c_28
        refine r_aload_n hx hb dX8_endMark_31 rfl (lv_at hl 0 rfl) ?_
        refine lv_aload_n hx hb dX8_endMark_32 rfl (lv_at hl 2 rfl) ?_
        refine W.eq (g2 := F0 m 33 ls [.ref (ad x1), .ref (ad q44)]) (by rw [e45]; rfl) ?_
        refine r_callV (za := za) (k := q44) (ci := 2) (C := RX2) (T := TX2) (N := 15) (As := [vR (some x1)]) (rest := []) (tX2_isTooShortFor l S q44 x1 _ h) ⟨hx, hb, hml, hown, hts⟩ (cwV 1 hts gX8_endMark_X2_isTooShortFor rfl rfl rfl (by decide +kernel) ⟨by decide, by decide⟩) hK hG hA hk46 (cell_2 hq47) rfl rfl hl.1 rfl (Nat.le_of_ble_eq_true rfl) ⟨Nat.zero_le _, Nat.zero_le _⟩ dX8_endMark_33 (fun r_9 S50 H locs hp hs_S50 hG => ?_)
        obtain ⟨u51, rfl, h⟩ := hp
        have h := h hs_S50
        refine W.eq (g2 := F0 m 36 ls [.int u51]) rfl ?_
        have hsh := hs_S50.tr hsh
        have hk52 := hs_S50.lt hk42
        have hq53 := hs_S50.kd hq43
        have hk54 := hs_S50.lt hk46
        have hq55 := hs_S50.kd hq47
        have hk56 := hs_S50.lt hk48
        have hq57 := hs_S50.kd hq49
        refine lv_if_eq (tgt := 42) hx hb dX8_endMark_36 (by decide) (fun c_36 => ?_) (fun c_36 => ?_)
        · have h := h.1 c_36
          exact b_42 x1 (gR S k0 8) S50 H locs ls h hsh hG (lv_sub hl [1, 2, 0] rfl)
        · have h := h.2 c_36
          refine lv_bipush (v := (-6)) hx hb dX8_endMark_39 (by decide) ?_
          exact W.iret (v := (-6)) hx hb hr (fun t ht hW => r_end (r := some (vI (-6))) hAe hG hsh ⟨_, rfl, h⟩ rfl ht) hG.2.2.2.2 dX8_endMark_41
    · have h := h.2 c_17
      exact b_20  S H locs ls h hsh hG (lv_sub hl [] rfl)
def wX8_finish (S : GS) (k0 : Nat) (Q : Int32 → GS → Prop) : Prop :=
  k0 < gN S ∧ gK S k0 = 8 ∧ wX8_truncate S k0 (gR S k0 7) (fun u4 S3 => gSh S3 S → wX8_truncate S3 k0 (gR S3 k0 8) (fun u8 S7 => gSh S7 S3 → ∀ S11 : GS, S11 = sR S7 k0 7 none → ∀ S14 : GS, S14 = sR S11 k0 8 none → ∀ S17 : GS, S17 = sX S14 k0 9 (-1) → ∃ q20 : Nat, gR S17 k0 5 = some q20 ∧ q20 < gN S17 ∧ gK S17 q20 = 7 ∧ wX7_endLog S17 q20  (fun S24 => gSh S24 S17 → ∃ q30 : Nat, gR S24 k0 6 = some q30 ∧ q30 < gN S24 ∧ gK S24 q30 = 5 ∧ wX5_endLog S24 q30  (fun S34 => gSh S34 S24 → Q (u4 + u8) S34))))
set_option maxHeartbeats 4000000 in
set_option maxRecDepth 100000 in
theorem tX8_finish (l : Launch) (S : GS) (k0 : Nat) (Q : Int32 → GS → Prop) (h : wX8_finish S k0 Q) : CS l yX8_finish wsX8_finish 2 S [vR (some k0)] (fun r S9 => ∃ x, r = some (vI x) ∧ Q x S9) := by
  refine CS.ofW (cc := cX8_finish) (maxL := 2) (ret := (some .int)) RX8 (by decide) rfl rfl (fun _ _ => Nat.le_of_ble_eq_true rfl) ?_
  intro p e s m args below meth c D Y za ad A ls hAe hx hb hr hml hts hown hlocks hK hA hG hl
  obtain ⟨S0, hS0⟩ : ∃ z : GS, z = S := ⟨_, rfl⟩
  rw [← hS0] at hAe
  rw [← hS0]
  have hin8 : ∀ w ∈ wsX80, w ∈ wsX8_finish := by decide +kernel
  have lk_140 := hts (.fieldLink RX8 140 "PauseLog" "openPause" "LPauseLog$Event;") (by decide +kernel)
  have lk_148 := hts (.fieldLink RX8 148 "PauseLog" "openMark" "LPauseLog$Event;") (by decide +kernel)
  have lk_54 := hts (.fieldLink RX8 54 "PauseLog" "greatestId" "I") (by decide +kernel)
  have lk_43 := hts (.fieldLink RX8 43 "PauseLog" "times" "LPauseLog$Times;") (by decide +kernel)
  have lk_50 := hts (.fieldLink RX8 50 "PauseLog" "sums" "LPauseLog$Sums;") (by decide +kernel)
  have hl : lv_has ls 2 [(0, .ref (ad k0))] := hl
  have hsh : gSh S S0 := by rw [hS0]; exact gSh.rf S
  obtain ⟨H, eH⟩ : ∃ z : Heap, z = s.heap := ⟨_, rfl⟩
  obtain ⟨locs, eL⟩ : ∃ z : List Loc, z = [] := ⟨_, rfl⟩
  have hG : gS D Y ad A s.heap S H locs := by rw [eH, eL]; exact hG
  suffices hgoal : W p l e (rmD 2) s m args below meth c H locs 0 0 (MQ below (gE D Y za ad S0 s.heap.size (fun r S9 => ∃ x, r = some (vI x) ∧ Q x S9)) args s 0 0 A) (F0 m 0 ls []) by rw [eH, eL] at hgoal; exact hgoal
  unfold wX8_finish at h
  refine lv_aload_n hx hb dX8_finish_0 rfl (lv_at hl 0 rfl) ?_
  refine lv_aload_n hx hb dX8_finish_1 rfl (lv_at hl 0 rfl) ?_
  obtain ⟨hk1, hq2, h⟩ := h
  refine g_get (ci := 8) (C := RX8) (T := TX8) (N := 12) hx hb hts hin8 hown hK hG hk1 (cell_8 hq2) rfl 7 (by decide) lk_140 (fun _ h9 => h9) (v := rv ad (gR S k0 7)) rfl dX8_finish_2 ?_
  refine r_callV (za := za) (k := k0) (ci := 8) (C := RX8) (T := TX8) (N := 12) (As := [vR (gR S k0 7)]) (rest := []) (tX8_truncate l S k0 (gR S k0 7) _ h) ⟨hx, hb, hml, hown, hts⟩ (cwV 1 hts gX8_finish_X8_truncate rfl rfl rfl (by decide +kernel) ⟨by decide, by decide⟩) hK hG hA hk1 (cell_8 hq2) rfl rfl hl.1 rfl (Nat.le_of_ble_eq_true rfl) ⟨Nat.zero_le _, Nat.zero_le _⟩ dX8_finish_5 (fun r_9 S3 H locs hp hs_S3 hG => ?_)
  obtain ⟨u4, rfl, h⟩ := hp
  have h := h hs_S3
  refine W.eq (g2 := F0 m 8 ls [.int u4]) rfl ?_
  have hsh := hs_S3.tr hsh
  have hk5 := hs_S3.lt hk1
  have hq6 := hs_S3.kd hq2
  refine lv_aload_n hx hb dX8_finish_8 rfl (lv_at hl 0 rfl) ?_
  refine lv_aload_n hx hb dX8_finish_9 rfl (lv_at hl 0 rfl) ?_
  refine g_get (ci := 8) (C := RX8) (T := TX8) (N := 12) hx hb hts hin8 hown hK hG hk5 (cell_8 hq6) rfl 8 (by decide) lk_148 (fun _ h9 => h9) (v := rv ad (gR S3 k0 8)) rfl dX8_finish_10 ?_
  refine r_callV (za := za) (k := k0) (ci := 8) (C := RX8) (T := TX8) (N := 12) (As := [vR (gR S3 k0 8)]) (rest := [.int u4]) (tX8_truncate l S3 k0 (gR S3 k0 8) _ h) ⟨hx, hb, hml, hown, hts⟩ (cwV 1 hts gX8_finish_X8_truncate rfl rfl rfl (by decide +kernel) ⟨by decide, by decide⟩) hK hG hA hk5 (cell_8 hq6) rfl rfl hl.1 rfl (Nat.le_of_ble_eq_true rfl) ⟨Nat.zero_le _, Nat.zero_le _⟩ dX8_finish_13 (fun r_9 S7 H locs hp hs_S7 hG => ?_)
  obtain ⟨u8, rfl, h⟩ := hp
  have h := h hs_S7
  refine W.eq (g2 := F0 m 16 ls [.int u8, .int u4]) rfl ?_
  have hsh := hs_S7.tr hsh
  have hk9 := hs_S7.lt hk5
  have hq10 := hs_S7.kd hq6
  refine lv_iadd hx hb dX8_finish_16 ?_
  refine lv_istore_n (lv' := [(1, .int (u4 + u8)), (0, .ref (ad k0))]) hx hb dX8_finish_17 rfl hl (by decide) rfl (fun ls hl => ?_)
  refine lv_aload_n hx hb dX8_finish_18 rfl (lv_at hl 1 rfl) ?_
  refine lv_null hx hb dX8_finish_19 ?_
  refine r_put (ci := 8) (C := RX8) (T := TX8) (N := 12) hx hb hts hin8 tyX8 tyX8_ok nmX8 hown hK hG hk9 (cell_8 hq10) rfl 7 (by decide) lk_140 (fun _ h9 => h9) rfl rfl rfl (Nat.le_of_ble_eq_true rfl) (S' := sR S7 k0 7 none) rfl (pu_8_7 hq10 none) dX8_finish_20 (fun H locs hG => ?_)
  obtain ⟨S11, eS_S11⟩ : ∃ z : GS, z = sR S7 k0 7 none := ⟨_, rfl⟩
  have h := h S11 eS_S11
  rw [← eS_S11] at hG
  have hs_S11 : gSh S11 S7 := by rw [eS_S11]; exact gSh.r _ _ _ _
  have hsh := hs_S11.tr hsh
  have hk12 := hs_S11.lt hk9
  have hq13 := hs_S11.kd hq10
  refine lv_aload_n hx hb dX8_finish_23 rfl (lv_at hl 1 rfl) ?_
  refine lv_null hx hb dX8_finish_24 ?_
  refine r_put (ci := 8) (C := RX8) (T := TX8) (N := 12) hx hb hts hin8 tyX8 tyX8_ok nmX8 hown hK hG hk12 (cell_8 hq13) rfl 8 (by decide) lk_148 (fun _ h9 => h9) rfl rfl rfl (Nat.le_of_ble_eq_true rfl) (S' := sR S11 k0 8 none) rfl (pu_8_8 hq13 none) dX8_finish_25 (fun H locs hG => ?_)
  obtain ⟨S14, eS_S14⟩ : ∃ z : GS, z = sR S11 k0 8 none := ⟨_, rfl⟩
  have h := h S14 eS_S14
  rw [← eS_S14] at hG
  have hs_S14 : gSh S14 S11 := by rw [eS_S14]; exact gSh.r _ _ _ _
  have hsh := hs_S14.tr hsh
  have hk15 := hs_S14.lt hk12
  have hq16 := hs_S14.kd hq13
  refine lv_aload_n hx hb dX8_finish_28 rfl (lv_at hl 1 rfl) ?_
  refine lv_iconst (v := (-1)) hx hb dX8_finish_29 (by decide) ?_
  refine r_put (ci := 8) (C := RX8) (T := TX8) (N := 12) hx hb hts hin8 tyX8 tyX8_ok nmX8 hown hK hG hk15 (cell_8 hq16) rfl 9 (by decide) lk_54 (fun _ h9 => h9) rfl rfl rfl (Nat.le_of_ble_eq_true rfl) (S' := sX S14 k0 9 (-1)) rfl (pu_8_9 hq16 (-1)) dX8_finish_30 (fun H locs hG => ?_)
  obtain ⟨S17, eS_S17⟩ : ∃ z : GS, z = sX S14 k0 9 (-1) := ⟨_, rfl⟩
  have h := h S17 eS_S17
  rw [← eS_S17] at hG
  have hs_S17 : gSh S17 S14 := by rw [eS_S17]; exact gSh.x _ _ _ _
  have hsh := hs_S17.tr hsh
  have hk18 := hs_S17.lt hk15
  have hq19 := hs_S17.kd hq16
  refine lv_aload_n hx hb dX8_finish_33 rfl (lv_at hl 1 rfl) ?_
  refine g_get (ci := 8) (C := RX8) (T := TX8) (N := 12) hx hb hts hin8 hown hK hG hk18 (cell_8 hq19) rfl 5 (by decide) lk_43 (fun _ h9 => h9) (v := rv ad (gR S17 k0 5)) rfl dX8_finish_34 ?_
  obtain ⟨q20, e21, h⟩ := h
  refine W.eq (g2 := F0 m 37 ls [.ref (ad q20)]) (by rw [e21]; rfl) ?_
  obtain ⟨hk22, hq23, h⟩ := h
  refine r_callV (za := za) (k := q20) (ci := 7) (C := RX7) (T := TX7) (N := 3) (As := []) (rest := []) (tX7_endLog l S17 q20  _ h) ⟨hx, hb, hml, hown, hts⟩ (cwV 0 hts gX8_finish_X7_endLog rfl rfl rfl (by decide +kernel) ⟨by decide, by decide⟩) hK hG hA hk22 (cell_7 hq23) rfl rfl hl.1 rfl (Nat.le_of_ble_eq_true rfl) ⟨Nat.zero_le _, Nat.zero_le _⟩ dX8_finish_37 (fun r_9 S24 H locs hp hs_S24 hG => ?_)
  obtain ⟨rfl, h⟩ := hp
  have h := h hs_S24
  refine W.eq (g2 := F0 m 40 ls []) rfl ?_
  have hsh := hs_S24.tr hsh
  have hk26 := hs_S24.lt hk18
  have hq27 := hs_S24.kd hq19
  have hk28 := hs_S24.lt hk22
  have hq29 := hs_S24.kd hq23
  refine lv_aload_n hx hb dX8_finish_40 rfl (lv_at hl 1 rfl) ?_
  refine g_get (ci := 8) (C := RX8) (T := TX8) (N := 12) hx hb hts hin8 hown hK hG hk26 (cell_8 hq27) rfl 6 (by decide) lk_50 (fun _ h9 => h9) (v := rv ad (gR S24 k0 6)) rfl dX8_finish_41 ?_
  obtain ⟨q30, e31, h⟩ := h
  refine W.eq (g2 := F0 m 44 ls [.ref (ad q30)]) (by rw [e31]; rfl) ?_
  obtain ⟨hk32, hq33, h⟩ := h
  refine r_callV (za := za) (k := q30) (ci := 5) (C := RX5) (T := TX5) (N := 6) (As := []) (rest := []) (tX5_endLog l S24 q30  _ h) ⟨hx, hb, hml, hown, hts⟩ (cwV 0 hts gX8_finish_X5_endLog rfl rfl rfl (by decide +kernel) ⟨by decide, by decide⟩) hK hG hA hk32 (cell_5 hq33) rfl rfl hl.1 rfl (Nat.le_of_ble_eq_true rfl) ⟨Nat.zero_le _, Nat.zero_le _⟩ dX8_finish_44 (fun r_9 S34 H locs hp hs_S34 hG => ?_)
  obtain ⟨rfl, h⟩ := hp
  have h := h hs_S34
  refine W.eq (g2 := F0 m 47 ls []) rfl ?_
  have hsh := hs_S34.tr hsh
  have hk36 := hs_S34.lt hk26
  have hq37 := hs_S34.kd hq27
  have hk38 := hs_S34.lt hk28
  have hq39 := hs_S34.kd hq29
  have hk40 := hs_S34.lt hk32
  have hq41 := hs_S34.kd hq33
  refine lv_iload_n hx hb dX8_finish_47 rfl (lv_at hl 0 rfl) ?_
  exact W.iret (v := u4 + u8) hx hb hr (fun t ht hW => r_end (r := some (vI (u4 + u8))) hAe hG hsh ⟨_, rfl, h⟩ rfl ht) hG.2.2.2.2 dX8_finish_48
def wX8_type_28 (Q : Int32 → GS → Prop) (k0 : Nat) (t0 : Int32) (S : GS) : Prop :=
  (t0 = 0 ∨ t0 = 1) ∧ Q t0 S
def wX8_type_27 (Q : Int32 → GS → Prop) (k0 : Nat)  (S : GS) : Prop :=
  wX8_type_28 Q k0 0 S
def wX8_type (S : GS) (k0 : Nat) (x1 : Int32) (Q : Int32 → GS → Prop) : Prop :=
  (x1 < 32 → wX8_type_27 Q k0  S) ∧ (¬ x1 < 32 → ((126 : Int32) < x1 → wX8_type_27 Q k0  S) ∧ (¬ (126 : Int32) < x1 → k0 < gN S ∧ gK S k0 = 8 ∧ ∃ q4 : Nat, gR S k0 0 = some q4 ∧ q4 < gN S ∧ gK S q4 = 6 ∧ wX6_add S q4 x1 (fun u9 S8 => gSh S8 S → (u9 = 0 → wX8_type_27 Q k0  S8) ∧ (¬ u9 = 0 → wX8_type_28 Q k0 1 S8))))
set_option maxHeartbeats 4000000 in
set_option maxRecDepth 100000 in
theorem tX8_type (l : Launch) (S : GS) (k0 : Nat) (x1 : Int32) (Q : Int32 → GS → Prop) (h : wX8_type S k0 x1 Q) : CS l yX8_type wsX8_type 1 S [vR (some k0), vI x1] (fun r S9 => ∃ x, r = some (vI x) ∧ Q x S9) := by
  refine CS.ofW (cc := cX8_type) (maxL := 2) (ret := (some .boolean)) RX8 (by decide) rfl rfl (fun _ _ => Nat.le_of_ble_eq_true rfl) ?_
  intro p e s m args below meth c D Y za ad A ls hAe hx hb hr hml hts hown hlocks hK hA hG hl
  obtain ⟨S0, hS0⟩ : ∃ z : GS, z = S := ⟨_, rfl⟩
  rw [← hS0] at hAe
  rw [← hS0]
  have hin8 : ∀ w ∈ wsX80, w ∈ wsX8_type := by decide +kernel
  have lk_10 := hts (.fieldLink RX8 10 "PauseLog" "pad" "LPauseLog$Text;") (by decide +kernel)
  have b_28 : ∀  (t0 : Int32) (S : GS) (H : Heap) (locs : List Loc) (ls : Array Slot), wX8_type_28 Q k0 t0 S → gSh S S0 → gS D Y ad A s.heap S H locs → lv_has ls 2 [] → W p l e (rmD 1) s m args below meth c H locs 0 0 (MQ below (gE D Y za ad S0 s.heap.size (fun r S9 => ∃ x, r = some (vI x) ∧ Q x S9)) args s 0 0 A) (F0 m 28 ls [.int t0]) := by
    intro  t0 S H locs ls h hsh hG hl
    unfold wX8_type_28 at h
    obtain ⟨hz1, h⟩ := h
    exact W.zret (v := t0) hx hb hr (nar01 hz1) (fun t ht hW => r_end (r := some (vI t0)) hAe hG hsh ⟨_, rfl, h⟩ rfl ht) hG.2.2.2.2 dX8_type_28
  have b_27 : ∀   (S : GS) (H : Heap) (locs : List Loc) (ls : Array Slot), wX8_type_27 Q k0  S → gSh S S0 → gS D Y ad A s.heap S H locs → lv_has ls 2 [] → W p l e (rmD 1) s m args below meth c H locs 0 0 (MQ below (gE D Y za ad S0 s.heap.size (fun r S9 => ∃ x, r = some (vI x) ∧ Q x S9)) args s 0 0 A) (F0 m 27 ls []) := by
    intro   S H locs ls h hsh hG hl
    unfold wX8_type_27 at h
    refine lv_iconst (v := 0) hx hb dX8_type_27 (by decide) ?_
    exact b_28 0 S H locs ls h hsh hG (lv_sub hl [] rfl)
  have hl : lv_has ls 2 [(0, .ref (ad k0)), (1, .int x1)] := hl
  have hsh : gSh S S0 := by rw [hS0]; exact gSh.rf S
  obtain ⟨H, eH⟩ : ∃ z : Heap, z = s.heap := ⟨_, rfl⟩
  obtain ⟨locs, eL⟩ : ∃ z : List Loc, z = [] := ⟨_, rfl⟩
  have hG : gS D Y ad A s.heap S H locs := by rw [eH, eL]; exact hG
  suffices hgoal : W p l e (rmD 1) s m args below meth c H locs 0 0 (MQ below (gE D Y za ad S0 s.heap.size (fun r S9 => ∃ x, r = some (vI x) ∧ Q x S9)) args s 0 0 A) (F0 m 0 ls []) by rw [eH, eL] at hgoal; exact hgoal
  unfold wX8_type at h
  refine lv_iload_n hx hb dX8_type_0 rfl (lv_at hl 1 rfl) ?_
  refine lv_bipush (v := 32) hx hb dX8_type_1 (by decide) ?_
  refine lv_icmp_lt (tgt := 27) hx hb dX8_type_3 (by decide) (fun c_3 => ?_) (fun c_3 => ?_)
  · have h := h.1 c_3
    exact b_27  S H locs ls h hsh hG (lv_sub hl [] rfl)
  · have h := h.2 c_3
    refine lv_iload_n hx hb dX8_type_6 rfl (lv_at hl 1 rfl) ?_
    refine lv_bipush (v := 126) hx hb dX8_type_7 (by decide) ?_
    refine lv_icmp_gt (tgt := 27) hx hb dX8_type_9 (by decide) (fun c_9 => ?_) (fun c_9 => ?_)
    · have h := h.1 c_9
      exact b_27  S H locs ls h hsh hG (lv_sub hl [] rfl)
    · have h := h.2 c_9
      refine lv_aload_n hx hb dX8_type_12 rfl (lv_at hl 0 rfl) ?_
      obtain ⟨hk2, hq3, h⟩ := h
      refine g_get (ci := 8) (C := RX8) (T := TX8) (N := 12) hx hb hts hin8 hown hK hG hk2 (cell_8 hq3) rfl 0 (by decide) lk_10 (fun _ h9 => h9) (v := rv ad (gR S k0 0)) rfl dX8_type_13 ?_
      refine lv_iload_n hx hb dX8_type_16 rfl (lv_at hl 1 rfl) ?_
      obtain ⟨q4, e5, h⟩ := h
      refine W.eq (g2 := F0 m 17 ls [.int x1, .ref (ad q4)]) (by rw [e5]; rfl) ?_
      obtain ⟨hk6, hq7, h⟩ := h
      refine r_callV (za := za) (k := q4) (ci := 6) (C := RX6) (T := TX6) (N := 2) (As := [vI x1]) (rest := []) (tX6_add l S q4 x1 _ h) ⟨hx, hb, hml, hown, hts⟩ (cwV 1 hts gX8_type_X6_add rfl rfl rfl (by decide +kernel) ⟨by decide, by decide⟩) hK hG hA hk6 (cell_6 hq7) rfl rfl hl.1 rfl (Nat.le_of_ble_eq_true rfl) ⟨Nat.zero_le _, Nat.zero_le _⟩ dX8_type_17 (fun r_9 S8 H locs hp hs_S8 hG => ?_)
      obtain ⟨u9, rfl, h⟩ := hp
      have h := h hs_S8
      refine W.eq (g2 := F0 m 20 ls [.int u9]) rfl ?_
      have hsh := hs_S8.tr hsh
      have hk10 := hs_S8.lt hk2
      have hq11 := hs_S8.kd hq3
      have hk12 := hs_S8.lt hk6
      have hq13 := hs_S8.kd hq7
      refine lv_if_eq (tgt := 27) hx hb dX8_type_20 (by decide) (fun c_20 => ?_) (fun c_20 => ?_)
      · have h := h.1 c_20
        exact b_27  S8 H locs ls h hsh hG (lv_sub hl [] rfl)
      · have h := h.2 c_20
        refine lv_iconst (v := 1) hx hb dX8_type_23 (by decide) ?_
        refine lv_goto (tgt := 28) hx hb dX8_type_24 (by decide) ?_
        exact b_28 1 S8 H locs ls h hsh hG (lv_sub hl [] rfl)
