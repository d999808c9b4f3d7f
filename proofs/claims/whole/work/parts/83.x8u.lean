def wX8_event_23 (Q : Int32 → GS → Prop) (X : String → GS → Prop) (k0 : Nat)  (S : GS) : Prop :=
  X "java/lang/IndexOutOfBoundsException" S
def wX8_event (S : GS) (k0 : Nat) (x1 : Int32) (x2 : Int32) (Q : Int32 → GS → Prop) (X : String → GS → Prop) : Prop :=
  k0 < gN S ∧ gK S k0 = 8 ∧ ∃ q3 : Nat, gR S k0 3 = some q3 ∧ q3 < gN S ∧ gK S q3 = 3 ∧ wX3_get S q3 x1 (fun u8 S7 => gSh S7 S → (u8 = none → wX8_event_23 Q X k0  S7) ∧ (∀ q13 : Nat, u8 = some q13 → (x2 < 0 → wX8_event_23 Q X k0  S7) ∧ (¬ x2 < 0 → (x2 < 14 → q13 < gN S7 ∧ gK S7 q13 = 2 ∧ wX2_fact S7 q13 x2 (fun u18 S17 => gSh S17 S7 → Q u18 S17)) ∧ (¬ x2 < 14 → wX8_event_23 Q X k0  S7))))
set_option maxHeartbeats 4000000 in
set_option maxRecDepth 100000 in
theorem tX8_event (l : Launch) (hst : l.stackTraces = false) (S : GS) (k0 : Nat) (x1 : Int32) (x2 : Int32) (Q : Int32 → GS → Prop) (X : String → GS → Prop) (h : wX8_event S k0 x1 x2 Q X) : CT l yX8_event wsX8_event 6 S (gA [vR (some k0), vI x1, vI x2]) (fun r S9 => ∃ x, r = some (vI x) ∧ Q x S9) X := by
  refine CT.ofW (cc := cX8_event) (maxL := 4) (ret := (some .int)) RX8 (by decide) rfl rfl (fun _ _ _ => Nat.le_of_ble_eq_true rfl) ?_
  intro p e s m args below meth c D Y za zv ad A ls hAe hx hb hr hml hnt hts hown hlocks hK hZ hA hG hl
  obtain ⟨S0, hS0⟩ : ∃ z : GS, z = S := ⟨_, rfl⟩
  rw [← hS0] at hAe
  rw [← hS0]
  have hin8 : ∀ w ∈ wsX80, w ∈ wsX8_event := by decide +kernel
  have lk_29 := hts (.fieldLink RX8 29 "PauseLog" "events" "LPauseLog$Events;") (by decide +kernel)
  have hgw_B : ∀ w ∈ (vx_atS RX8 163 "java/lang/IndexOutOfBoundsException" ["java/lang/RuntimeException", "java/lang/Exception"]).filter goodWord, w ∈ wsX8_event := by decide +kernel
  have b_23 : ∀   (S : GS) (H : Heap) (locs : List Loc) (ls : Array Slot), wX8_event_23 Q X k0  S → gSh S S0 → gS D Y ad A s.heap S H locs → lv_has ls 4 [] → W p l e (rmX 6) s m args below meth c H locs 0 0 (vx_MQ below (gE D Y za ad S0 s.heap.size (fun r S9 => ∃ x, r = some (vI x) ∧ Q x S9)) (gXc D Y ad S0 s.heap.size X) args s 1 6 A) (F0 m 23 ls []) := by
    intro   S H locs ls h hsh hG hl
    unfold wX8_event_23 at h
    exact vx_throwS (names := ["java/lang/RuntimeException", "java/lang/Exception"]) hx hb hst hown (by decide) (by decide) (hts (.classLink RX8 159 "java/lang/IndexOutOfBoundsException") (by decide +kernel)) (hts (.initialized "java/lang/IndexOutOfBoundsException") (by decide +kernel)) (hZ.2.2.2.1 3 (by decide)) (vx_hat (fun w hw => hts w (hgw_B w hw)) zbad_B (fun w hw => va_Nw.use (zBad_ot w hw) (hZ.2.2.2.2.2.2.2.1 w hw))) zgood_B hZ.2.2.2.2.2.1 hZ.2.2.2.2.2.2.1 hG.2.2 (hl.1.trans hml.symm) dX8_event_23 dX8_event_26 dX8_event_27 dX8_event_29 dX8_event_32 (fun x hx => (hnt x hx).elim) (by decide) (Nat.le_of_ble_eq_true rfl) (Nat.le_refl _) (Nat.le_refl _) hlocks (fun t hvm hsz hkp => gXc_of hAe hG hsh h hsz hkp) hG.2.2.2.2 (Nat.le_refl _) (Nat.le_refl _)
  have hl : lv_has ls 4 [(0, .ref (ad k0)), (1, .int x1), (2, .int x2)] := hl
  have hsh : gSh S S0 := by rw [hS0]; exact gSh.rf S
  obtain ⟨H, eH⟩ : ∃ z : Heap, z = s.heap := ⟨_, rfl⟩
  obtain ⟨locs, eL⟩ : ∃ z : List Loc, z = [] := ⟨_, rfl⟩
  have hG : gS D Y ad A s.heap S H locs := by rw [eH, eL]; exact hG
  suffices hgoal : W p l e (rmX 6) s m args below meth c H locs 0 0 (vx_MQ below (gE D Y za ad S0 s.heap.size (fun r S9 => ∃ x, r = some (vI x) ∧ Q x S9)) (gXc D Y ad S0 s.heap.size X) args s 1 6 A) (F0 m 0 ls []) by rw [eH, eL] at hgoal; exact hgoal
  unfold wX8_event at h
  refine lv_aload_n hx hb dX8_event_0 rfl (lv_at hl 0 rfl) ?_
  obtain ⟨hk1, hq2, h⟩ := h
  refine g_get (ci := 8) (C := RX8) (T := TX8) (N := 12) hx hb hts hin8 hown hK hG hk1 (cell_8 hq2) rfl 3 (by decide) lk_29 (fun _ h9 => h9) (v := rv ad (gR S k0 3)) rfl dX8_event_1 ?_
  refine lv_iload_n hx hb dX8_event_4 rfl (lv_at hl 1 rfl) ?_
  obtain ⟨q3, e4, h⟩ := h
  refine W.eq (g2 := F0 m 5 ls [.int x1, .ref (ad q3)]) (by rw [e4]; rfl) ?_
  obtain ⟨hk5, hq6, h⟩ := h
  refine r_callV (za := za) (k := q3) (ci := 3) (C := RX3) (T := TX3) (N := 2) (As := [vI x1]) (rest := []) (tX3_get l S q3 x1 _ h) ⟨hx, hb, hml, hown, hts⟩ (cwV 1 hts gX8_event_X3_get rfl rfl rfl (by decide +kernel) ⟨by decide, by decide⟩) hK hG hA hk5 (cell_3 hq6) rfl rfl hl.1 rfl (Nat.le_of_ble_eq_true rfl) ⟨Nat.zero_le _, Nat.zero_le _⟩ dX8_event_5 (fun r_9 S7 H locs hp hs_S7 hG => ?_)
  obtain ⟨u8, rfl, h⟩ := hp
  have h := h hs_S7
  refine W.eq (g2 := F0 m 8 ls [rv ad u8]) rfl ?_
  have hsh := hs_S7.tr hsh
  have hk9 := hs_S7.lt hk1
  have hq10 := hs_S7.kd hq2
  have hk11 := hs_S7.lt hk5
  have hq12 := hs_S7.kd hq6
  refine r_astore_n (lv' := [(3, rv ad u8), (0, .ref (ad k0)), (1, .int x1), (2, .int x2)]) hx hb dX8_event_8 rfl hl (by decide) rfl (fun ls hl => ?_)
  refine r_aload_n hx hb dX8_event_9 rfl (lv_at hl 0 rfl) ?_
  cases e14 : u8 with
  | none =>
    have h := h.1 e14
    refine W.eq (g2 := F0 m 10 ls [.null]) (by first | rfl | rw [e14]; rfl) ?_
    refine lv_ifnullN (tgt := 23) hx hb dX8_event_10 (by decide) ?_
    exact b_23  S7 H locs ls h hsh hG (lv_sub hl [] rfl)
  | some q13 =>
    have h := h.2 q13 e14
    refine W.eq (g2 := F0 m 10 ls [.ref (ad q13)]) (by first | rfl | rw [e14]; rfl) ?_
    refine lv_ifnull hx hb dX8_event_10 ?_
    refine lv_iload_n hx hb dX8_event_13 rfl (lv_at hl 3 rfl) ?_
    refine lv_if_lt (tgt := 23) hx hb dX8_event_14 (by decide) (fun c_14 => ?_) (fun c_14 => ?_)
    · have h := h.1 c_14
      exact b_23  S7 H locs ls h hsh hG (lv_sub hl [] rfl)
    · have h := h.2 c_14
      refine lv_iload_n hx hb dX8_event_17 rfl (lv_at hl 3 rfl) ?_
      refine lv_bipush (v := 14) hx hb dX8_event_18 (by decide) ?_
      refine lv_icmp_lt (tgt := 33) hx hb dX8_event_20 (by decide) (fun c_20 => ?_) (fun c_20 => ?_)
      · have h := h.1 c_20
        refine r_aload_n hx hb dX8_event_33 rfl (lv_at hl 0 rfl) ?_
        refine lv_iload_n hx hb dX8_event_34 rfl (lv_at hl 3 rfl) ?_
        refine W.eq (g2 := F0 m 35 ls [.int x2, .ref (ad q13)]) (by rw [e14]; rfl) ?_
        obtain ⟨hk15, hq16, h⟩ := h
        refine r_callV (za := za) (k := q13) (ci := 2) (C := RX2) (T := TX2) (N := 15) (As := [vI x2]) (rest := []) (tX2_fact l S7 q13 x2 _ h) ⟨hx, hb, hml, hown, hts⟩ (cwV 1 hts gX8_event_X2_fact rfl rfl rfl (by decide +kernel) ⟨by decide, by decide⟩) hK hG hA hk15 (cell_2 hq16) rfl rfl hl.1 rfl (Nat.le_of_ble_eq_true rfl) ⟨Nat.zero_le _, Nat.zero_le _⟩ dX8_event_35 (fun r_9 S17 H locs hp hs_S17 hG => ?_)
        obtain ⟨u18, rfl, h⟩ := hp
        have h := h hs_S17
        refine W.eq (g2 := F0 m 38 ls [.int u18]) rfl ?_
        have hsh := hs_S17.tr hsh
        have hk19 := hs_S17.lt hk9
        have hq20 := hs_S17.kd hq10
        have hk21 := hs_S17.lt hk11
        have hq22 := hs_S17.kd hq12
        have hk23 := hs_S17.lt hk15
        have hq24 := hs_S17.kd hq16
        exact vx_ret (W.widen (k := 1) (n := 6) (Nat.zero_le _) (Nat.zero_le _) (W.iret (v := u18) hx hb hr (fun t ht hW => r_end (r := some (vI u18)) hAe hG hsh ⟨_, rfl, h⟩ rfl ht) hG.2.2.2.2 dX8_event_38))
      · have h := h.2 c_20
        exact b_23  S7 H locs ls h hsh hG (lv_sub hl [] rfl)
def wX8_shown_32 (Q : Int32 → GS → Prop) (X : String → GS → Prop) (k0 : Nat)  (S : GS) : Prop :=
  X "java/lang/IndexOutOfBoundsException" S
def wX8_shown (S : GS) (k0 : Nat) (x1 : Int32) (x2 : Int32) (x3 : Int32) (Q : Int32 → GS → Prop) (X : String → GS → Prop) : Prop :=
  k0 < gN S ∧ gK S k0 = 8 ∧ ∃ q3 : Nat, gR S k0 3 = some q3 ∧ q3 < gN S ∧ gK S q3 = 3 ∧ wX3_get S q3 x1 (fun u8 S7 => gSh S7 S → (u8 = none → wX8_shown_32 Q X k0  S7) ∧ (∀ q13 : Nat, u8 = some q13 → (x2 < 0 → wX8_shown_32 Q X k0  S7) ∧ (¬ x2 < 0 → q13 < gN S7 ∧ gK S7 q13 = 2 ∧ ((gX S7 q13 14) ≤ x2 → wX8_shown_32 Q X k0  S7) ∧ (¬ (gX S7 q13 14) ≤ x2 → ((0 : Int32) ≤ x3 → ∃ q17 : Nat, gR S7 k0 2 = some q17 ∧ wX2_tell S7 q13 x2 q17 (fun S19 => gSh S19 S7 → ∃ q27 : Nat, gR S19 k0 1 = some q27 ∧ ∃ q29 : Nat, gR S19 k0 2 = some q29 ∧ q29 < gN S19 ∧ gK S19 q29 = 1 ∧ wX1_putOn S19 q29 q27 (fun S33 => gSh S33 S19 → ∃ q43 : Nat, gR S33 k0 1 = some q43 ∧ q43 < gN S33 ∧ gK S33 q43 = 6 ∧ wX6_get S33 q43 x3 (fun u48 S47 => gSh S47 S33 → Q u48 S47)))) ∧ (¬ (0 : Int32) ≤ x3 → wX8_shown_32 Q X k0  S7)))))
set_option maxHeartbeats 4000000 in
set_option maxRecDepth 100000 in
theorem tX8_shown (l : Launch) (hst : l.stackTraces = false) (S : GS) (k0 : Nat) (x1 : Int32) (x2 : Int32) (x3 : Int32) (Q : Int32 → GS → Prop) (X : String → GS → Prop) (h : wX8_shown S k0 x1 x2 x3 Q X) : CT l yX8_shown wsX8_shown 8 S (gA [vR (some k0), vI x1, vI x2, vI x3]) (fun r S9 => ∃ x, r = some (vI x) ∧ Q x S9) X := by
  refine CT.ofW (cc := cX8_shown) (maxL := 5) (ret := (some .int)) RX8 (by decide) rfl rfl (fun _ _ _ => Nat.le_of_ble_eq_true rfl) ?_
  intro p e s m args below meth c D Y za zv ad A ls hAe hx hb hr hml hnt hts hown hlocks hK hZ hA hG hl
  obtain ⟨S0, hS0⟩ : ∃ z : GS, z = S := ⟨_, rfl⟩
  rw [← hS0] at hAe
  rw [← hS0]
  have hin2 : ∀ w ∈ wsX20, w ∈ wsX8_shown := by decide +kernel
  have hin8 : ∀ w ∈ wsX80, w ∈ wsX8_shown := by decide +kernel
  have lk_29 := hts (.fieldLink RX8 29 "PauseLog" "events" "LPauseLog$Events;") (by decide +kernel)
  have lk_169 := hts (.fieldLink RX8 169 "PauseLog$Event" "lines" "I") (by decide +kernel)
  have lk_22 := hts (.fieldLink RX8 22 "PauseLog" "entry" "LPauseLog$Entry;") (by decide +kernel)
  have lk_16 := hts (.fieldLink RX8 16 "PauseLog" "page" "LPauseLog$Text;") (by decide +kernel)
  have hgw_B : ∀ w ∈ (vx_atS RX8 163 "java/lang/IndexOutOfBoundsException" ["java/lang/RuntimeException", "java/lang/Exception"]).filter goodWord, w ∈ wsX8_shown := by decide +kernel
  have b_32 : ∀   (S : GS) (H : Heap) (locs : List Loc) (ls : Array Slot), wX8_shown_32 Q X k0  S → gSh S S0 → gS D Y ad A s.heap S H locs → lv_has ls 5 [] → W p l e (rmX 8) s m args below meth c H locs 0 0 (vx_MQ below (gE D Y za ad S0 s.heap.size (fun r S9 => ∃ x, r = some (vI x) ∧ Q x S9)) (gXc D Y ad S0 s.heap.size X) args s 1 6 A) (F0 m 32 ls []) := by
    intro   S H locs ls h hsh hG hl
    unfold wX8_shown_32 at h
    exact vx_throwS (names := ["java/lang/RuntimeException", "java/lang/Exception"]) hx hb hst hown (by decide) (by decide) (hts (.classLink RX8 159 "java/lang/IndexOutOfBoundsException") (by decide +kernel)) (hts (.initialized "java/lang/IndexOutOfBoundsException") (by decide +kernel)) (hZ.2.2.2.1 4 (by decide)) (vx_hat (fun w hw => hts w (hgw_B w hw)) zbad_B (fun w hw => va_Nw.use (zBad_ot w hw) (hZ.2.2.2.2.2.2.2.1 w hw))) zgood_B hZ.2.2.2.2.2.1 hZ.2.2.2.2.2.2.1 hG.2.2 (hl.1.trans hml.symm) dX8_shown_32 dX8_shown_35 dX8_shown_36 dX8_shown_38 dX8_shown_41 (fun x hx => (hnt x hx).elim) (by decide) (Nat.le_of_ble_eq_true rfl) (Nat.le_refl _) (Nat.le_refl _) hlocks (fun t hvm hsz hkp => gXc_of hAe hG hsh h hsz hkp) hG.2.2.2.2 (Nat.le_refl _) (Nat.le_refl _)
  have hl : lv_has ls 5 [(0, .ref (ad k0)), (1, .int x1), (2, .int x2), (3, .int x3)] := hl
  have hsh : gSh S S0 := by rw [hS0]; exact gSh.rf S
  obtain ⟨H, eH⟩ : ∃ z : Heap, z = s.heap := ⟨_, rfl⟩
  obtain ⟨locs, eL⟩ : ∃ z : List Loc, z = [] := ⟨_, rfl⟩
  have hG : gS D Y ad A s.heap S H locs := by rw [eH, eL]; exact hG
  suffices hgoal : W p l e (rmX 8) s m args below meth c H locs 0 0 (vx_MQ below (gE D Y za ad S0 s.heap.size (fun r S9 => ∃ x, r = some (vI x) ∧ Q x S9)) (gXc D Y ad S0 s.heap.size X) args s 1 6 A) (F0 m 0 ls []) by rw [eH, eL] at hgoal; exact hgoal
  unfold wX8_shown at h
  refine lv_aload_n hx hb dX8_shown_0 rfl (lv_at hl 0 rfl) ?_
  obtain ⟨hk1, hq2, h⟩ := h
  refine g_get (ci := 8) (C := RX8) (T := TX8) (N := 12) hx hb hts hin8 hown hK hG hk1 (cell_8 hq2) rfl 3 (by decide) lk_29 (fun _ h9 => h9) (v := rv ad (gR S k0 3)) rfl dX8_shown_1 ?_
  refine lv_iload_n hx hb dX8_shown_4 rfl (lv_at hl 1 rfl) ?_
  obtain ⟨q3, e4, h⟩ := h
  refine W.eq (g2 := F0 m 5 ls [.int x1, .ref (ad q3)]) (by rw [e4]; rfl) ?_
  obtain ⟨hk5, hq6, h⟩ := h
  refine r_callV (za := za) (k := q3) (ci := 3) (C := RX3) (T := TX3) (N := 2) (As := [vI x1]) (rest := []) (tX3_get l S q3 x1 _ h) ⟨hx, hb, hml, hown, hts⟩ (cwV 1 hts gX8_shown_X3_get rfl rfl rfl (by decide +kernel) ⟨by decide, by decide⟩) hK hG hA hk5 (cell_3 hq6) rfl rfl hl.1 rfl (Nat.le_of_ble_eq_true rfl) ⟨Nat.zero_le _, Nat.zero_le _⟩ dX8_shown_5 (fun r_9 S7 H locs hp hs_S7 hG => ?_)
  obtain ⟨u8, rfl, h⟩ := hp
  have h := h hs_S7
  refine W.eq (g2 := F0 m 8 ls [rv ad u8]) rfl ?_
  have hsh := hs_S7.tr hsh
  have hk9 := hs_S7.lt hk1
  have hq10 := hs_S7.kd hq2
  have hk11 := hs_S7.lt hk5
  have hq12 := hs_S7.kd hq6
  refine r_astore (lv' := [(4, rv ad u8), (0, .ref (ad k0)), (1, .int x1), (2, .int x2), (3, .int x3)]) hx hb dX8_shown_8 hl (by decide) rfl (fun ls hl => ?_)
  refine r_aload hx hb dX8_shown_10 (lv_at hl 0 rfl) ?_
  cases e14 : u8 with
  | none =>
    have h := h.1 e14
    refine W.eq (g2 := F0 m 12 ls [.null]) (by first | rfl | rw [e14]; rfl) ?_
    refine lv_ifnullN (tgt := 32) hx hb dX8_shown_12 (by decide) ?_
    exact b_32  S7 H locs ls h hsh hG (lv_sub hl [] rfl)
  | some q13 =>
    have h := h.2 q13 e14
    refine W.eq (g2 := F0 m 12 ls [.ref (ad q13)]) (by first | rfl | rw [e14]; rfl) ?_
    refine lv_ifnull hx hb dX8_shown_12 ?_
    refine lv_iload_n hx hb dX8_shown_15 rfl (lv_at hl 3 rfl) ?_
    refine lv_if_lt (tgt := 32) hx hb dX8_shown_16 (by decide) (fun c_16 => ?_) (fun c_16 => ?_)
    · have h := h.1 c_16
      exact b_32  S7 H locs ls h hsh hG (lv_sub hl [] rfl)
    · have h := h.2 c_16
      refine lv_iload_n hx hb dX8_shown_19 rfl (lv_at hl 3 rfl) ?_
      refine r_aload hx hb dX8_shown_20 (lv_at hl 0 rfl) ?_
      refine W.eq (g2 := F0 m 22 ls [.ref (ad q13), .int x2]) (by rw [e14]; rfl) ?_
      obtain ⟨hk15, hq16, h⟩ := h
      refine g_get (ci := 2) (C := RX2) (T := TX2) (N := 15) hx hb hts hin2 hown hK hG hk15 (cell_2 hq16) rfl 14 (by decide) lk_169 (fun _ h9 => h9) (v := .int (gX S7 q13 14)) rfl dX8_shown_22 ?_
      refine lv_icmp_ge (tgt := 32) hx hb dX8_shown_25 (by decide) (fun c_25 => ?_) (fun c_25 => ?_)
      · have h := h.1 c_25
        exact b_32  S7 H locs ls h hsh hG (lv_sub hl [] rfl)
      · have h := h.2 c_25
        refine lv_iload_n hx hb dX8_shown_28 rfl (lv_at hl 4 rfl) ?_
        refine lv_if_ge (tgt := 42) hx hb dX8_shown_29 (by decide) (fun c_29 => ?_) (fun c_29 => ?_)
        · have h := h.1 c_29
          refine r_aload hx hb dX8_shown_42 (lv_at hl 0 rfl) ?_
          refine lv_iload_n hx hb dX8_shown_44 rfl (lv_at hl 3 rfl) ?_
          refine lv_aload_n hx hb dX8_shown_45 rfl (lv_at hl 1 rfl) ?_
          refine g_get (ci := 8) (C := RX8) (T := TX8) (N := 12) hx hb hts hin8 hown hK hG hk9 (cell_8 hq10) rfl 2 (by decide) lk_22 (fun _ h9 => h9) (v := rv ad (gR S7 k0 2)) rfl dX8_shown_46 ?_
          obtain ⟨q17, e18, h⟩ := h
          refine W.eq (g2 := F0 m 49 ls [.ref (ad q17), .int x2, rv ad u8]) (by rw [e18]; rfl) ?_
          refine W.eq (g2 := F0 m 49 ls [.ref (ad q17), .int x2, .ref (ad q13)]) (by rw [e14]; rfl) ?_
          refine r_callV (za := za) (k := q13) (ci := 2) (C := RX2) (T := TX2) (N := 15) (As := [vI x2, vR (some q17)]) (rest := []) (tX2_tell l S7 q13 x2 q17 _ h) ⟨hx, hb, hml, hown, hts⟩ (cwV 2 hts gX8_shown_X2_tell rfl rfl rfl (by decide +kernel) ⟨by decide, by decide⟩) hK hG hA hk15 (cell_2 hq16) rfl rfl hl.1 rfl (Nat.le_of_ble_eq_true rfl) ⟨Nat.zero_le _, Nat.zero_le _⟩ dX8_shown_49 (fun r_9 S19 H locs hp hs_S19 hG => ?_)
          obtain ⟨rfl, h⟩ := hp
          have h := h hs_S19
          refine W.eq (g2 := F0 m 52 ls []) rfl ?_
          have hsh := hs_S19.tr hsh
          have hk21 := hs_S19.lt hk9
          have hq22 := hs_S19.kd hq10
          have hk23 := hs_S19.lt hk11
          have hq24 := hs_S19.kd hq12
          have hk25 := hs_S19.lt hk15
          have hq26 := hs_S19.kd hq16
          refine lv_aload_n hx hb dX8_shown_52 rfl (lv_at hl 1 rfl) ?_
          refine g_get (ci := 8) (C := RX8) (T := TX8) (N := 12) hx hb hts hin8 hown hK hG hk21 (cell_8 hq22) rfl 2 (by decide) lk_22 (fun _ h9 => h9) (v := rv ad (gR S19 k0 2)) rfl dX8_shown_53 ?_
          refine lv_aload_n hx hb dX8_shown_56 rfl (lv_at hl 1 rfl) ?_
          refine g_get (ci := 8) (C := RX8) (T := TX8) (N := 12) hx hb hts hin8 hown hK hG hk21 (cell_8 hq22) rfl 1 (by decide) lk_16 (fun _ h9 => h9) (v := rv ad (gR S19 k0 1)) rfl dX8_shown_57 ?_
          obtain ⟨q27, e28, h⟩ := h
          refine W.eq (g2 := F0 m 60 ls [.ref (ad q27), rv ad (gR S19 k0 2)]) (by rw [e28]; rfl) ?_
          obtain ⟨q29, e30, h⟩ := h
          refine W.eq (g2 := F0 m 60 ls [.ref (ad q27), .ref (ad q29)]) (by rw [e30]; rfl) ?_
          obtain ⟨hk31, hq32, h⟩ := h
          refine z_callV (As := [.ref (ad q27)]) (rest := []) (tX1_putOn l S19 q29 q27 _ h) rfl ⟨hx, hb, hml, hown, hts⟩ (cwV 1 hts gX8_shown_X1_putOn rfl rfl rfl (by decide +kernel) ⟨by decide, by decide⟩) hK hZ hG hA (va_recv hK hG.1 (ci := 1) (q := (RX1, TX1, 9)) rfl (wl_get hk31 (cell_1 hq32))) rfl hl.1 rfl (Nat.le_of_ble_eq_true rfl) ⟨Nat.zero_le _, Nat.zero_le _⟩ dX8_shown_60 (fun r_9 S33 H locs hp hs_S33 hG => ?_)
          obtain ⟨rfl, h⟩ := hp
          have h := h hs_S33
          refine W.eq (g2 := F0 m 63 ls []) rfl ?_
          have hsh := hs_S33.tr hsh
          have hk35 := hs_S33.lt hk21
          have hq36 := hs_S33.kd hq22
          have hk37 := hs_S33.lt hk23
          have hq38 := hs_S33.kd hq24
          have hk39 := hs_S33.lt hk25
          have hq40 := hs_S33.kd hq26
          have hk41 := hs_S33.lt hk31
          have hq42 := hs_S33.kd hq32
          refine lv_aload_n hx hb dX8_shown_63 rfl (lv_at hl 1 rfl) ?_
          refine g_get (ci := 8) (C := RX8) (T := TX8) (N := 12) hx hb hts hin8 hown hK hG hk35 (cell_8 hq36) rfl 1 (by decide) lk_16 (fun _ h9 => h9) (v := rv ad (gR S33 k0 1)) rfl dX8_shown_64 ?_
          refine lv_iload_n hx hb dX8_shown_67 rfl (lv_at hl 4 rfl) ?_
          obtain ⟨q43, e44, h⟩ := h
          refine W.eq (g2 := F0 m 68 ls [.int x3, .ref (ad q43)]) (by rw [e44]; rfl) ?_
          obtain ⟨hk45, hq46, h⟩ := h
          refine r_callV (za := za) (k := q43) (ci := 6) (C := RX6) (T := TX6) (N := 2) (As := [vI x3]) (rest := []) (tX6_get l S33 q43 x3 _ h) ⟨hx, hb, hml, hown, hts⟩ (cwV 1 hts gX8_shown_X6_get rfl rfl rfl (by decide +kernel) ⟨by decide, by decide⟩) hK hG hA hk45 (cell_6 hq46) rfl rfl hl.1 rfl (Nat.le_of_ble_eq_true rfl) ⟨Nat.zero_le _, Nat.zero_le _⟩ dX8_shown_68 (fun r_9 S47 H locs hp hs_S47 hG => ?_)
          obtain ⟨u48, rfl, h⟩ := hp
          have h := h hs_S47
          refine W.eq (g2 := F0 m 71 ls [.int u48]) rfl ?_
          have hsh := hs_S47.tr hsh
          have hk49 := hs_S47.lt hk35
          have hq50 := hs_S47.kd hq36
          have hk51 := hs_S47.lt hk37
          have hq52 := hs_S47.kd hq38
          have hk53 := hs_S47.lt hk39
          have hq54 := hs_S47.kd hq40
          have hk55 := hs_S47.lt hk41
          have hq56 := hs_S47.kd hq42
          have hk57 := hs_S47.lt hk45
          have hq58 := hs_S47.kd hq46
          exact vx_ret (W.widen (k := 1) (n := 6) (Nat.zero_le _) (Nat.zero_le _) (W.iret (v := u48) hx hb hr (fun t ht hW => r_end (r := some (vI u48)) hAe hG hsh ⟨_, rfl, h⟩ rfl ht) hG.2.2.2.2 dX8_shown_71))
        · have h := h.2 c_29
          exact b_32  S7 H locs ls h hsh hG (lv_sub hl [] rfl)
def wX8_diagnostic_20 (Q : Int32 → GS → Prop) (X : String → GS → Prop) (k0 : Nat)  (S : GS) : Prop :=
  X "java/lang/IndexOutOfBoundsException" S
def wX8_diagnostic (S : GS) (k0 : Nat) (x1 : Int32) (x2 : Int32) (Q : Int32 → GS → Prop) (X : String → GS → Prop) : Prop :=
  k0 < gN S ∧ gK S k0 = 8 ∧ ∃ q3 : Nat, gR S k0 4 = some q3 ∧ q3 < gN S ∧ gK S q3 = 0 ∧ wX0_has S q3 x1 (fun u8 S7 => gSh S7 S → (u8 = 0 → wX8_diagnostic_20 Q X k0  S7) ∧ (¬ u8 = 0 → (x2 < 0 → wX8_diagnostic_20 Q X k0  S7) ∧ (¬ x2 < 0 → (x2 ≤ 2 → ∃ q13 : Nat, gR S7 k0 4 = some q13 ∧ q13 < gN S7 ∧ gK S7 q13 = 0 ∧ wX0_fact S7 q13 x1 x2 (fun u18 S17 => gSh S17 S7 → Q u18 S17)) ∧ (¬ x2 ≤ 2 → wX8_diagnostic_20 Q X k0  S7))))
set_option maxHeartbeats 4000000 in
set_option maxRecDepth 100000 in
theorem tX8_diagnostic (l : Launch) (hst : l.stackTraces = false) (S : GS) (k0 : Nat) (x1 : Int32) (x2 : Int32) (Q : Int32 → GS → Prop) (X : String → GS → Prop) (h : wX8_diagnostic S k0 x1 x2 Q X) : CT l yX8_diagnostic wsX8_diagnostic 6 S (gA [vR (some k0), vI x1, vI x2]) (fun r S9 => ∃ x, r = some (vI x) ∧ Q x S9) X := by
  refine CT.ofW (cc := cX8_diagnostic) (maxL := 3) (ret := (some .int)) RX8 (by decide) rfl rfl (fun _ _ _ => Nat.le_of_ble_eq_true rfl) ?_
  intro p e s m args below meth c D Y za zv ad A ls hAe hx hb hr hml hnt hts hown hlocks hK hZ hA hG hl
  obtain ⟨S0, hS0⟩ : ∃ z : GS, z = S := ⟨_, rfl⟩
  rw [← hS0] at hAe
  rw [← hS0]
  have hin8 : ∀ w ∈ wsX80, w ∈ wsX8_diagnostic := by decide +kernel
  have lk_36 := hts (.fieldLink RX8 36 "PauseLog" "diagnostics" "LPauseLog$Diagnostics;") (by decide +kernel)
  have hgw_B : ∀ w ∈ (vx_atS RX8 163 "java/lang/IndexOutOfBoundsException" ["java/lang/RuntimeException", "java/lang/Exception"]).filter goodWord, w ∈ wsX8_diagnostic := by decide +kernel
  have b_20 : ∀   (S : GS) (H : Heap) (locs : List Loc) (ls : Array Slot), wX8_diagnostic_20 Q X k0  S → gSh S S0 → gS D Y ad A s.heap S H locs → lv_has ls 3 [] → W p l e (rmX 6) s m args below meth c H locs 0 0 (vx_MQ below (gE D Y za ad S0 s.heap.size (fun r S9 => ∃ x, r = some (vI x) ∧ Q x S9)) (gXc D Y ad S0 s.heap.size X) args s 1 6 A) (F0 m 20 ls []) := by
    intro   S H locs ls h hsh hG hl
    unfold wX8_diagnostic_20 at h
    exact vx_throwS (names := ["java/lang/RuntimeException", "java/lang/Exception"]) hx hb hst hown (by decide) (by decide) (hts (.classLink RX8 159 "java/lang/IndexOutOfBoundsException") (by decide +kernel)) (hts (.initialized "java/lang/IndexOutOfBoundsException") (by decide +kernel)) (hZ.2.2.2.1 5 (by decide)) (vx_hat (fun w hw => hts w (hgw_B w hw)) zbad_B (fun w hw => va_Nw.use (zBad_ot w hw) (hZ.2.2.2.2.2.2.2.1 w hw))) zgood_B hZ.2.2.2.2.2.1 hZ.2.2.2.2.2.2.1 hG.2.2 (hl.1.trans hml.symm) dX8_diagnostic_20 dX8_diagnostic_23 dX8_diagnostic_24 dX8_diagnostic_26 dX8_diagnostic_29 (fun x hx => (hnt x hx).elim) (by decide) (Nat.le_of_ble_eq_true rfl) (Nat.le_refl _) (Nat.le_refl _) hlocks (fun t hvm hsz hkp => gXc_of hAe hG hsh h hsz hkp) hG.2.2.2.2 (Nat.le_refl _) (Nat.le_refl _)
  have hl : lv_has ls 3 [(0, .ref (ad k0)), (1, .int x1), (2, .int x2)] := hl
  have hsh : gSh S S0 := by rw [hS0]; exact gSh.rf S
  obtain ⟨H, eH⟩ : ∃ z : Heap, z = s.heap := ⟨_, rfl⟩
  obtain ⟨locs, eL⟩ : ∃ z : List Loc, z = [] := ⟨_, rfl⟩
  have hG : gS D Y ad A s.heap S H locs := by rw [eH, eL]; exact hG
  suffices hgoal : W p l e (rmX 6) s m args below meth c H locs 0 0 (vx_MQ below (gE D Y za ad S0 s.heap.size (fun r S9 => ∃ x, r = some (vI x) ∧ Q x S9)) (gXc D Y ad S0 s.heap.size X) args s 1 6 A) (F0 m 0 ls []) by rw [eH, eL] at hgoal; exact hgoal
  unfold wX8_diagnostic at h
  refine lv_aload_n hx hb dX8_diagnostic_0 rfl (lv_at hl 0 rfl) ?_
  obtain ⟨hk1, hq2, h⟩ := h
  refine g_get (ci := 8) (C := RX8) (T := TX8) (N := 12) hx hb hts hin8 hown hK hG hk1 (cell_8 hq2) rfl 4 (by decide) lk_36 (fun _ h9 => h9) (v := rv ad (gR S k0 4)) rfl dX8_diagnostic_1 ?_
  refine lv_iload_n hx hb dX8_diagnostic_4 rfl (lv_at hl 1 rfl) ?_
  obtain ⟨q3, e4, h⟩ := h
  refine W.eq (g2 := F0 m 5 ls [.int x1, .ref (ad q3)]) (by rw [e4]; rfl) ?_
  obtain ⟨hk5, hq6, h⟩ := h
  refine r_callV (za := za) (k := q3) (ci := 0) (C := RX0) (T := TX0) (N := 5) (As := [vI x1]) (rest := []) (tX0_has l S q3 x1 _ h) ⟨hx, hb, hml, hown, hts⟩ (cwV 1 hts gX8_diagnostic_X0_has rfl rfl rfl (by decide +kernel) ⟨by decide, by decide⟩) hK hG hA hk5 (cell_0 hq6) rfl rfl hl.1 rfl (Nat.le_of_ble_eq_true rfl) ⟨Nat.zero_le _, Nat.zero_le _⟩ dX8_diagnostic_5 (fun r_9 S7 H locs hp hs_S7 hG => ?_)
  obtain ⟨u8, rfl, h⟩ := hp
  have h := h hs_S7
  refine W.eq (g2 := F0 m 8 ls [.int u8]) rfl ?_
  have hsh := hs_S7.tr hsh
  have hk9 := hs_S7.lt hk1
  have hq10 := hs_S7.kd hq2
  have hk11 := hs_S7.lt hk5
  have hq12 := hs_S7.kd hq6
  refine lv_if_eq (tgt := 20) hx hb dX8_diagnostic_8 (by decide) (fun c_8 => ?_) (fun c_8 => ?_)
  · have h := h.1 c_8
    exact b_20  S7 H locs ls h hsh hG (lv_sub hl [] rfl)
  · have h := h.2 c_8
    refine lv_iload_n hx hb dX8_diagnostic_11 rfl (lv_at hl 2 rfl) ?_
    refine lv_if_lt (tgt := 20) hx hb dX8_diagnostic_12 (by decide) (fun c_12 => ?_) (fun c_12 => ?_)
    · have h := h.1 c_12
      exact b_20  S7 H locs ls h hsh hG (lv_sub hl [] rfl)
    · have h := h.2 c_12
      refine lv_iload_n hx hb dX8_diagnostic_15 rfl (lv_at hl 2 rfl) ?_
      refine lv_iconst (v := 2) hx hb dX8_diagnostic_16 (by decide) ?_
      refine lv_icmp_le (tgt := 30) hx hb dX8_diagnostic_17 (by decide) (fun c_17 => ?_) (fun c_17 => ?_)
      · have h := h.1 c_17
        refine lv_aload_n hx hb dX8_diagnostic_30 rfl (lv_at hl 0 rfl) ?_
        refine g_get (ci := 8) (C := RX8) (T := TX8) (N := 12) hx hb hts hin8 hown hK hG hk9 (cell_8 hq10) rfl 4 (by decide) lk_36 (fun _ h9 => h9) (v := rv ad (gR S7 k0 4)) rfl dX8_diagnostic_31 ?_
        refine lv_iload_n hx hb dX8_diagnostic_34 rfl (lv_at hl 1 rfl) ?_
        refine lv_iload_n hx hb dX8_diagnostic_35 rfl (lv_at hl 2 rfl) ?_
        obtain ⟨q13, e14, h⟩ := h
        refine W.eq (g2 := F0 m 36 ls [.int x2, .int x1, .ref (ad q13)]) (by rw [e14]; rfl) ?_
        obtain ⟨hk15, hq16, h⟩ := h
        refine r_callV (za := za) (k := q13) (ci := 0) (C := RX0) (T := TX0) (N := 5) (As := [vI x1, vI x2]) (rest := []) (tX0_fact l S7 q13 x1 x2 _ h) ⟨hx, hb, hml, hown, hts⟩ (cwV 2 hts gX8_diagnostic_X0_fact rfl rfl rfl (by decide +kernel) ⟨by decide, by decide⟩) hK hG hA hk15 (cell_0 hq16) rfl rfl hl.1 rfl (Nat.le_of_ble_eq_true rfl) ⟨Nat.zero_le _, Nat.zero_le _⟩ dX8_diagnostic_36 (fun r_9 S17 H locs hp hs_S17 hG => ?_)
        obtain ⟨u18, rfl, h⟩ := hp
        have h := h hs_S17
        refine W.eq (g2 := F0 m 39 ls [.int u18]) rfl ?_
        have hsh := hs_S17.tr hsh
        have hk19 := hs_S17.lt hk9
        have hq20 := hs_S17.kd hq10
        have hk21 := hs_S17.lt hk11
        have hq22 := hs_S17.kd hq12
        have hk23 := hs_S17.lt hk15
        have hq24 := hs_S17.kd hq16
        exact vx_ret (W.widen (k := 1) (n := 6) (Nat.zero_le _) (Nat.zero_le _) (W.iret (v := u18) hx hb hr (fun t ht hW => r_end (r := some (vI u18)) hAe hG hsh ⟨_, rfl, h⟩ rfl ht) hG.2.2.2.2 dX8_diagnostic_39))
      · have h := h.2 c_17
        exact b_20  S7 H locs ls h hsh hG (lv_sub hl [] rfl)
def wX8_throughput (S : GS) (k0 : Nat) (Q : UInt64 → GS → Prop) (X : String → GS → Prop) : Prop :=
  k0 < gN S ∧ gK S k0 = 8 ∧ ∃ q3 : Nat, gR S k0 5 = some q3 ∧ q3 < gN S ∧ gK S q3 = 7 ∧ wX7_span S q3  (fun u8 S7 => gSh S7 S → (¬ (lg_cmp u8 0) = 0 → ∃ q13 : Nat, gR S7 k0 6 = some q13 ∧ q13 < gN S7 ∧ gK S7 q13 = 5 ∧ vf_n64 (FP.ddiv (FP.l2d (gZ S7 q13 2)) (FP.l2d (1000 * u8))) ∧ vf_n64 (FP.dsub FP.dconst1 (FP.ddiv (FP.l2d (gZ S7 q13 2)) (FP.l2d (1000 * u8)))) ∧ Q (FP.dsub FP.dconst1 (FP.ddiv (FP.l2d (gZ S7 q13 2)) (FP.l2d (1000 * u8)))) S7) ∧ ((lg_cmp u8 0) = 0 → X "java/lang/IllegalStateException" S7))
set_option maxHeartbeats 4000000 in
set_option maxRecDepth 100000 in
theorem tX8_throughput (l : Launch) (hst : l.stackTraces = false) (S : GS) (k0 : Nat) (Q : UInt64 → GS → Prop) (X : String → GS → Prop) (h : wX8_throughput S k0 Q X) : CT l yX8_throughput wsX8_throughput 6 S (gA [vR (some k0)]) (fun r S9 => ∃ x, r = some (vD x) ∧ Q x S9) X := by
  refine CT.ofW (cc := cX8_throughput) (maxL := 3) (ret := (some .double)) RX8 (by decide) rfl rfl (fun _ _ _ => Nat.le_of_ble_eq_true rfl) ?_
  intro p e s m args below meth c D Y za zv ad A ls hAe hx hb hr hml hnt hts hown hlocks hK hZ hA hG hl
  obtain ⟨S0, hS0⟩ : ∃ z : GS, z = S := ⟨_, rfl⟩
  rw [← hS0] at hAe
  rw [← hS0]
  have hin5 : ∀ w ∈ wsX50, w ∈ wsX8_throughput := by decide +kernel
  have hin8 : ∀ w ∈ wsX80, w ∈ wsX8_throughput := by decide +kernel
  have lk_43 := hts (.fieldLink RX8 43 "PauseLog" "times" "LPauseLog$Times;") (by decide +kernel)
  have lk_50 := hts (.fieldLink RX8 50 "PauseLog" "sums" "LPauseLog$Sums;") (by decide +kernel)
  have lk_195 := hts (.fieldLink RX8 195 "PauseLog$Sums" "took" "J") (by decide +kernel)
  have lk_198 := hts (.constantLong RX8 198 (1000)) (by decide +kernel)
  have hgw_S : ∀ w ∈ (vx_atS RX8 194 "java/lang/IllegalStateException" ["java/lang/RuntimeException", "java/lang/Exception"]).filter goodWord, w ∈ wsX8_throughput := by decide +kernel
  have hl : lv_has ls 3 [(0, .ref (ad k0))] := hl
  have hsh : gSh S S0 := by rw [hS0]; exact gSh.rf S
  obtain ⟨H, eH⟩ : ∃ z : Heap, z = s.heap := ⟨_, rfl⟩
  obtain ⟨locs, eL⟩ : ∃ z : List Loc, z = [] := ⟨_, rfl⟩
  have hG : gS D Y ad A s.heap S H locs := by rw [eH, eL]; exact hG
  suffices hgoal : W p l e (rmX 6) s m args below meth c H locs 0 0 (vx_MQ below (gE D Y za ad S0 s.heap.size (fun r S9 => ∃ x, r = some (vD x) ∧ Q x S9)) (gXc D Y ad S0 s.heap.size X) args s 1 6 A) (F0 m 0 ls []) by rw [eH, eL] at hgoal; exact hgoal
  unfold wX8_throughput at h
  refine lv_aload_n hx hb dX8_throughput_0 rfl (lv_at hl 0 rfl) ?_
  obtain ⟨hk1, hq2, h⟩ := h
  refine g_get (ci := 8) (C := RX8) (T := TX8) (N := 12) hx hb hts hin8 hown hK hG hk1 (cell_8 hq2) rfl 5 (by decide) lk_43 (fun _ h9 => h9) (v := rv ad (gR S k0 5)) rfl dX8_throughput_1 ?_
  obtain ⟨q3, e4, h⟩ := h
  refine W.eq (g2 := F0 m 4 ls [.ref (ad q3)]) (by rw [e4]; rfl) ?_
  obtain ⟨hk5, hq6, h⟩ := h
  refine r_callV (za := za) (k := q3) (ci := 7) (C := RX7) (T := TX7) (N := 3) (As := []) (rest := []) (tX7_span l S q3  _ h) ⟨hx, hb, hml, hown, hts⟩ (cwV 0 hts gX8_throughput_X7_span rfl rfl rfl (by decide +kernel) ⟨by decide, by decide⟩) hK hG hA hk5 (cell_7 hq6) rfl rfl hl.1 rfl (Nat.le_of_ble_eq_true rfl) ⟨Nat.zero_le _, Nat.zero_le _⟩ dX8_throughput_4 (fun r_9 S7 H locs hp hs_S7 hG => ?_)
  obtain ⟨u8, rfl, h⟩ := hp
  have h := h hs_S7
  refine W.eq (g2 := F0 m 7 ls [.long u8]) rfl ?_
  have hsh := hs_S7.tr hsh
  have hk9 := hs_S7.lt hk1
  have hq10 := hs_S7.kd hq2
  have hk11 := hs_S7.lt hk5
  have hq12 := hs_S7.kd hq6
  refine lv_lstore_n (lv' := [(1, .long u8), (0, .ref (ad k0))]) hx hb dX8_throughput_7 rfl hl (by decide) rfl (fun ls hl => ?_)
  refine lv_lload_n hx hb dX8_throughput_8 rfl (lv_at hl 0 rfl) ?_
  refine lv_lconst (v := 0) hx hb dX8_throughput_9 rfl ?_
  refine W.lcmp hx hb dX8_throughput_10 ?_
  refine lv_if_ne (tgt := 24) hx hb dX8_throughput_11 (by decide) (fun c_11 => ?_) (fun c_11 => ?_)
  · have h := h.1 c_11
    refine lv_dconst1 hx hb dX8_throughput_24 ?_
    refine lv_aload_n hx hb dX8_throughput_25 rfl (lv_at hl 1 rfl) ?_
    refine g_get (ci := 8) (C := RX8) (T := TX8) (N := 12) hx hb hts hin8 hown hK hG hk9 (cell_8 hq10) rfl 6 (by decide) lk_50 (fun _ h9 => h9) (v := rv ad (gR S7 k0 6)) rfl dX8_throughput_26 ?_
    obtain ⟨q13, e14, h⟩ := h
    refine W.eq (g2 := F0 m 29 ls [.ref (ad q13), .double FP.dconst1]) (by rw [e14]; rfl) ?_
    obtain ⟨hk15, hq16, h⟩ := h
    refine g_get (ci := 5) (C := RX5) (T := TX5) (N := 6) hx hb hts hin5 hown hK hG hk15 (cell_5 hq16) rfl 2 (by decide) lk_195 (fun _ h9 => h9) (v := .long (gZ S7 q13 2)) rfl dX8_throughput_29 ?_
    refine lv_l2d hx hb dX8_throughput_32 ?_
    refine lv_ldc2 hx hb hown lk_198 dX8_throughput_33 ?_
    refine lv_lload_n hx hb dX8_throughput_36 rfl (lv_at hl 0 rfl) ?_
    refine lv_lmul hx hb dX8_throughput_37 ?_
    refine lv_l2d hx hb dX8_throughput_38 ?_
    obtain ⟨hd17, h⟩ := h
    refine lv_ddiv hx hb dX8_throughput_39 hd17 ?_
    obtain ⟨hd18, h⟩ := h
    refine lv_dsub hx hb dX8_throughput_40 hd18 ?_
    exact vx_ret (W.widen (k := 1) (n := 6) (Nat.zero_le _) (Nat.zero_le _) (W.dret (v := FP.dsub FP.dconst1 (FP.ddiv (FP.l2d (gZ S7 q13 2)) (FP.l2d (1000 * u8)))) hx hb hr (fun t ht hW => r_end (r := some (vD (FP.dsub FP.dconst1 (FP.ddiv (FP.l2d (gZ S7 q13 2)) (FP.l2d (1000 * u8)))))) hAe hG hsh ⟨_, rfl, h⟩ rfl ht) hG.2.2.2.2 dX8_throughput_41))
  · have h := h.2 c_11
    exact vx_throwS (names := ["java/lang/RuntimeException", "java/lang/Exception"]) hx hb hst hown (by decide) (by decide) (hts (.classLink RX8 190 "java/lang/IllegalStateException") (by decide +kernel)) (hts (.initialized "java/lang/IllegalStateException") (by decide +kernel)) (hZ.2.2.2.1 6 (by decide)) (vx_hat (fun w hw => hts w (hgw_S w hw)) zbad_S (fun w hw => va_Nw.use (zBad_ot w hw) (hZ.2.2.2.2.2.2.2.1 w hw))) zgood_S hZ.2.2.2.2.2.1 hZ.2.2.2.2.2.2.1 hG.2.2 (hl.1.trans hml.symm) dX8_throughput_14 dX8_throughput_17 dX8_throughput_18 dX8_throughput_20 dX8_throughput_23 (fun x hx => (hnt x hx).elim) (by decide) (Nat.le_of_ble_eq_true rfl) (Nat.le_refl _) (Nat.le_refl _) hlocks (fun t hvm hsz hkp => gXc_of hAe hG hsh h hsz hkp) hG.2.2.2.2 (Nat.le_refl _) (Nat.le_refl _)
def wX8_rate_62 (Q : UInt64 → GS → Prop) (X : String → GS → Prop) (k0 : Nat) (x2 : Int64) (t0 : Int64) (S : GS) : Prop :=
  (¬ (lg_cmp t0 0) = 0 → vf_n64 (FP.ddiv (FP.l2d x2) (FP.l2d t0)) ∧ Q (FP.ddiv (FP.l2d x2) (FP.l2d t0)) S) ∧ ((lg_cmp t0 0) = 0 → X "java/lang/IllegalStateException" S)
def wX8_rate_40 (Q : UInt64 → GS → Prop) (X : String → GS → Prop) (k0 : Nat) (x1 : Int32) (t0 : Int64) (S : GS) : Prop :=
  (¬ x1 = 0 → k0 < gN S ∧ gK S k0 = 8 ∧ ∃ q4 : Nat, gR S k0 5 = some q4 ∧ q4 < gN S ∧ gK S q4 = 7 ∧ wX7_span S q4  (fun u9 S8 => gSh S8 S → wX8_rate_62 Q X k0 t0 u9 S8)) ∧ (x1 = 0 → k0 < gN S ∧ gK S k0 = 8 ∧ ∃ q16 : Nat, gR S k0 6 = some q16 ∧ q16 < gN S ∧ gK S q16 = 5 ∧ wX8_rate_62 Q X k0 t0 (gZ S q16 4) S)
def wX8_rate_19 (Q : UInt64 → GS → Prop) (X : String → GS → Prop) (k0 : Nat) (x1 : Int32) (S : GS) : Prop :=
  (¬ x1 = 0 → k0 < gN S ∧ gK S k0 = 8 ∧ ∃ q22 : Nat, gR S k0 6 = some q22 ∧ q22 < gN S ∧ gK S q22 = 5 ∧ wX8_rate_40 Q X k0 x1 (gZ S q22 5) S) ∧ (x1 = 0 → k0 < gN S ∧ gK S k0 = 8 ∧ ∃ q28 : Nat, gR S k0 6 = some q28 ∧ q28 < gN S ∧ gK S q28 = 5 ∧ wX8_rate_40 Q X k0 x1 (gZ S q28 3) S)
def wX8_rate (S : GS) (k0 : Nat) (x1 : Int32) (Q : UInt64 → GS → Prop) (X : String → GS → Prop) : Prop :=
  (x1 = 0 → wX8_rate_19 Q X k0 x1 S) ∧ (¬ x1 = 0 → (x1 = 1 → wX8_rate_19 Q X k0 x1 S) ∧ (¬ x1 = 1 → X "java/lang/IllegalArgumentException" S))
set_option maxHeartbeats 4000000 in
set_option maxRecDepth 100000 in
theorem tX8_rate (l : Launch) (hst : l.stackTraces = false) (S : GS) (k0 : Nat) (x1 : Int32) (Q : UInt64 → GS → Prop) (X : String → GS → Prop) (h : wX8_rate S k0 x1 Q X) : CT l yX8_rate wsX8_rate 6 S (gA [vR (some k0), vI x1]) (fun r S9 => ∃ x, r = some (vD x) ∧ Q x S9) X := by
  refine CT.ofW (cc := cX8_rate) (maxL := 6) (ret := (some .double)) RX8 (by decide) rfl rfl (fun _ _ _ => Nat.le_of_ble_eq_true rfl) ?_
  intro p e s m args below meth c D Y za zv ad A ls hAe hx hb hr hml hnt hts hown hlocks hK hZ hA hG hl
  obtain ⟨S0, hS0⟩ : ∃ z : GS, z = S := ⟨_, rfl⟩
  rw [← hS0] at hAe
  rw [← hS0]
  have hin5 : ∀ w ∈ wsX50, w ∈ wsX8_rate := by decide +kernel
  have hin8 : ∀ w ∈ wsX80, w ∈ wsX8_rate := by decide +kernel
  have lk_50 := hts (.fieldLink RX8 50 "PauseLog" "sums" "LPauseLog$Sums;") (by decide +kernel)
  have lk_202 := hts (.fieldLink RX8 202 "PauseLog$Sums" "allocated" "J") (by decide +kernel)
  have lk_205 := hts (.fieldLink RX8 205 "PauseLog$Sums" "promoted" "J") (by decide +kernel)
  have lk_208 := hts (.fieldLink RX8 208 "PauseLog$Sums" "between" "J") (by decide +kernel)
  have lk_43 := hts (.fieldLink RX8 43 "PauseLog" "times" "LPauseLog$Times;") (by decide +kernel)
  have hgw_A : ∀ w ∈ (vx_atS RX8 66 "java/lang/IllegalArgumentException" ["java/lang/RuntimeException", "java/lang/Exception"]).filter goodWord, w ∈ wsX8_rate := by decide +kernel
  have hgw_S : ∀ w ∈ (vx_atS RX8 194 "java/lang/IllegalStateException" ["java/lang/RuntimeException", "java/lang/Exception"]).filter goodWord, w ∈ wsX8_rate := by decide +kernel
  have b_62 : ∀  (x2 : Int64) (t0 : Int64) (S : GS) (H : Heap) (locs : List Loc) (ls : Array Slot), wX8_rate_62 Q X k0 x2 t0 S → gSh S S0 → gS D Y ad A s.heap S H locs → lv_has ls 6 [(2, .long x2)] → W p l e (rmX 6) s m args below meth c H locs 0 0 (vx_MQ below (gE D Y za ad S0 s.heap.size (fun r S9 => ∃ x, r = some (vD x) ∧ Q x S9)) (gXc D Y ad S0 s.heap.size X) args s 1 6 A) (F0 m 62 ls [.long t0]) := by
    intro  x2 t0 S H locs ls h hsh hG hl
    unfold wX8_rate_62 at h
    refine lv_lstore (lv' := [(4, .long t0), (2, .long x2)]) hx hb dX8_rate_62 hl (by decide) rfl (fun ls hl => ?_)
    refine lv_lload hx hb dX8_rate_64 (lv_at hl 0 rfl) ?_
    refine lv_lconst (v := 0) hx hb dX8_rate_66 rfl ?_
    refine W.lcmp hx hb dX8_rate_67 ?_
    refine lv_if_ne (tgt := 81) hx hb dX8_rate_68 (by decide) (fun c_68 => ?_) (fun c_68 => ?_)
    · have h := h.1 c_68
      refine lv_lload_n hx hb dX8_rate_81 rfl (lv_at hl 1 rfl) ?_
      refine lv_l2d hx hb dX8_rate_82 ?_
      refine lv_lload hx hb dX8_rate_83 (lv_at hl 0 rfl) ?_
      refine lv_l2d hx hb dX8_rate_85 ?_
      obtain ⟨hd1, h⟩ := h
      refine lv_ddiv hx hb dX8_rate_86 hd1 ?_
      exact vx_ret (W.widen (k := 1) (n := 6) (Nat.zero_le _) (Nat.zero_le _) (W.dret (v := FP.ddiv (FP.l2d x2) (FP.l2d t0)) hx hb hr (fun t ht hW => r_end (r := some (vD (FP.ddiv (FP.l2d x2) (FP.l2d t0)))) hAe hG hsh ⟨_, rfl, h⟩ rfl ht) hG.2.2.2.2 dX8_rate_87))
    · have h := h.2 c_68
      exact vx_throwS (names := ["java/lang/RuntimeException", "java/lang/Exception"]) hx hb hst hown (by decide) (by decide) (hts (.classLink RX8 190 "java/lang/IllegalStateException") (by decide +kernel)) (hts (.initialized "java/lang/IllegalStateException") (by decide +kernel)) (hZ.2.2.2.1 8 (by decide)) (vx_hat (fun w hw => hts w (hgw_S w hw)) zbad_S (fun w hw => va_Nw.use (zBad_ot w hw) (hZ.2.2.2.2.2.2.2.1 w hw))) zgood_S hZ.2.2.2.2.2.1 hZ.2.2.2.2.2.2.1 hG.2.2 (hl.1.trans hml.symm) dX8_rate_71 dX8_rate_74 dX8_rate_75 dX8_rate_77 dX8_rate_80 (fun x hx => (hnt x hx).elim) (by decide) (Nat.le_of_ble_eq_true rfl) (Nat.le_refl _) (Nat.le_refl _) hlocks (fun t hvm hsz hkp => gXc_of hAe hG hsh h hsz hkp) hG.2.2.2.2 (Nat.le_refl _) (Nat.le_refl _)
  have b_40 : ∀  (x1 : Int32) (t0 : Int64) (S : GS) (H : Heap) (locs : List Loc) (ls : Array Slot), wX8_rate_40 Q X k0 x1 t0 S → gSh S S0 → gS D Y ad A s.heap S H locs → lv_has ls 6 [(0, .ref (ad k0)), (1, .int x1)] → W p l e (rmX 6) s m args below meth c H locs 0 0 (vx_MQ below (gE D Y za ad S0 s.heap.size (fun r S9 => ∃ x, r = some (vD x) ∧ Q x S9)) (gXc D Y ad S0 s.heap.size X) args s 1 6 A) (F0 m 40 ls [.long t0]) := by
    intro  x1 t0 S H locs ls h hsh hG hl
    unfold wX8_rate_40 at h
    refine lv_lstore_n (lv' := [(2, .long t0), (0, .ref (ad k0)), (1, .int x1)]) hx hb dX8_rate_40 rfl hl (by decide) rfl (fun ls hl => ?_)
    refine lv_iload_n hx hb dX8_rate_41 rfl (lv_at hl 2 rfl) ?_
    refine lv_if_ne (tgt := 55) hx hb dX8_rate_42 (by decide) (fun c_42 => ?_) (fun c_42 => ?_)
    · have h := h.1 c_42
      refine lv_aload_n hx hb dX8_rate_55 rfl (lv_at hl 1 rfl) ?_
      obtain ⟨hk2, hq3, h⟩ := h
      refine g_get (ci := 8) (C := RX8) (T := TX8) (N := 12) hx hb hts hin8 hown hK hG hk2 (cell_8 hq3) rfl 5 (by decide) lk_43 (fun _ h9 => h9) (v := rv ad (gR S k0 5)) rfl dX8_rate_56 ?_
      obtain ⟨q4, e5, h⟩ := h
      refine W.eq (g2 := F0 m 59 ls [.ref (ad q4)]) (by rw [e5]; rfl) ?_
      obtain ⟨hk6, hq7, h⟩ := h
      refine r_callV (za := za) (k := q4) (ci := 7) (C := RX7) (T := TX7) (N := 3) (As := []) (rest := []) (tX7_span l S q4  _ h) ⟨hx, hb, hml, hown, hts⟩ (cwV 0 hts gX8_rate_X7_span rfl rfl rfl (by decide +kernel) ⟨by decide, by decide⟩) hK hG hA hk6 (cell_7 hq7) rfl rfl hl.1 rfl (Nat.le_of_ble_eq_true rfl) ⟨Nat.zero_le _, Nat.zero_le _⟩ dX8_rate_59 (fun r_9 S8 H locs hp hs_S8 hG => ?_)
      obtain ⟨u9, rfl, h⟩ := hp
      have h := h hs_S8
      refine W.eq (g2 := F0 m 62 ls [.long u9]) rfl ?_
      have hsh := hs_S8.tr hsh
      have hk10 := hs_S8.lt hk2
      have hq11 := hs_S8.kd hq3
      have hk12 := hs_S8.lt hk6
      have hq13 := hs_S8.kd hq7
      exact b_62 t0 u9 S8 H locs ls h hsh hG (lv_sub hl [0] rfl)
    · have h := h.2 c_42
      refine lv_aload_n hx hb dX8_rate_45 rfl (lv_at hl 1 rfl) ?_
      obtain ⟨hk14, hq15, h⟩ := h
      refine g_get (ci := 8) (C := RX8) (T := TX8) (N := 12) hx hb hts hin8 hown hK hG hk14 (cell_8 hq15) rfl 6 (by decide) lk_50 (fun _ h9 => h9) (v := rv ad (gR S k0 6)) rfl dX8_rate_46 ?_
      obtain ⟨q16, e17, h⟩ := h
      refine W.eq (g2 := F0 m 49 ls [.ref (ad q16)]) (by rw [e17]; rfl) ?_
      obtain ⟨hk18, hq19, h⟩ := h
      refine g_get (ci := 5) (C := RX5) (T := TX5) (N := 6) hx hb hts hin5 hown hK hG hk18 (cell_5 hq19) rfl 4 (by decide) lk_208 (fun _ h9 => h9) (v := .long (gZ S q16 4)) rfl dX8_rate_49 ?_
      refine lv_goto (tgt := 62) hx hb dX8_rate_52 (by decide) ?_
      exact b_62 t0 (gZ S q16 4) S H locs ls h hsh hG (lv_sub hl [0] rfl)
  have b_19 : ∀  (x1 : Int32) (S : GS) (H : Heap) (locs : List Loc) (ls : Array Slot), wX8_rate_19 Q X k0 x1 S → gSh S S0 → gS D Y ad A s.heap S H locs → lv_has ls 6 [(0, .ref (ad k0)), (1, .int x1)] → W p l e (rmX 6) s m args below meth c H locs 0 0 (vx_MQ below (gE D Y za ad S0 s.heap.size (fun r S9 => ∃ x, r = some (vD x) ∧ Q x S9)) (gXc D Y ad S0 s.heap.size X) args s 1 6 A) (F0 m 19 ls []) := by
    intro  x1 S H locs ls h hsh hG hl
    unfold wX8_rate_19 at h
    refine lv_iload_n hx hb dX8_rate_19 rfl (lv_at hl 1 rfl) ?_
    refine lv_if_ne (tgt := 33) hx hb dX8_rate_20 (by decide) (fun c_20 => ?_) (fun c_20 => ?_)
    · have h := h.1 c_20
      refine lv_aload_n hx hb dX8_rate_33 rfl (lv_at hl 0 rfl) ?_
      obtain ⟨hk20, hq21, h⟩ := h
      refine g_get (ci := 8) (C := RX8) (T := TX8) (N := 12) hx hb hts hin8 hown hK hG hk20 (cell_8 hq21) rfl 6 (by decide) lk_50 (fun _ h9 => h9) (v := rv ad (gR S k0 6)) rfl dX8_rate_34 ?_
      obtain ⟨q22, e23, h⟩ := h
      refine W.eq (g2 := F0 m 37 ls [.ref (ad q22)]) (by rw [e23]; rfl) ?_
      obtain ⟨hk24, hq25, h⟩ := h
      refine g_get (ci := 5) (C := RX5) (T := TX5) (N := 6) hx hb hts hin5 hown hK hG hk24 (cell_5 hq25) rfl 5 (by decide) lk_205 (fun _ h9 => h9) (v := .long (gZ S q22 5)) rfl dX8_rate_37 ?_
      exact b_40 x1 (gZ S q22 5) S H locs ls h hsh hG (lv_sub hl [0, 1] rfl)
    · have h := h.2 c_20
      refine lv_aload_n hx hb dX8_rate_23 rfl (lv_at hl 0 rfl) ?_
      obtain ⟨hk26, hq27, h⟩ := h
      refine g_get (ci := 8) (C := RX8) (T := TX8) (N := 12) hx hb hts hin8 hown hK hG hk26 (cell_8 hq27) rfl 6 (by decide) lk_50 (fun _ h9 => h9) (v := rv ad (gR S k0 6)) rfl dX8_rate_24 ?_
      obtain ⟨q28, e29, h⟩ := h
      refine W.eq (g2 := F0 m 27 ls [.ref (ad q28)]) (by rw [e29]; rfl) ?_
      obtain ⟨hk30, hq31, h⟩ := h
      refine g_get (ci := 5) (C := RX5) (T := TX5) (N := 6) hx hb hts hin5 hown hK hG hk30 (cell_5 hq31) rfl 3 (by decide) lk_202 (fun _ h9 => h9) (v := .long (gZ S q28 3)) rfl dX8_rate_27 ?_
      refine lv_goto (tgt := 40) hx hb dX8_rate_30 (by decide) ?_
      exact b_40 x1 (gZ S q28 3) S H locs ls h hsh hG (lv_sub hl [0, 1] rfl)
  have hl : lv_has ls 6 [(0, .ref (ad k0)), (1, .int x1)] := hl
  have hsh : gSh S S0 := by rw [hS0]; exact gSh.rf S
  obtain ⟨H, eH⟩ : ∃ z : Heap, z = s.heap := ⟨_, rfl⟩
  obtain ⟨locs, eL⟩ : ∃ z : List Loc, z = [] := ⟨_, rfl⟩
  have hG : gS D Y ad A s.heap S H locs := by rw [eH, eL]; exact hG
  suffices hgoal : W p l e (rmX 6) s m args below meth c H locs 0 0 (vx_MQ below (gE D Y za ad S0 s.heap.size (fun r S9 => ∃ x, r = some (vD x) ∧ Q x S9)) (gXc D Y ad S0 s.heap.size X) args s 1 6 A) (F0 m 0 ls []) by rw [eH, eL] at hgoal; exact hgoal
  unfold wX8_rate at h
  refine lv_iload_n hx hb dX8_rate_0 rfl (lv_at hl 1 rfl) ?_
  refine lv_if_eq (tgt := 19) hx hb dX8_rate_1 (by decide) (fun c_1 => ?_) (fun c_1 => ?_)
  · have h := h.1 c_1
    exact b_19 x1 S H locs ls h hsh hG (lv_sub hl [0, 1] rfl)
  · have h := h.2 c_1
    refine lv_iload_n hx hb dX8_rate_4 rfl (lv_at hl 1 rfl) ?_
    refine lv_iconst (v := 1) hx hb dX8_rate_5 (by decide) ?_
    refine lv_icmp_eq (tgt := 19) hx hb dX8_rate_6 (by decide) (fun c_6 => ?_) (fun c_6 => ?_)
    · have h := h.1 c_6
      exact b_19 x1 S H locs ls h hsh hG (lv_sub hl [0, 1] rfl)
    · have h := h.2 c_6
      exact vx_throwS (names := ["java/lang/RuntimeException", "java/lang/Exception"]) hx hb hst hown (by decide) (by decide) (hts (.classLink RX8 62 "java/lang/IllegalArgumentException") (by decide +kernel)) (hts (.initialized "java/lang/IllegalArgumentException") (by decide +kernel)) (hZ.2.2.2.1 7 (by decide)) (vx_hat (fun w hw => hts w (hgw_A w hw)) zbad_A (fun w hw => va_Nw.use (zBad_ot w hw) (hZ.2.2.2.2.2.2.2.1 w hw))) zgood_A hZ.2.2.2.2.2.1 hZ.2.2.2.2.2.2.1 hG.2.2 (hl.1.trans hml.symm) dX8_rate_9 dX8_rate_12 dX8_rate_13 dX8_rate_15 dX8_rate_18 (fun x hx => (hnt x hx).elim) (by decide) (Nat.le_of_ble_eq_true rfl) (Nat.le_refl _) (Nat.le_refl _) hlocks (fun t hvm hsz hkp => gXc_of hAe hG hsh h hsz hkp) hG.2.2.2.2 (Nat.le_refl _) (Nat.le_refl _)
