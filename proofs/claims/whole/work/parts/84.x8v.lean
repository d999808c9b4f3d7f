def wX8_percentile_11 (Q : Int32 → GS → Prop) (X : String → GS → Prop) (k0 : Nat)  (S : GS) : Prop :=
  X "java/lang/IllegalArgumentException" S
def wX8_percentile_123 (Q : Int32 → GS → Prop) (X : String → GS → Prop) (L_46 : Int32 → Int32 → Int32 → GS → Prop) (k0 : Nat) (x1 : Int32) (x2 : Int32) (x3 : Int32) (S : GS) : Prop :=
  L_46 x1 x2 (x3 + 1) S
def wX8_percentile_46 (Q : Int32 → GS → Prop) (X : String → GS → Prop) (k0 : Nat) : Nat → Int32 → Int32 → Int32 → GS → Prop
  | 0, _, _, _, _ => False
  | f9 + 1, x1, x2, x3, S =>
  k0 < gN S ∧ gK S k0 = 8 ∧ ∃ q3 : Nat, gR S k0 3 = some q3 ∧ q3 < gN S ∧ gK S q3 = 3 ∧ ((gX S q3 1) ≤ x3 → Q x2 S) ∧ (¬ (gX S q3 1) ≤ x3 → wX3_get S q3 x3 (fun u8 S7 => gSh S7 S → (u8 = none → wX8_percentile_123 Q X (wX8_percentile_46 Q X k0 f9) k0 x1 x2 x3 S7) ∧ (∀ q13 : Nat, u8 = some q13 → q13 < gN S7 ∧ gK S7 q13 = 2 ∧ wX2_isPause S7 q13  (fun u18 S17 => gSh S17 S7 → (u18 = 0 → wX8_percentile_123 Q X (wX8_percentile_46 Q X k0 f9) k0 x1 x2 x3 S17) ∧ (¬ u18 = 0 → ∃ q25 : Nat, u8 = some q25 ∧ q25 < gN S17 ∧ gK S17 q25 = 2 ∧ (x2 ≤ (gX S17 q25 9) → wX8_percentile_123 Q X (wX8_percentile_46 Q X k0 f9) k0 x1 x2 x3 S17) ∧ (¬ x2 ≤ (gX S17 q25 9) → ∃ q29 : Nat, gR S17 k0 3 = some q29 ∧ q29 < gN S17 ∧ gK S17 q29 = 3 ∧ wX3_pausesThatTook S17 q29 0 (gX S17 q25 9) (fun u34 S33 => gSh S33 S17 → ∃ q45 : Nat, gR S33 k0 6 = some q45 ∧ q45 < gN S33 ∧ gK S33 q45 = 5 ∧ ((100 * u34) < (x1 * (gX S33 q45 1)) → wX8_percentile_123 Q X (wX8_percentile_46 Q X k0 f9) k0 x1 x2 x3 S33) ∧ (¬ (100 * u34) < (x1 * (gX S33 q45 1)) → ∃ q49 : Nat, u8 = some q49 ∧ q49 < gN S33 ∧ gK S33 q49 = 2 ∧ wX8_percentile_123 Q X (wX8_percentile_46 Q X k0 f9) k0 x1 (gX S33 q49 9) x3 S33))))))))
def wX8_percentile (S : GS) (k0 : Nat) (x1 : Int32) (Q : Int32 → GS → Prop) (X : String → GS → Prop) : Prop :=
  (x1 < 1 → wX8_percentile_11 Q X k0  S) ∧ (¬ x1 < 1 → (x1 ≤ 100 → k0 < gN S ∧ gK S k0 = 8 ∧ ∃ q55 : Nat, gR S k0 6 = some q55 ∧ q55 < gN S ∧ gK S q55 = 5 ∧ (¬ (gX S q55 1) = 0 → ∃ f59 : Nat, wX8_percentile_46 Q X k0 f59 x1 9999999 0 S) ∧ ((gX S q55 1) = 0 → X "java/lang/IllegalStateException" S)) ∧ (¬ x1 ≤ 100 → wX8_percentile_11 Q X k0  S))
set_option maxHeartbeats 4000000 in
set_option maxRecDepth 100000 in
theorem tX8_percentile (l : Launch) (hst : l.stackTraces = false) (S : GS) (k0 : Nat) (x1 : Int32) (Q : Int32 → GS → Prop) (X : String → GS → Prop) (h : wX8_percentile S k0 x1 Q X) : CT l yX8_percentile wsX8_percentile 6 S (gA [vR (some k0), vI x1]) (fun r S9 => ∃ x, r = some (vI x) ∧ Q x S9) X := by
  refine CT.ofW (cc := cX8_percentile) (maxL := 5) (ret := (some .int)) RX8 (by decide) rfl rfl (fun _ _ _ => Nat.le_of_ble_eq_true rfl) ?_
  intro p e s m args below meth c D Y za zv ad A ls hAe hx hb hr hml hnt hts hown hlocks hK hZ hA hG hl
  obtain ⟨S0, hS0⟩ : ∃ z : GS, z = S := ⟨_, rfl⟩
  rw [← hS0] at hAe
  rw [← hS0]
  have hin2 : ∀ w ∈ wsX20, w ∈ wsX8_percentile := by decide +kernel
  have hin3 : ∀ w ∈ wsX30, w ∈ wsX8_percentile := by decide +kernel
  have hin5 : ∀ w ∈ wsX50, w ∈ wsX8_percentile := by decide +kernel
  have hin8 : ∀ w ∈ wsX80, w ∈ wsX8_percentile := by decide +kernel
  have lk_50 := hts (.fieldLink RX8 50 "PauseLog" "sums" "LPauseLog$Sums;") (by decide +kernel)
  have lk_215 := hts (.fieldLink RX8 215 "PauseLog$Sums" "pauses" "I") (by decide +kernel)
  have lk_220 := hts (.constant RX8 220 (9999999)) (by decide +kernel)
  have lk_29 := hts (.fieldLink RX8 29 "PauseLog" "events" "LPauseLog$Events;") (by decide +kernel)
  have lk_221 := hts (.fieldLink RX8 221 "PauseLog$Events" "size" "I") (by decide +kernel)
  have lk_227 := hts (.fieldLink RX8 227 "PauseLog$Event" "took" "I") (by decide +kernel)
  have hgw_A : ∀ w ∈ (vx_atS RX8 66 "java/lang/IllegalArgumentException" ["java/lang/RuntimeException", "java/lang/Exception"]).filter goodWord, w ∈ wsX8_percentile := by decide +kernel
  have hgw_S : ∀ w ∈ (vx_atS RX8 194 "java/lang/IllegalStateException" ["java/lang/RuntimeException", "java/lang/Exception"]).filter goodWord, w ∈ wsX8_percentile := by decide +kernel
  have b_11 : ∀   (S : GS) (H : Heap) (locs : List Loc) (ls : Array Slot), wX8_percentile_11 Q X k0  S → gSh S S0 → gS D Y ad A s.heap S H locs → lv_has ls 5 [] → W p l e (rmX 6) s m args below meth c H locs 0 0 (vx_MQ below (gE D Y za ad S0 s.heap.size (fun r S9 => ∃ x, r = some (vI x) ∧ Q x S9)) (gXc D Y ad S0 s.heap.size X) args s 1 6 A) (F0 m 11 ls []) := by
    intro   S H locs ls h hsh hG hl
    unfold wX8_percentile_11 at h
    exact vx_throwS (names := ["java/lang/RuntimeException", "java/lang/Exception"]) hx hb hst hown (by decide) (by decide) (hts (.classLink RX8 62 "java/lang/IllegalArgumentException") (by decide +kernel)) (hts (.initialized "java/lang/IllegalArgumentException") (by decide +kernel)) (hZ.2.2.2.1 9 (by decide)) (vx_hat (fun w hw => hts w (hgw_A w hw)) zbad_A (fun w hw => va_Nw.use (zBad_ot w hw) (hZ.2.2.2.2.2.2.2.1 w hw))) zgood_A hZ.2.2.2.2.2.1 hZ.2.2.2.2.2.2.1 hG.2.2 (hl.1.trans hml.symm) dX8_percentile_11 dX8_percentile_14 dX8_percentile_15 dX8_percentile_17 dX8_percentile_20 (fun x hx => (hnt x hx).elim) (by decide) (Nat.le_of_ble_eq_true rfl) (Nat.le_refl _) (Nat.le_refl _) hlocks (fun t hvm hsz hkp => gXc_of hAe hG hsh h hsz hkp) hG.2.2.2.2 (Nat.le_refl _) (Nat.le_refl _)
  have b_123 : ∀ (L_46 : Int32 → Int32 → Int32 → GS → Prop) (hL_46 : ∀ (x1 : Int32) (x2 : Int32) (x3 : Int32) (S : GS) (H : Heap) (locs : List Loc) (ls : Array Slot), L_46 x1 x2 x3 S → gSh S S0 → gS D Y ad A s.heap S H locs → lv_has ls 5 [(0, .ref (ad k0)), (1, .int x1), (2, .int x2), (3, .int x3)] → W p l e (rmX 6) s m args below meth c H locs 0 0 (vx_MQ below (gE D Y za ad S0 s.heap.size (fun r S9 => ∃ x, r = some (vI x) ∧ Q x S9)) (gXc D Y ad S0 s.heap.size X) args s 1 6 A) (F0 m 46 ls [])) (x1 : Int32) (x2 : Int32) (x3 : Int32) (S : GS) (H : Heap) (locs : List Loc) (ls : Array Slot), wX8_percentile_123 Q X L_46 k0 x1 x2 x3 S → gSh S S0 → gS D Y ad A s.heap S H locs → lv_has ls 5 [(0, .ref (ad k0)), (1, .int x1), (2, .int x2), (3, .int x3)] → W p l e (rmX 6) s m args below meth c H locs 0 0 (vx_MQ below (gE D Y za ad S0 s.heap.size (fun r S9 => ∃ x, r = some (vI x) ∧ Q x S9)) (gXc D Y ad S0 s.heap.size X) args s 1 6 A) (F0 m 123 ls []) := by
    intro L_46 hL_46 x1 x2 x3 S H locs ls h hsh hG hl
    unfold wX8_percentile_123 at h
    refine lv_iinc (v := x3 + 1) (lv' := [(3, .int (x3 + 1)), (0, .ref (ad k0)), (1, .int x1), (2, .int x2)]) hx hb dX8_percentile_123 hl (k := 3) rfl rfl (by decide) rfl (fun ls hl => ?_)
    refine lv_goto (tgt := 46) hx hb dX8_percentile_126 (by decide) ?_
    exact hL_46 x1 x2 (x3 + 1) S H locs ls h hsh hG (lv_sub hl [1, 2, 3, 0] rfl)
  have b_46 : ∀  (f9 : Nat) (x1 : Int32) (x2 : Int32) (x3 : Int32) (S : GS) (H : Heap) (locs : List Loc) (ls : Array Slot), wX8_percentile_46 Q X k0 f9 x1 x2 x3 S → gSh S S0 → gS D Y ad A s.heap S H locs → lv_has ls 5 [(0, .ref (ad k0)), (1, .int x1), (2, .int x2), (3, .int x3)] → W p l e (rmX 6) s m args below meth c H locs 0 0 (vx_MQ below (gE D Y za ad S0 s.heap.size (fun r S9 => ∃ x, r = some (vI x) ∧ Q x S9)) (gXc D Y ad S0 s.heap.size X) args s 1 6 A) (F0 m 46 ls []) := by
    intro  f9
    induction f9 with
    | zero =>
      intro x1 x2 x3 S H locs ls h
      exact False.elim (by unfold wX8_percentile_46 at h; exact h)
    | succ f9 hL_46 =>
      intro x1 x2 x3 S H locs ls h hsh hG hl
      unfold wX8_percentile_46 at h
      refine lv_iload_n hx hb dX8_percentile_46 rfl (lv_at hl 3 rfl) ?_
      refine lv_aload_n hx hb dX8_percentile_47 rfl (lv_at hl 0 rfl) ?_
      obtain ⟨hk1, hq2, h⟩ := h
      refine g_get (ci := 8) (C := RX8) (T := TX8) (N := 12) hx hb hts hin8 hown hK hG hk1 (cell_8 hq2) rfl 3 (by decide) lk_29 (fun _ h9 => h9) (v := rv ad (gR S k0 3)) rfl dX8_percentile_48 ?_
      obtain ⟨q3, e4, h⟩ := h
      refine W.eq (g2 := F0 m 51 ls [.ref (ad q3), .int x3]) (by rw [e4]; rfl) ?_
      obtain ⟨hk5, hq6, h⟩ := h
      refine g_get (ci := 3) (C := RX3) (T := TX3) (N := 2) hx hb hts hin3 hown hK hG hk5 (cell_3 hq6) rfl 1 (by decide) lk_221 (fun _ h9 => h9) (v := .int (gX S q3 1)) rfl dX8_percentile_51 ?_
      refine lv_icmp_ge (tgt := 129) hx hb dX8_percentile_54 (by decide) (fun c_54 => ?_) (fun c_54 => ?_)
      · have h := h.1 c_54
        refine lv_iload_n hx hb dX8_percentile_129 rfl (lv_at hl 2 rfl) ?_
        exact vx_ret (W.widen (k := 1) (n := 6) (Nat.zero_le _) (Nat.zero_le _) (W.iret (v := x2) hx hb hr (fun t ht hW => r_end (r := some (vI x2)) hAe hG hsh ⟨_, rfl, h⟩ rfl ht) hG.2.2.2.2 dX8_percentile_130))
      · have h := h.2 c_54
        refine lv_aload_n hx hb dX8_percentile_57 rfl (lv_at hl 0 rfl) ?_
        refine g_get (ci := 8) (C := RX8) (T := TX8) (N := 12) hx hb hts hin8 hown hK hG hk1 (cell_8 hq2) rfl 3 (by decide) lk_29 (fun _ h9 => h9) (v := rv ad (gR S k0 3)) rfl dX8_percentile_58 ?_
        refine lv_iload_n hx hb dX8_percentile_61 rfl (lv_at hl 3 rfl) ?_
        refine W.eq (g2 := F0 m 62 ls [.int x3, .ref (ad q3)]) (by rw [e4]; rfl) ?_
        refine r_callV (za := za) (k := q3) (ci := 3) (C := RX3) (T := TX3) (N := 2) (As := [vI x3]) (rest := []) (tX3_get l S q3 x3 _ h) ⟨hx, hb, hml, hown, hts⟩ (cwV 1 hts gX8_percentile_X3_get rfl rfl rfl (by decide +kernel) ⟨by decide, by decide⟩) hK hG hA hk5 (cell_3 hq6) rfl rfl hl.1 rfl (Nat.le_of_ble_eq_true rfl) ⟨Nat.zero_le _, Nat.zero_le _⟩ dX8_percentile_62 (fun r_9 S7 H locs hp hs_S7 hG => ?_)
        obtain ⟨u8, rfl, h⟩ := hp
        have h := h hs_S7
        refine W.eq (g2 := F0 m 65 ls [rv ad u8]) rfl ?_
        have hsh := hs_S7.tr hsh
        have hk9 := hs_S7.lt hk1
        have hq10 := hs_S7.kd hq2
        have hk11 := hs_S7.lt hk5
        have hq12 := hs_S7.kd hq6
        refine r_astore (lv' := [(4, rv ad u8), (0, .ref (ad k0)), (1, .int x1), (2, .int x2), (3, .int x3)]) hx hb dX8_percentile_65 hl (by decide) rfl (fun ls hl => ?_)
        refine r_aload hx hb dX8_percentile_67 (lv_at hl 0 rfl) ?_
        cases e14 : u8 with
        | none =>
          have h := h.1 e14
          refine W.eq (g2 := F0 m 69 ls [.null]) (by first | rfl | rw [e14]; rfl) ?_
          refine lv_ifnullN (tgt := 123) hx hb dX8_percentile_69 (by decide) ?_
          exact b_123 (wX8_percentile_46 Q X k0 f9) hL_46 x1 x2 x3 S7 H locs ls h hsh hG (lv_sub hl [1, 2, 3, 4] rfl)
        | some q13 =>
          have h := h.2 q13 e14
          refine W.eq (g2 := F0 m 69 ls [.ref (ad q13)]) (by first | rfl | rw [e14]; rfl) ?_
          refine lv_ifnull hx hb dX8_percentile_69 ?_
          refine r_aload hx hb dX8_percentile_72 (lv_at hl 0 rfl) ?_
          refine W.eq (g2 := F0 m 74 ls [.ref (ad q13)]) (by rw [e14]; rfl) ?_
          obtain ⟨hk15, hq16, h⟩ := h
          refine r_callV (za := za) (k := q13) (ci := 2) (C := RX2) (T := TX2) (N := 15) (As := []) (rest := []) (tX2_isPause l S7 q13  _ h) ⟨hx, hb, hml, hown, hts⟩ (cwV 0 hts gX8_percentile_X2_isPause rfl rfl rfl (by decide +kernel) ⟨by decide, by decide⟩) hK hG hA hk15 (cell_2 hq16) rfl rfl hl.1 rfl (Nat.le_of_ble_eq_true rfl) ⟨Nat.zero_le _, Nat.zero_le _⟩ dX8_percentile_74 (fun r_9 S17 H locs hp hs_S17 hG => ?_)
          obtain ⟨u18, rfl, h⟩ := hp
          have h := h hs_S17
          refine W.eq (g2 := F0 m 77 ls [.int u18]) rfl ?_
          have hsh := hs_S17.tr hsh
          have hk19 := hs_S17.lt hk9
          have hq20 := hs_S17.kd hq10
          have hk21 := hs_S17.lt hk11
          have hq22 := hs_S17.kd hq12
          have hk23 := hs_S17.lt hk15
          have hq24 := hs_S17.kd hq16
          refine lv_if_eq (tgt := 123) hx hb dX8_percentile_77 (by decide) (fun c_77 => ?_) (fun c_77 => ?_)
          · have h := h.1 c_77
            exact b_123 (wX8_percentile_46 Q X k0 f9) hL_46 x1 x2 x3 S17 H locs ls h hsh hG (lv_sub hl [1, 2, 3, 4] rfl)
          · have h := h.2 c_77
            refine r_aload hx hb dX8_percentile_80 (lv_at hl 0 rfl) ?_
            obtain ⟨q25, e26, h⟩ := h
            refine W.eq (g2 := F0 m 82 ls [.ref (ad q25)]) (by rw [e26]; rfl) ?_
            obtain ⟨hk27, hq28, h⟩ := h
            refine g_get (ci := 2) (C := RX2) (T := TX2) (N := 15) hx hb hts hin2 hown hK hG hk27 (cell_2 hq28) rfl 9 (by decide) lk_227 (fun _ h9 => h9) (v := .int (gX S17 q25 9)) rfl dX8_percentile_82 ?_
            refine lv_iload_n hx hb dX8_percentile_85 rfl (lv_at hl 3 rfl) ?_
            refine lv_icmp_ge (tgt := 123) hx hb dX8_percentile_86 (by decide) (fun c_86 => ?_) (fun c_86 => ?_)
            · have h := h.1 c_86
              exact b_123 (wX8_percentile_46 Q X k0 f9) hL_46 x1 x2 x3 S17 H locs ls h hsh hG (lv_sub hl [1, 2, 3, 4] rfl)
            · have h := h.2 c_86
              refine lv_bipush (v := 100) hx hb dX8_percentile_89 (by decide) ?_
              refine lv_aload_n hx hb dX8_percentile_91 rfl (lv_at hl 1 rfl) ?_
              refine g_get (ci := 8) (C := RX8) (T := TX8) (N := 12) hx hb hts hin8 hown hK hG hk19 (cell_8 hq20) rfl 3 (by decide) lk_29 (fun _ h9 => h9) (v := rv ad (gR S17 k0 3)) rfl dX8_percentile_92 ?_
              refine lv_iconst (v := 0) hx hb dX8_percentile_95 (by decide) ?_
              refine r_aload hx hb dX8_percentile_96 (lv_at hl 0 rfl) ?_
              refine W.eq (g2 := F0 m 98 ls [.ref (ad q25), .int 0, rv ad (gR S17 k0 3), .int 100]) (by rw [e26]; rfl) ?_
              refine g_get (ci := 2) (C := RX2) (T := TX2) (N := 15) hx hb hts hin2 hown hK hG hk27 (cell_2 hq28) rfl 9 (by decide) lk_227 (fun _ h9 => h9) (v := .int (gX S17 q25 9)) rfl dX8_percentile_98 ?_
              obtain ⟨q29, e30, h⟩ := h
              refine W.eq (g2 := F0 m 101 ls [.int (gX S17 q25 9), .int 0, .ref (ad q29), .int 100]) (by rw [e30]; rfl) ?_
              obtain ⟨hk31, hq32, h⟩ := h
              refine r_callV (za := za) (k := q29) (ci := 3) (C := RX3) (T := TX3) (N := 2) (As := [vI 0, vI (gX S17 q25 9)]) (rest := [.int 100]) (tX3_pausesThatTook l S17 q29 0 (gX S17 q25 9) _ h) ⟨hx, hb, hml, hown, hts⟩ (cwV 2 hts gX8_percentile_X3_pausesThatTook rfl rfl rfl (by decide +kernel) ⟨by decide, by decide⟩) hK hG hA hk31 (cell_3 hq32) rfl rfl hl.1 rfl (Nat.le_of_ble_eq_true rfl) ⟨Nat.zero_le _, Nat.zero_le _⟩ dX8_percentile_101 (fun r_9 S33 H locs hp hs_S33 hG => ?_)
              obtain ⟨u34, rfl, h⟩ := hp
              have h := h hs_S33
              refine W.eq (g2 := F0 m 104 ls [.int u34, .int 100]) rfl ?_
              have hsh := hs_S33.tr hsh
              have hk35 := hs_S33.lt hk19
              have hq36 := hs_S33.kd hq20
              have hk37 := hs_S33.lt hk21
              have hq38 := hs_S33.kd hq22
              have hk39 := hs_S33.lt hk23
              have hq40 := hs_S33.kd hq24
              have hk41 := hs_S33.lt hk27
              have hq42 := hs_S33.kd hq28
              have hk43 := hs_S33.lt hk31
              have hq44 := hs_S33.kd hq32
              refine lv_imul hx hb dX8_percentile_104 ?_
              refine lv_iload_n hx hb dX8_percentile_105 rfl (lv_at hl 2 rfl) ?_
              refine lv_aload_n hx hb dX8_percentile_106 rfl (lv_at hl 1 rfl) ?_
              refine g_get (ci := 8) (C := RX8) (T := TX8) (N := 12) hx hb hts hin8 hown hK hG hk35 (cell_8 hq36) rfl 6 (by decide) lk_50 (fun _ h9 => h9) (v := rv ad (gR S33 k0 6)) rfl dX8_percentile_107 ?_
              obtain ⟨q45, e46, h⟩ := h
              refine W.eq (g2 := F0 m 110 ls [.ref (ad q45), .int x1, .int (100 * u34)]) (by rw [e46]; rfl) ?_
              obtain ⟨hk47, hq48, h⟩ := h
              refine g_get (ci := 5) (C := RX5) (T := TX5) (N := 6) hx hb hts hin5 hown hK hG hk47 (cell_5 hq48) rfl 1 (by decide) lk_215 (fun _ h9 => h9) (v := .int (gX S33 q45 1)) rfl dX8_percentile_110 ?_
              refine lv_imul hx hb dX8_percentile_113 ?_
              refine lv_icmp_lt (tgt := 123) hx hb dX8_percentile_114 (by decide) (fun c_114 => ?_) (fun c_114 => ?_)
              · have h := h.1 c_114
                exact b_123 (wX8_percentile_46 Q X k0 f9) hL_46 x1 x2 x3 S33 H locs ls h hsh hG (lv_sub hl [1, 2, 3, 4] rfl)
              · have h := h.2 c_114
                refine r_aload hx hb dX8_percentile_117 (lv_at hl 0 rfl) ?_
                obtain ⟨q49, e50, h⟩ := h
                refine W.eq (g2 := F0 m 119 ls [.ref (ad q49)]) (by rw [e50]; rfl) ?_
                obtain ⟨hk51, hq52, h⟩ := h
                refine g_get (ci := 2) (C := RX2) (T := TX2) (N := 15) hx hb hts hin2 hown hK hG hk51 (cell_2 hq52) rfl 9 (by decide) lk_227 (fun _ h9 => h9) (v := .int (gX S33 q49 9)) rfl dX8_percentile_119 ?_
                refine lv_istore_n (lv' := [(2, .int (gX S33 q49 9)), (4, rv ad u8), (0, .ref (ad k0)), (1, .int x1), (3, .int x3)]) hx hb dX8_percentile_122 rfl hl (by decide) rfl (fun ls hl => ?_)
                exact b_123 (wX8_percentile_46 Q X k0 f9) hL_46 x1 (gX S33 q49 9) x3 S33 H locs ls h hsh hG (lv_sub hl [2, 3, 0, 4] rfl)
  have hl : lv_has ls 5 [(0, .ref (ad k0)), (1, .int x1)] := hl
  have hsh : gSh S S0 := by rw [hS0]; exact gSh.rf S
  obtain ⟨H, eH⟩ : ∃ z : Heap, z = s.heap := ⟨_, rfl⟩
  obtain ⟨locs, eL⟩ : ∃ z : List Loc, z = [] := ⟨_, rfl⟩
  have hG : gS D Y ad A s.heap S H locs := by rw [eH, eL]; exact hG
  suffices hgoal : W p l e (rmX 6) s m args below meth c H locs 0 0 (vx_MQ below (gE D Y za ad S0 s.heap.size (fun r S9 => ∃ x, r = some (vI x) ∧ Q x S9)) (gXc D Y ad S0 s.heap.size X) args s 1 6 A) (F0 m 0 ls []) by rw [eH, eL] at hgoal; exact hgoal
  unfold wX8_percentile at h
  refine lv_iload_n hx hb dX8_percentile_0 rfl (lv_at hl 1 rfl) ?_
  refine lv_iconst (v := 1) hx hb dX8_percentile_1 (by decide) ?_
  refine lv_icmp_lt (tgt := 11) hx hb dX8_percentile_2 (by decide) (fun c_2 => ?_) (fun c_2 => ?_)
  · have h := h.1 c_2
    exact b_11  S H locs ls h hsh hG (lv_sub hl [] rfl)
  · have h := h.2 c_2
    refine lv_iload_n hx hb dX8_percentile_5 rfl (lv_at hl 1 rfl) ?_
    refine lv_bipush (v := 100) hx hb dX8_percentile_6 (by decide) ?_
    refine lv_icmp_le (tgt := 21) hx hb dX8_percentile_8 (by decide) (fun c_8 => ?_) (fun c_8 => ?_)
    · have h := h.1 c_8
      refine lv_aload_n hx hb dX8_percentile_21 rfl (lv_at hl 0 rfl) ?_
      obtain ⟨hk53, hq54, h⟩ := h
      refine g_get (ci := 8) (C := RX8) (T := TX8) (N := 12) hx hb hts hin8 hown hK hG hk53 (cell_8 hq54) rfl 6 (by decide) lk_50 (fun _ h9 => h9) (v := rv ad (gR S k0 6)) rfl dX8_percentile_22 ?_
      obtain ⟨q55, e56, h⟩ := h
      refine W.eq (g2 := F0 m 25 ls [.ref (ad q55)]) (by rw [e56]; rfl) ?_
      obtain ⟨hk57, hq58, h⟩ := h
      refine g_get (ci := 5) (C := RX5) (T := TX5) (N := 6) hx hb hts hin5 hown hK hG hk57 (cell_5 hq58) rfl 1 (by decide) lk_215 (fun _ h9 => h9) (v := .int (gX S q55 1)) rfl dX8_percentile_25 ?_
      refine lv_if_ne (tgt := 41) hx hb dX8_percentile_28 (by decide) (fun c_28 => ?_) (fun c_28 => ?_)
      · have h := h.1 c_28
        refine lv_ldc hx hb hown lk_220 dX8_percentile_41 ?_
        refine lv_istore_n (lv' := [(2, .int 9999999), (0, .ref (ad k0)), (1, .int x1)]) hx hb dX8_percentile_43 rfl hl (by decide) rfl (fun ls hl => ?_)
        refine lv_iconst (v := 0) hx hb dX8_percentile_44 (by decide) ?_
        refine lv_istore_n (lv' := [(3, .int 0), (2, .int 9999999), (0, .ref (ad k0)), (1, .int x1)]) hx hb dX8_percentile_45 rfl hl (by decide) rfl (fun ls hl => ?_)
        obtain ⟨f59, h⟩ := h
        exact b_46 f59 x1 9999999 0 S H locs ls h hsh hG (lv_sub hl [2, 3, 1, 0] rfl)
      · have h := h.2 c_28
        exact vx_throwS (names := ["java/lang/RuntimeException", "java/lang/Exception"]) hx hb hst hown (by decide) (by decide) (hts (.classLink RX8 190 "java/lang/IllegalStateException") (by decide +kernel)) (hts (.initialized "java/lang/IllegalStateException") (by decide +kernel)) (hZ.2.2.2.1 10 (by decide)) (vx_hat (fun w hw => hts w (hgw_S w hw)) zbad_S (fun w hw => va_Nw.use (zBad_ot w hw) (hZ.2.2.2.2.2.2.2.1 w hw))) zgood_S hZ.2.2.2.2.2.1 hZ.2.2.2.2.2.2.1 hG.2.2 (hl.1.trans hml.symm) dX8_percentile_31 dX8_percentile_34 dX8_percentile_35 dX8_percentile_37 dX8_percentile_40 (fun x hx => (hnt x hx).elim) (by decide) (Nat.le_of_ble_eq_true rfl) (Nat.le_refl _) (Nat.le_refl _) hlocks (fun t hvm hsz hkp => gXc_of hAe hG hsh h hsz hkp) hG.2.2.2.2 (Nat.le_refl _) (Nat.le_refl _)
    · have h := h.2 c_8
      exact b_11  S H locs ls h hsh hG (lv_sub hl [] rfl)
def wX8_bucket_10 (Q : Int32 → GS → Prop) (X : String → GS → Prop) (k0 : Nat)  (S : GS) : Prop :=
  X "java/lang/IndexOutOfBoundsException" S
def wX8_bucket_31 (Q : Int32 → GS → Prop) (X : String → GS → Prop) (k0 : Nat) (x1 : Int32) (t0 : Int32) (S : GS) : Prop :=
  k0 < gN S ∧ gK S k0 = 8 ∧ ∃ q3 : Nat, gR S k0 3 = some q3 ∧ q3 < gN S ∧ gK S q3 = 3 ∧ wX3_pausesThatTook S q3 t0 ((1 <<< ((x1 + 1) &&& 31)) - 1) (fun u8 S7 => gSh S7 S → Q u8 S7)
def wX8_bucket (S : GS) (k0 : Nat) (x1 : Int32) (Q : Int32 → GS → Prop) (X : String → GS → Prop) : Prop :=
  (x1 < 0 → wX8_bucket_10 Q X k0  S) ∧ (¬ x1 < 0 → (x1 < 24 → (¬ x1 = 0 → wX8_bucket_31 Q X k0 x1 (1 <<< (x1 &&& 31)) S) ∧ (x1 = 0 → wX8_bucket_31 Q X k0 x1 0 S)) ∧ (¬ x1 < 24 → wX8_bucket_10 Q X k0  S))
set_option maxHeartbeats 4000000 in
set_option maxRecDepth 100000 in
theorem tX8_bucket (l : Launch) (hst : l.stackTraces = false) (S : GS) (k0 : Nat) (x1 : Int32) (Q : Int32 → GS → Prop) (X : String → GS → Prop) (h : wX8_bucket S k0 x1 Q X) : CT l yX8_bucket wsX8_bucket 6 S (gA [vR (some k0), vI x1]) (fun r S9 => ∃ x, r = some (vI x) ∧ Q x S9) X := by
  refine CT.ofW (cc := cX8_bucket) (maxL := 3) (ret := (some .int)) RX8 (by decide) rfl rfl (fun _ _ _ => Nat.le_of_ble_eq_true rfl) ?_
  intro p e s m args below meth c D Y za zv ad A ls hAe hx hb hr hml hnt hts hown hlocks hK hZ hA hG hl
  obtain ⟨S0, hS0⟩ : ∃ z : GS, z = S := ⟨_, rfl⟩
  rw [← hS0] at hAe
  rw [← hS0]
  have hin8 : ∀ w ∈ wsX80, w ∈ wsX8_bucket := by decide +kernel
  have lk_29 := hts (.fieldLink RX8 29 "PauseLog" "events" "LPauseLog$Events;") (by decide +kernel)
  have hgw_B : ∀ w ∈ (vx_atS RX8 163 "java/lang/IndexOutOfBoundsException" ["java/lang/RuntimeException", "java/lang/Exception"]).filter goodWord, w ∈ wsX8_bucket := by decide +kernel
  have b_10 : ∀   (S : GS) (H : Heap) (locs : List Loc) (ls : Array Slot), wX8_bucket_10 Q X k0  S → gSh S S0 → gS D Y ad A s.heap S H locs → lv_has ls 3 [] → W p l e (rmX 6) s m args below meth c H locs 0 0 (vx_MQ below (gE D Y za ad S0 s.heap.size (fun r S9 => ∃ x, r = some (vI x) ∧ Q x S9)) (gXc D Y ad S0 s.heap.size X) args s 1 6 A) (F0 m 10 ls []) := by
    intro   S H locs ls h hsh hG hl
    unfold wX8_bucket_10 at h
    exact vx_throwS (names := ["java/lang/RuntimeException", "java/lang/Exception"]) hx hb hst hown (by decide) (by decide) (hts (.classLink RX8 159 "java/lang/IndexOutOfBoundsException") (by decide +kernel)) (hts (.initialized "java/lang/IndexOutOfBoundsException") (by decide +kernel)) (hZ.2.2.2.1 11 (by decide)) (vx_hat (fun w hw => hts w (hgw_B w hw)) zbad_B (fun w hw => va_Nw.use (zBad_ot w hw) (hZ.2.2.2.2.2.2.2.1 w hw))) zgood_B hZ.2.2.2.2.2.1 hZ.2.2.2.2.2.2.1 hG.2.2 (hl.1.trans hml.symm) dX8_bucket_10 dX8_bucket_13 dX8_bucket_14 dX8_bucket_16 dX8_bucket_19 (fun x hx => (hnt x hx).elim) (by decide) (Nat.le_of_ble_eq_true rfl) (Nat.le_refl _) (Nat.le_refl _) hlocks (fun t hvm hsz hkp => gXc_of hAe hG hsh h hsz hkp) hG.2.2.2.2 (Nat.le_refl _) (Nat.le_refl _)
  have b_31 : ∀  (x1 : Int32) (t0 : Int32) (S : GS) (H : Heap) (locs : List Loc) (ls : Array Slot), wX8_bucket_31 Q X k0 x1 t0 S → gSh S S0 → gS D Y ad A s.heap S H locs → lv_has ls 3 [(0, .ref (ad k0)), (1, .int x1)] → W p l e (rmX 6) s m args below meth c H locs 0 0 (vx_MQ below (gE D Y za ad S0 s.heap.size (fun r S9 => ∃ x, r = some (vI x) ∧ Q x S9)) (gXc D Y ad S0 s.heap.size X) args s 1 6 A) (F0 m 31 ls [.int t0]) := by
    intro  x1 t0 S H locs ls h hsh hG hl
    unfold wX8_bucket_31 at h
    refine lv_istore_n (lv' := [(2, .int t0), (0, .ref (ad k0)), (1, .int x1)]) hx hb dX8_bucket_31 rfl hl (by decide) rfl (fun ls hl => ?_)
    refine lv_aload_n hx hb dX8_bucket_32 rfl (lv_at hl 1 rfl) ?_
    obtain ⟨hk1, hq2, h⟩ := h
    refine g_get (ci := 8) (C := RX8) (T := TX8) (N := 12) hx hb hts hin8 hown hK hG hk1 (cell_8 hq2) rfl 3 (by decide) lk_29 (fun _ h9 => h9) (v := rv ad (gR S k0 3)) rfl dX8_bucket_33 ?_
    refine lv_iload_n hx hb dX8_bucket_36 rfl (lv_at hl 0 rfl) ?_
    refine lv_iconst (v := 1) hx hb dX8_bucket_37 (by decide) ?_
    refine lv_iload_n hx hb dX8_bucket_38 rfl (lv_at hl 2 rfl) ?_
    refine lv_iconst (v := 1) hx hb dX8_bucket_39 (by decide) ?_
    refine lv_iadd hx hb dX8_bucket_40 ?_
    refine lv_ishl hx hb dX8_bucket_41 ?_
    refine lv_iconst (v := 1) hx hb dX8_bucket_42 (by decide) ?_
    refine lv_isub hx hb dX8_bucket_43 ?_
    obtain ⟨q3, e4, h⟩ := h
    refine W.eq (g2 := F0 m 44 ls [.int ((1 <<< ((x1 + 1) &&& 31)) - 1), .int t0, .ref (ad q3)]) (by rw [e4]; rfl) ?_
    obtain ⟨hk5, hq6, h⟩ := h
    refine r_callV (za := za) (k := q3) (ci := 3) (C := RX3) (T := TX3) (N := 2) (As := [vI t0, vI ((1 <<< ((x1 + 1) &&& 31)) - 1)]) (rest := []) (tX3_pausesThatTook l S q3 t0 ((1 <<< ((x1 + 1) &&& 31)) - 1) _ h) ⟨hx, hb, hml, hown, hts⟩ (cwV 2 hts gX8_bucket_X3_pausesThatTook rfl rfl rfl (by decide +kernel) ⟨by decide, by decide⟩) hK hG hA hk5 (cell_3 hq6) rfl rfl hl.1 rfl (Nat.le_of_ble_eq_true rfl) ⟨Nat.zero_le _, Nat.zero_le _⟩ dX8_bucket_44 (fun r_9 S7 H locs hp hs_S7 hG => ?_)
    obtain ⟨u8, rfl, h⟩ := hp
    have h := h hs_S7
    refine W.eq (g2 := F0 m 47 ls [.int u8]) rfl ?_
    have hsh := hs_S7.tr hsh
    have hk9 := hs_S7.lt hk1
    have hq10 := hs_S7.kd hq2
    have hk11 := hs_S7.lt hk5
    have hq12 := hs_S7.kd hq6
    exact vx_ret (W.widen (k := 1) (n := 6) (Nat.zero_le _) (Nat.zero_le _) (W.iret (v := u8) hx hb hr (fun t ht hW => r_end (r := some (vI u8)) hAe hG hsh ⟨_, rfl, h⟩ rfl ht) hG.2.2.2.2 dX8_bucket_47))
  have hl : lv_has ls 3 [(0, .ref (ad k0)), (1, .int x1)] := hl
  have hsh : gSh S S0 := by rw [hS0]; exact gSh.rf S
  obtain ⟨H, eH⟩ : ∃ z : Heap, z = s.heap := ⟨_, rfl⟩
  obtain ⟨locs, eL⟩ : ∃ z : List Loc, z = [] := ⟨_, rfl⟩
  have hG : gS D Y ad A s.heap S H locs := by rw [eH, eL]; exact hG
  suffices hgoal : W p l e (rmX 6) s m args below meth c H locs 0 0 (vx_MQ below (gE D Y za ad S0 s.heap.size (fun r S9 => ∃ x, r = some (vI x) ∧ Q x S9)) (gXc D Y ad S0 s.heap.size X) args s 1 6 A) (F0 m 0 ls []) by rw [eH, eL] at hgoal; exact hgoal
  unfold wX8_bucket at h
  refine lv_iload_n hx hb dX8_bucket_0 rfl (lv_at hl 1 rfl) ?_
  refine lv_if_lt (tgt := 10) hx hb dX8_bucket_1 (by decide) (fun c_1 => ?_) (fun c_1 => ?_)
  · have h := h.1 c_1
    exact b_10  S H locs ls h hsh hG (lv_sub hl [] rfl)
  · have h := h.2 c_1
    refine lv_iload_n hx hb dX8_bucket_4 rfl (lv_at hl 1 rfl) ?_
    refine lv_bipush (v := 24) hx hb dX8_bucket_5 (by decide) ?_
    refine lv_icmp_lt (tgt := 20) hx hb dX8_bucket_7 (by decide) (fun c_7 => ?_) (fun c_7 => ?_)
    · have h := h.1 c_7
      refine lv_iload_n hx hb dX8_bucket_20 rfl (lv_at hl 1 rfl) ?_
      refine lv_if_ne (tgt := 28) hx hb dX8_bucket_21 (by decide) (fun c_21 => ?_) (fun c_21 => ?_)
      · have h := h.1 c_21
        refine lv_iconst (v := 1) hx hb dX8_bucket_28 (by decide) ?_
        refine lv_iload_n hx hb dX8_bucket_29 rfl (lv_at hl 1 rfl) ?_
        refine lv_ishl hx hb dX8_bucket_30 ?_
        exact b_31 x1 (1 <<< (x1 &&& 31)) S H locs ls h hsh hG (lv_sub hl [0, 1] rfl)
      · have h := h.2 c_21
        refine lv_iconst (v := 0) hx hb dX8_bucket_24 (by decide) ?_
        refine lv_goto (tgt := 31) hx hb dX8_bucket_25 (by decide) ?_
        exact b_31 x1 0 S H locs ls h hsh hG (lv_sub hl [0, 1] rfl)
    · have h := h.2 c_7
      exact b_10  S H locs ls h hsh hG (lv_sub hl [] rfl)
def wX8_ofCause_9 (Q : Int64 → GS → Prop) (X : String → GS → Prop) (k0 : Nat)  (S : GS) : Prop :=
  X "java/lang/IndexOutOfBoundsException" S
def wX8_ofCause_78 (Q : Int64 → GS → Prop) (X : String → GS → Prop) (L_24 : Int32 → Int64 → Int32 → GS → Prop) (k0 : Nat) (x1 : Int32) (x2 : Int64) (x4 : Int32) (S : GS) : Prop :=
  L_24 x1 x2 (x4 + 1) S
def wX8_ofCause_24 (Q : Int64 → GS → Prop) (X : String → GS → Prop) (k0 : Nat) : Nat → Int32 → Int64 → Int32 → GS → Prop
  | 0, _, _, _, _ => False
  | f9 + 1, x1, x2, x4, S =>
  k0 < gN S ∧ gK S k0 = 8 ∧ ∃ q3 : Nat, gR S k0 3 = some q3 ∧ q3 < gN S ∧ gK S q3 = 3 ∧ ((gX S q3 1) ≤ x4 → Q x2 S) ∧ (¬ (gX S q3 1) ≤ x4 → wX3_get S q3 x4 (fun u8 S7 => gSh S7 S → (u8 = none → wX8_ofCause_78 Q X (wX8_ofCause_24 Q X k0 f9) k0 x1 x2 x4 S7) ∧ (∀ q13 : Nat, u8 = some q13 → q13 < gN S7 ∧ gK S7 q13 = 2 ∧ wX2_isPause S7 q13  (fun u18 S17 => gSh S17 S7 → (u18 = 0 → wX8_ofCause_78 Q X (wX8_ofCause_24 Q X k0 f9) k0 x1 x2 x4 S17) ∧ (¬ u18 = 0 → ∃ q25 : Nat, u8 = some q25 ∧ q25 < gN S17 ∧ gK S17 q25 = 2 ∧ (¬ (gX S17 q25 2) = x1 → wX8_ofCause_78 Q X (wX8_ofCause_24 Q X k0 f9) k0 x1 x2 x4 S17) ∧ ((gX S17 q25 2) = x1 → wX8_ofCause_78 Q X (wX8_ofCause_24 Q X k0 f9) k0 x1 (x2 + (Int32.toInt64 (gX S17 q25 9))) x4 S17))))))
def wX8_ofCause (S : GS) (k0 : Nat) (x1 : Int32) (Q : Int64 → GS → Prop) (X : String → GS → Prop) : Prop :=
  (x1 < 0 → wX8_ofCause_9 Q X k0  S) ∧ (¬ x1 < 0 → (x1 ≤ 2 → ∃ f29 : Nat, wX8_ofCause_24 Q X k0 f29 x1 0 0 S) ∧ (¬ x1 ≤ 2 → wX8_ofCause_9 Q X k0  S))
set_option maxHeartbeats 4000000 in
set_option maxRecDepth 100000 in
theorem tX8_ofCause (l : Launch) (hst : l.stackTraces = false) (S : GS) (k0 : Nat) (x1 : Int32) (Q : Int64 → GS → Prop) (X : String → GS → Prop) (h : wX8_ofCause S k0 x1 Q X) : CT l yX8_ofCause wsX8_ofCause 6 S (gA [vR (some k0), vI x1]) (fun r S9 => ∃ x, r = some (vL x) ∧ Q x S9) X := by
  refine CT.ofW (cc := cX8_ofCause) (maxL := 6) (ret := (some .long)) RX8 (by decide) rfl rfl (fun _ _ _ => Nat.le_of_ble_eq_true rfl) ?_
  intro p e s m args below meth c D Y za zv ad A ls hAe hx hb hr hml hnt hts hown hlocks hK hZ hA hG hl
  obtain ⟨S0, hS0⟩ : ∃ z : GS, z = S := ⟨_, rfl⟩
  rw [← hS0] at hAe
  rw [← hS0]
  have hin2 : ∀ w ∈ wsX20, w ∈ wsX8_ofCause := by decide +kernel
  have hin3 : ∀ w ∈ wsX30, w ∈ wsX8_ofCause := by decide +kernel
  have hin8 : ∀ w ∈ wsX80, w ∈ wsX8_ofCause := by decide +kernel
  have lk_29 := hts (.fieldLink RX8 29 "PauseLog" "events" "LPauseLog$Events;") (by decide +kernel)
  have lk_221 := hts (.fieldLink RX8 221 "PauseLog$Events" "size" "I") (by decide +kernel)
  have lk_235 := hts (.fieldLink RX8 235 "PauseLog$Event" "cause" "I") (by decide +kernel)
  have lk_227 := hts (.fieldLink RX8 227 "PauseLog$Event" "took" "I") (by decide +kernel)
  have hgw_B : ∀ w ∈ (vx_atS RX8 163 "java/lang/IndexOutOfBoundsException" ["java/lang/RuntimeException", "java/lang/Exception"]).filter goodWord, w ∈ wsX8_ofCause := by decide +kernel
  have b_9 : ∀   (S : GS) (H : Heap) (locs : List Loc) (ls : Array Slot), wX8_ofCause_9 Q X k0  S → gSh S S0 → gS D Y ad A s.heap S H locs → lv_has ls 6 [] → W p l e (rmX 6) s m args below meth c H locs 0 0 (vx_MQ below (gE D Y za ad S0 s.heap.size (fun r S9 => ∃ x, r = some (vL x) ∧ Q x S9)) (gXc D Y ad S0 s.heap.size X) args s 1 6 A) (F0 m 9 ls []) := by
    intro   S H locs ls h hsh hG hl
    unfold wX8_ofCause_9 at h
    exact vx_throwS (names := ["java/lang/RuntimeException", "java/lang/Exception"]) hx hb hst hown (by decide) (by decide) (hts (.classLink RX8 159 "java/lang/IndexOutOfBoundsException") (by decide +kernel)) (hts (.initialized "java/lang/IndexOutOfBoundsException") (by decide +kernel)) (hZ.2.2.2.1 12 (by decide)) (vx_hat (fun w hw => hts w (hgw_B w hw)) zbad_B (fun w hw => va_Nw.use (zBad_ot w hw) (hZ.2.2.2.2.2.2.2.1 w hw))) zgood_B hZ.2.2.2.2.2.1 hZ.2.2.2.2.2.2.1 hG.2.2 (hl.1.trans hml.symm) dX8_ofCause_9 dX8_ofCause_12 dX8_ofCause_13 dX8_ofCause_15 dX8_ofCause_18 (fun x hx => (hnt x hx).elim) (by decide) (Nat.le_of_ble_eq_true rfl) (Nat.le_refl _) (Nat.le_refl _) hlocks (fun t hvm hsz hkp => gXc_of hAe hG hsh h hsz hkp) hG.2.2.2.2 (Nat.le_refl _) (Nat.le_refl _)
  have b_78 : ∀ (L_24 : Int32 → Int64 → Int32 → GS → Prop) (hL_24 : ∀ (x1 : Int32) (x2 : Int64) (x4 : Int32) (S : GS) (H : Heap) (locs : List Loc) (ls : Array Slot), L_24 x1 x2 x4 S → gSh S S0 → gS D Y ad A s.heap S H locs → lv_has ls 6 [(0, .ref (ad k0)), (1, .int x1), (2, .long x2), (4, .int x4)] → W p l e (rmX 6) s m args below meth c H locs 0 0 (vx_MQ below (gE D Y za ad S0 s.heap.size (fun r S9 => ∃ x, r = some (vL x) ∧ Q x S9)) (gXc D Y ad S0 s.heap.size X) args s 1 6 A) (F0 m 24 ls [])) (x1 : Int32) (x2 : Int64) (x4 : Int32) (S : GS) (H : Heap) (locs : List Loc) (ls : Array Slot), wX8_ofCause_78 Q X L_24 k0 x1 x2 x4 S → gSh S S0 → gS D Y ad A s.heap S H locs → lv_has ls 6 [(0, .ref (ad k0)), (1, .int x1), (2, .long x2), (4, .int x4)] → W p l e (rmX 6) s m args below meth c H locs 0 0 (vx_MQ below (gE D Y za ad S0 s.heap.size (fun r S9 => ∃ x, r = some (vL x) ∧ Q x S9)) (gXc D Y ad S0 s.heap.size X) args s 1 6 A) (F0 m 78 ls []) := by
    intro L_24 hL_24 x1 x2 x4 S H locs ls h hsh hG hl
    unfold wX8_ofCause_78 at h
    refine lv_iinc (v := x4 + 1) (lv' := [(4, .int (x4 + 1)), (0, .ref (ad k0)), (1, .int x1), (2, .long x2)]) hx hb dX8_ofCause_78 hl (k := 3) rfl rfl (by decide) rfl (fun ls hl => ?_)
    refine lv_goto (tgt := 24) hx hb dX8_ofCause_81 (by decide) ?_
    exact hL_24 x1 x2 (x4 + 1) S H locs ls h hsh hG (lv_sub hl [1, 2, 3, 0] rfl)
  have b_24 : ∀  (f9 : Nat) (x1 : Int32) (x2 : Int64) (x4 : Int32) (S : GS) (H : Heap) (locs : List Loc) (ls : Array Slot), wX8_ofCause_24 Q X k0 f9 x1 x2 x4 S → gSh S S0 → gS D Y ad A s.heap S H locs → lv_has ls 6 [(0, .ref (ad k0)), (1, .int x1), (2, .long x2), (4, .int x4)] → W p l e (rmX 6) s m args below meth c H locs 0 0 (vx_MQ below (gE D Y za ad S0 s.heap.size (fun r S9 => ∃ x, r = some (vL x) ∧ Q x S9)) (gXc D Y ad S0 s.heap.size X) args s 1 6 A) (F0 m 24 ls []) := by
    intro  f9
    induction f9 with
    | zero =>
      intro x1 x2 x4 S H locs ls h
      exact False.elim (by unfold wX8_ofCause_24 at h; exact h)
    | succ f9 hL_24 =>
      intro x1 x2 x4 S H locs ls h hsh hG hl
      unfold wX8_ofCause_24 at h
      refine lv_iload hx hb dX8_ofCause_24 (lv_at hl 3 rfl) ?_
      refine lv_aload_n hx hb dX8_ofCause_26 rfl (lv_at hl 0 rfl) ?_
      obtain ⟨hk1, hq2, h⟩ := h
      refine g_get (ci := 8) (C := RX8) (T := TX8) (N := 12) hx hb hts hin8 hown hK hG hk1 (cell_8 hq2) rfl 3 (by decide) lk_29 (fun _ h9 => h9) (v := rv ad (gR S k0 3)) rfl dX8_ofCause_27 ?_
      obtain ⟨q3, e4, h⟩ := h
      refine W.eq (g2 := F0 m 30 ls [.ref (ad q3), .int x4]) (by rw [e4]; rfl) ?_
      obtain ⟨hk5, hq6, h⟩ := h
      refine g_get (ci := 3) (C := RX3) (T := TX3) (N := 2) hx hb hts hin3 hown hK hG hk5 (cell_3 hq6) rfl 1 (by decide) lk_221 (fun _ h9 => h9) (v := .int (gX S q3 1)) rfl dX8_ofCause_30 ?_
      refine lv_icmp_ge (tgt := 84) hx hb dX8_ofCause_33 (by decide) (fun c_33 => ?_) (fun c_33 => ?_)
      · have h := h.1 c_33
        refine lv_lload_n hx hb dX8_ofCause_84 rfl (lv_at hl 2 rfl) ?_
        exact vx_ret (W.widen (k := 1) (n := 6) (Nat.zero_le _) (Nat.zero_le _) (W.lret (v := x2) hx hb hr (fun t ht hW => r_end (r := some (vL x2)) hAe hG hsh ⟨_, rfl, h⟩ rfl ht) hG.2.2.2.2 dX8_ofCause_85))
      · have h := h.2 c_33
        refine lv_aload_n hx hb dX8_ofCause_36 rfl (lv_at hl 0 rfl) ?_
        refine g_get (ci := 8) (C := RX8) (T := TX8) (N := 12) hx hb hts hin8 hown hK hG hk1 (cell_8 hq2) rfl 3 (by decide) lk_29 (fun _ h9 => h9) (v := rv ad (gR S k0 3)) rfl dX8_ofCause_37 ?_
        refine lv_iload hx hb dX8_ofCause_40 (lv_at hl 3 rfl) ?_
        refine W.eq (g2 := F0 m 42 ls [.int x4, .ref (ad q3)]) (by rw [e4]; rfl) ?_
        refine r_callV (za := za) (k := q3) (ci := 3) (C := RX3) (T := TX3) (N := 2) (As := [vI x4]) (rest := []) (tX3_get l S q3 x4 _ h) ⟨hx, hb, hml, hown, hts⟩ (cwV 1 hts gX8_ofCause_X3_get rfl rfl rfl (by decide +kernel) ⟨by decide, by decide⟩) hK hG hA hk5 (cell_3 hq6) rfl rfl hl.1 rfl (Nat.le_of_ble_eq_true rfl) ⟨Nat.zero_le _, Nat.zero_le _⟩ dX8_ofCause_42 (fun r_9 S7 H locs hp hs_S7 hG => ?_)
        obtain ⟨u8, rfl, h⟩ := hp
        have h := h hs_S7
        refine W.eq (g2 := F0 m 45 ls [rv ad u8]) rfl ?_
        have hsh := hs_S7.tr hsh
        have hk9 := hs_S7.lt hk1
        have hq10 := hs_S7.kd hq2
        have hk11 := hs_S7.lt hk5
        have hq12 := hs_S7.kd hq6
        refine r_astore (lv' := [(5, rv ad u8), (0, .ref (ad k0)), (1, .int x1), (2, .long x2), (4, .int x4)]) hx hb dX8_ofCause_45 hl (by decide) rfl (fun ls hl => ?_)
        refine r_aload hx hb dX8_ofCause_47 (lv_at hl 0 rfl) ?_
        cases e14 : u8 with
        | none =>
          have h := h.1 e14
          refine W.eq (g2 := F0 m 49 ls [.null]) (by first | rfl | rw [e14]; rfl) ?_
          refine lv_ifnullN (tgt := 78) hx hb dX8_ofCause_49 (by decide) ?_
          exact b_78 (wX8_ofCause_24 Q X k0 f9) hL_24 x1 x2 x4 S7 H locs ls h hsh hG (lv_sub hl [1, 2, 3, 4] rfl)
        | some q13 =>
          have h := h.2 q13 e14
          refine W.eq (g2 := F0 m 49 ls [.ref (ad q13)]) (by first | rfl | rw [e14]; rfl) ?_
          refine lv_ifnull hx hb dX8_ofCause_49 ?_
          refine r_aload hx hb dX8_ofCause_52 (lv_at hl 0 rfl) ?_
          refine W.eq (g2 := F0 m 54 ls [.ref (ad q13)]) (by rw [e14]; rfl) ?_
          obtain ⟨hk15, hq16, h⟩ := h
          refine r_callV (za := za) (k := q13) (ci := 2) (C := RX2) (T := TX2) (N := 15) (As := []) (rest := []) (tX2_isPause l S7 q13  _ h) ⟨hx, hb, hml, hown, hts⟩ (cwV 0 hts gX8_ofCause_X2_isPause rfl rfl rfl (by decide +kernel) ⟨by decide, by decide⟩) hK hG hA hk15 (cell_2 hq16) rfl rfl hl.1 rfl (Nat.le_of_ble_eq_true rfl) ⟨Nat.zero_le _, Nat.zero_le _⟩ dX8_ofCause_54 (fun r_9 S17 H locs hp hs_S17 hG => ?_)
          obtain ⟨u18, rfl, h⟩ := hp
          have h := h hs_S17
          refine W.eq (g2 := F0 m 57 ls [.int u18]) rfl ?_
          have hsh := hs_S17.tr hsh
          have hk19 := hs_S17.lt hk9
          have hq20 := hs_S17.kd hq10
          have hk21 := hs_S17.lt hk11
          have hq22 := hs_S17.kd hq12
          have hk23 := hs_S17.lt hk15
          have hq24 := hs_S17.kd hq16
          refine lv_if_eq (tgt := 78) hx hb dX8_ofCause_57 (by decide) (fun c_57 => ?_) (fun c_57 => ?_)
          · have h := h.1 c_57
            exact b_78 (wX8_ofCause_24 Q X k0 f9) hL_24 x1 x2 x4 S17 H locs ls h hsh hG (lv_sub hl [1, 2, 3, 4] rfl)
          · have h := h.2 c_57
            refine r_aload hx hb dX8_ofCause_60 (lv_at hl 0 rfl) ?_
            obtain ⟨q25, e26, h⟩ := h
            refine W.eq (g2 := F0 m 62 ls [.ref (ad q25)]) (by rw [e26]; rfl) ?_
            obtain ⟨hk27, hq28, h⟩ := h
            refine g_get (ci := 2) (C := RX2) (T := TX2) (N := 15) hx hb hts hin2 hown hK hG hk27 (cell_2 hq28) rfl 2 (by decide) lk_235 (fun _ h9 => h9) (v := .int (gX S17 q25 2)) rfl dX8_ofCause_62 ?_
            refine lv_iload_n hx hb dX8_ofCause_65 rfl (lv_at hl 2 rfl) ?_
            refine lv_icmp_ne (tgt := 78) hx hb dX8_ofCause_66 (by decide) (fun c_66 => ?_) (fun c_66 => ?_)
            · have h := h.1 c_66
              exact b_78 (wX8_ofCause_24 Q X k0 f9) hL_24 x1 x2 x4 S17 H locs ls h hsh hG (lv_sub hl [1, 2, 3, 4] rfl)
            · have h := h.2 c_66
              refine lv_lload_n hx hb dX8_ofCause_69 rfl (lv_at hl 3 rfl) ?_
              refine r_aload hx hb dX8_ofCause_70 (lv_at hl 0 rfl) ?_
              refine W.eq (g2 := F0 m 72 ls [.ref (ad q25), .long x2]) (by rw [e26]; rfl) ?_
              refine g_get (ci := 2) (C := RX2) (T := TX2) (N := 15) hx hb hts hin2 hown hK hG hk27 (cell_2 hq28) rfl 9 (by decide) lk_227 (fun _ h9 => h9) (v := .int (gX S17 q25 9)) rfl dX8_ofCause_72 ?_
              refine lv_i2l hx hb dX8_ofCause_75 rfl ?_
              refine lv_ladd hx hb dX8_ofCause_76 ?_
              refine lv_lstore_n (lv' := [(2, .long (x2 + (Int32.toInt64 (gX S17 q25 9)))), (5, rv ad u8), (0, .ref (ad k0)), (1, .int x1), (4, .int x4)]) hx hb dX8_ofCause_77 rfl hl (by decide) rfl (fun ls hl => ?_)
              exact b_78 (wX8_ofCause_24 Q X k0 f9) hL_24 x1 (x2 + (Int32.toInt64 (gX S17 q25 9))) x4 S17 H locs ls h hsh hG (lv_sub hl [2, 3, 0, 4] rfl)
  have hl : lv_has ls 6 [(0, .ref (ad k0)), (1, .int x1)] := hl
  have hsh : gSh S S0 := by rw [hS0]; exact gSh.rf S
  obtain ⟨H, eH⟩ : ∃ z : Heap, z = s.heap := ⟨_, rfl⟩
  obtain ⟨locs, eL⟩ : ∃ z : List Loc, z = [] := ⟨_, rfl⟩
  have hG : gS D Y ad A s.heap S H locs := by rw [eH, eL]; exact hG
  suffices hgoal : W p l e (rmX 6) s m args below meth c H locs 0 0 (vx_MQ below (gE D Y za ad S0 s.heap.size (fun r S9 => ∃ x, r = some (vL x) ∧ Q x S9)) (gXc D Y ad S0 s.heap.size X) args s 1 6 A) (F0 m 0 ls []) by rw [eH, eL] at hgoal; exact hgoal
  unfold wX8_ofCause at h
  refine lv_iload_n hx hb dX8_ofCause_0 rfl (lv_at hl 1 rfl) ?_
  refine lv_if_lt (tgt := 9) hx hb dX8_ofCause_1 (by decide) (fun c_1 => ?_) (fun c_1 => ?_)
  · have h := h.1 c_1
    exact b_9  S H locs ls h hsh hG (lv_sub hl [] rfl)
  · have h := h.2 c_1
    refine lv_iload_n hx hb dX8_ofCause_4 rfl (lv_at hl 1 rfl) ?_
    refine lv_iconst (v := 2) hx hb dX8_ofCause_5 (by decide) ?_
    refine lv_icmp_le (tgt := 19) hx hb dX8_ofCause_6 (by decide) (fun c_6 => ?_) (fun c_6 => ?_)
    · have h := h.1 c_6
      refine lv_lconst (v := 0) hx hb dX8_ofCause_19 rfl ?_
      refine lv_lstore_n (lv' := [(2, .long 0), (0, .ref (ad k0)), (1, .int x1)]) hx hb dX8_ofCause_20 rfl hl (by decide) rfl (fun ls hl => ?_)
      refine lv_iconst (v := 0) hx hb dX8_ofCause_21 (by decide) ?_
      refine lv_istore (lv' := [(4, .int 0), (2, .long 0), (0, .ref (ad k0)), (1, .int x1)]) hx hb dX8_ofCause_22 hl (by decide) rfl (fun ls hl => ?_)
      obtain ⟨f29, h⟩ := h
      exact b_24 f29 x1 0 0 S H locs ls h hsh hG (lv_sub hl [2, 3, 1, 0] rfl)
    · have h := h.2 c_6
      exact b_9  S H locs ls h hsh hG (lv_sub hl [] rfl)
def wX8_count (S : GS) (k0 : Nat) (x1 : Int32) (Q : Int32 → GS → Prop) (X : String → GS → Prop) : Prop :=
  (x1 = 0 → k0 < gN S ∧ gK S k0 = 8 ∧ Q (gX S k0 10) S) ∧ (x1 = 1 → k0 < gN S ∧ gK S k0 = 8 ∧ ∃ q5 : Nat, gR S k0 3 = some q5 ∧ q5 < gN S ∧ gK S q5 = 3 ∧ Q (gX S q5 1) S) ∧ (x1 = 2 → k0 < gN S ∧ gK S k0 = 8 ∧ ∃ q11 : Nat, gR S k0 4 = some q11 ∧ q11 < gN S ∧ gK S q11 = 0 ∧ Q (gX S q11 3) S) ∧ (x1 = 3 → k0 < gN S ∧ gK S k0 = 8 ∧ Q (gX S k0 11) S) ∧ (x1 = 4 → k0 < gN S ∧ gK S k0 = 8 ∧ ∃ q19 : Nat, gR S k0 4 = some q19 ∧ q19 < gN S ∧ gK S q19 = 0 ∧ Q (gX S q19 4) S) ∧ (x1 = 5 → k0 < gN S ∧ gK S k0 = 8 ∧ wX8_linesOf S (gR S k0 7) (fun u26 S25 => gSh S25 S → wX8_linesOf S25 (gR S25 k0 8) (fun u30 S29 => gSh S29 S25 → Q (u26 + u30) S29))) ∧ (x1 = 6 → k0 < gN S ∧ gK S k0 = 8 ∧ ∃ q35 : Nat, gR S k0 0 = some q35 ∧ q35 < gN S ∧ gK S q35 = 6 ∧ Q (gX S q35 1) S) ∧ (x1 = 7 → k0 < gN S ∧ gK S k0 = 8 ∧ ∃ q41 : Nat, gR S k0 5 = some q41 ∧ q41 < gN S ∧ gK S q41 = 7 ∧ wX7_span S q41  (fun u46 S45 => gSh S45 S → Q (Int64.toInt32 u46) S45)) ∧ (x1 = 8 → k0 < gN S ∧ gK S k0 = 8 ∧ ∃ q53 : Nat, gR S k0 6 = some q53 ∧ q53 < gN S ∧ gK S q53 = 5 ∧ Q (gX S q53 1) S) ∧ (x1 = 9 → k0 < gN S ∧ gK S k0 = 8 ∧ wX8_idOf S (gR S k0 7) (fun u60 S59 => gSh S59 S → Q u60 S59)) ∧ (x1 = 10 → k0 < gN S ∧ gK S k0 = 8 ∧ wX8_idOf S (gR S k0 8) (fun u66 S65 => gSh S65 S → Q u66 S65)) ∧ (¬ x1 = 0 → ¬ x1 = 1 → ¬ x1 = 2 → ¬ x1 = 3 → ¬ x1 = 4 → ¬ x1 = 5 → ¬ x1 = 6 → ¬ x1 = 7 → ¬ x1 = 8 → ¬ x1 = 9 → ¬ x1 = 10 → X "java/lang/IndexOutOfBoundsException" S)
set_option maxHeartbeats 4000000 in
set_option maxRecDepth 100000 in
theorem tX8_count (l : Launch) (hst : l.stackTraces = false) (S : GS) (k0 : Nat) (x1 : Int32) (Q : Int32 → GS → Prop) (X : String → GS → Prop) (h : wX8_count S k0 x1 Q X) : CT l yX8_count wsX8_count 6 S (gA [vR (some k0), vI x1]) (fun r S9 => ∃ x, r = some (vI x) ∧ Q x S9) X := by
  refine CT.ofW (cc := cX8_count) (maxL := 2) (ret := (some .int)) RX8 (by decide) rfl rfl (fun _ _ _ => Nat.le_of_ble_eq_true rfl) ?_
  intro p e s m args below meth c D Y za zv ad A ls hAe hx hb hr hml hnt hts hown hlocks hK hZ hA hG hl
  obtain ⟨S0, hS0⟩ : ∃ z : GS, z = S := ⟨_, rfl⟩
  rw [← hS0] at hAe
  rw [← hS0]
  have hin0 : ∀ w ∈ wsX00, w ∈ wsX8_count := by decide +kernel
  have hin3 : ∀ w ∈ wsX30, w ∈ wsX8_count := by decide +kernel
  have hin5 : ∀ w ∈ wsX50, w ∈ wsX8_count := by decide +kernel
  have hin6 : ∀ w ∈ wsX60, w ∈ wsX8_count := by decide +kernel
  have hin8 : ∀ w ∈ wsX80, w ∈ wsX8_count := by decide +kernel
  have lk_110 := hts (.fieldLink RX8 110 "PauseLog" "lines" "I") (by decide +kernel)
  have lk_29 := hts (.fieldLink RX8 29 "PauseLog" "events" "LPauseLog$Events;") (by decide +kernel)
  have lk_221 := hts (.fieldLink RX8 221 "PauseLog$Events" "size" "I") (by decide +kernel)
  have lk_36 := hts (.fieldLink RX8 36 "PauseLog" "diagnostics" "LPauseLog$Diagnostics;") (by decide +kernel)
  have lk_238 := hts (.fieldLink RX8 238 "PauseLog$Diagnostics" "made" "I") (by decide +kernel)
  have lk_241 := hts (.fieldLink RX8 241 "PauseLog" "linesOfEvents" "I") (by decide +kernel)
  have lk_244 := hts (.fieldLink RX8 244 "PauseLog$Diagnostics" "lines" "I") (by decide +kernel)
  have lk_140 := hts (.fieldLink RX8 140 "PauseLog" "openPause" "LPauseLog$Event;") (by decide +kernel)
  have lk_148 := hts (.fieldLink RX8 148 "PauseLog" "openMark" "LPauseLog$Event;") (by decide +kernel)
  have lk_10 := hts (.fieldLink RX8 10 "PauseLog" "pad" "LPauseLog$Text;") (by decide +kernel)
  have lk_107 := hts (.fieldLink RX8 107 "PauseLog$Text" "length" "I") (by decide +kernel)
  have lk_43 := hts (.fieldLink RX8 43 "PauseLog" "times" "LPauseLog$Times;") (by decide +kernel)
  have lk_50 := hts (.fieldLink RX8 50 "PauseLog" "sums" "LPauseLog$Sums;") (by decide +kernel)
  have lk_215 := hts (.fieldLink RX8 215 "PauseLog$Sums" "pauses" "I") (by decide +kernel)
  have hgw_B : ∀ w ∈ (vx_atS RX8 163 "java/lang/IndexOutOfBoundsException" ["java/lang/RuntimeException", "java/lang/Exception"]).filter goodWord, w ∈ wsX8_count := by decide +kernel
  have hl : lv_has ls 2 [(0, .ref (ad k0)), (1, .int x1)] := hl
  have hsh : gSh S S0 := by rw [hS0]; exact gSh.rf S
  obtain ⟨H, eH⟩ : ∃ z : Heap, z = s.heap := ⟨_, rfl⟩
  obtain ⟨locs, eL⟩ : ∃ z : List Loc, z = [] := ⟨_, rfl⟩
  have hG : gS D Y ad A s.heap S H locs := by rw [eH, eL]; exact hG
  suffices hgoal : W p l e (rmX 6) s m args below meth c H locs 0 0 (vx_MQ below (gE D Y za ad S0 s.heap.size (fun r S9 => ∃ x, r = some (vI x) ∧ Q x S9)) (gXc D Y ad S0 s.heap.size X) args s 1 6 A) (F0 m 0 ls []) by rw [eH, eL] at hgoal; exact hgoal
  unfold wX8_count at h
  refine lv_iload_n hx hb dX8_count_0 rfl (lv_at hl 1 rfl) ?_
  by_cases q_1_0 : x1 = 0
  · have h := h.1 q_1_0
    refine lv_tableIn (tgt := 60) hx hb dX8_count_1 (by rw [q_1_0]; decide) (by rw [q_1_0]; decide) (by rw [q_1_0]; rfl) (by decide) ?_
    refine lv_aload_n hx hb dX8_count_60 rfl (lv_at hl 0 rfl) ?_
    obtain ⟨hk1, hq2, h⟩ := h
    refine g_get (ci := 8) (C := RX8) (T := TX8) (N := 12) hx hb hts hin8 hown hK hG hk1 (cell_8 hq2) rfl 10 (by decide) lk_110 (fun _ h9 => h9) (v := .int (gX S k0 10)) rfl dX8_count_61 ?_
    exact vx_ret (W.widen (k := 1) (n := 6) (Nat.zero_le _) (Nat.zero_le _) (W.iret (v := gX S k0 10) hx hb hr (fun t ht hW => r_end (r := some (vI (gX S k0 10))) hAe hG hsh ⟨_, rfl, h⟩ rfl ht) hG.2.2.2.2 dX8_count_64))
  by_cases q_1_1 : x1 = 1
  · have h := h.2.1 q_1_1
    refine lv_tableIn (tgt := 65) hx hb dX8_count_1 (by rw [q_1_1]; decide) (by rw [q_1_1]; decide) (by rw [q_1_1]; rfl) (by decide) ?_
    refine lv_aload_n hx hb dX8_count_65 rfl (lv_at hl 0 rfl) ?_
    obtain ⟨hk3, hq4, h⟩ := h
    refine g_get (ci := 8) (C := RX8) (T := TX8) (N := 12) hx hb hts hin8 hown hK hG hk3 (cell_8 hq4) rfl 3 (by decide) lk_29 (fun _ h9 => h9) (v := rv ad (gR S k0 3)) rfl dX8_count_66 ?_
    obtain ⟨q5, e6, h⟩ := h
    refine W.eq (g2 := F0 m 69 ls [.ref (ad q5)]) (by rw [e6]; rfl) ?_
    obtain ⟨hk7, hq8, h⟩ := h
    refine g_get (ci := 3) (C := RX3) (T := TX3) (N := 2) hx hb hts hin3 hown hK hG hk7 (cell_3 hq8) rfl 1 (by decide) lk_221 (fun _ h9 => h9) (v := .int (gX S q5 1)) rfl dX8_count_69 ?_
    exact vx_ret (W.widen (k := 1) (n := 6) (Nat.zero_le _) (Nat.zero_le _) (W.iret (v := gX S q5 1) hx hb hr (fun t ht hW => r_end (r := some (vI (gX S q5 1))) hAe hG hsh ⟨_, rfl, h⟩ rfl ht) hG.2.2.2.2 dX8_count_72))
  by_cases q_1_2 : x1 = 2
  · have h := h.2.2.1 q_1_2
    refine lv_tableIn (tgt := 73) hx hb dX8_count_1 (by rw [q_1_2]; decide) (by rw [q_1_2]; decide) (by rw [q_1_2]; rfl) (by decide) ?_
    refine lv_aload_n hx hb dX8_count_73 rfl (lv_at hl 0 rfl) ?_
    obtain ⟨hk9, hq10, h⟩ := h
    refine g_get (ci := 8) (C := RX8) (T := TX8) (N := 12) hx hb hts hin8 hown hK hG hk9 (cell_8 hq10) rfl 4 (by decide) lk_36 (fun _ h9 => h9) (v := rv ad (gR S k0 4)) rfl dX8_count_74 ?_
    obtain ⟨q11, e12, h⟩ := h
    refine W.eq (g2 := F0 m 77 ls [.ref (ad q11)]) (by rw [e12]; rfl) ?_
    obtain ⟨hk13, hq14, h⟩ := h
    refine g_get (ci := 0) (C := RX0) (T := TX0) (N := 5) hx hb hts hin0 hown hK hG hk13 (cell_0 hq14) rfl 3 (by decide) lk_238 (fun _ h9 => h9) (v := .int (gX S q11 3)) rfl dX8_count_77 ?_
    exact vx_ret (W.widen (k := 1) (n := 6) (Nat.zero_le _) (Nat.zero_le _) (W.iret (v := gX S q11 3) hx hb hr (fun t ht hW => r_end (r := some (vI (gX S q11 3))) hAe hG hsh ⟨_, rfl, h⟩ rfl ht) hG.2.2.2.2 dX8_count_80))
  by_cases q_1_3 : x1 = 3
  · have h := h.2.2.2.1 q_1_3
    refine lv_tableIn (tgt := 81) hx hb dX8_count_1 (by rw [q_1_3]; decide) (by rw [q_1_3]; decide) (by rw [q_1_3]; rfl) (by decide) ?_
    refine lv_aload_n hx hb dX8_count_81 rfl (lv_at hl 0 rfl) ?_
    obtain ⟨hk15, hq16, h⟩ := h
    refine g_get (ci := 8) (C := RX8) (T := TX8) (N := 12) hx hb hts hin8 hown hK hG hk15 (cell_8 hq16) rfl 11 (by decide) lk_241 (fun _ h9 => h9) (v := .int (gX S k0 11)) rfl dX8_count_82 ?_
    exact vx_ret (W.widen (k := 1) (n := 6) (Nat.zero_le _) (Nat.zero_le _) (W.iret (v := gX S k0 11) hx hb hr (fun t ht hW => r_end (r := some (vI (gX S k0 11))) hAe hG hsh ⟨_, rfl, h⟩ rfl ht) hG.2.2.2.2 dX8_count_85))
  by_cases q_1_4 : x1 = 4
  · have h := h.2.2.2.2.1 q_1_4
    refine lv_tableIn (tgt := 86) hx hb dX8_count_1 (by rw [q_1_4]; decide) (by rw [q_1_4]; decide) (by rw [q_1_4]; rfl) (by decide) ?_
    refine lv_aload_n hx hb dX8_count_86 rfl (lv_at hl 0 rfl) ?_
    obtain ⟨hk17, hq18, h⟩ := h
    refine g_get (ci := 8) (C := RX8) (T := TX8) (N := 12) hx hb hts hin8 hown hK hG hk17 (cell_8 hq18) rfl 4 (by decide) lk_36 (fun _ h9 => h9) (v := rv ad (gR S k0 4)) rfl dX8_count_87 ?_
    obtain ⟨q19, e20, h⟩ := h
    refine W.eq (g2 := F0 m 90 ls [.ref (ad q19)]) (by rw [e20]; rfl) ?_
    obtain ⟨hk21, hq22, h⟩ := h
    refine g_get (ci := 0) (C := RX0) (T := TX0) (N := 5) hx hb hts hin0 hown hK hG hk21 (cell_0 hq22) rfl 4 (by decide) lk_244 (fun _ h9 => h9) (v := .int (gX S q19 4)) rfl dX8_count_90 ?_
    exact vx_ret (W.widen (k := 1) (n := 6) (Nat.zero_le _) (Nat.zero_le _) (W.iret (v := gX S q19 4) hx hb hr (fun t ht hW => r_end (r := some (vI (gX S q19 4))) hAe hG hsh ⟨_, rfl, h⟩ rfl ht) hG.2.2.2.2 dX8_count_93))
  by_cases q_1_5 : x1 = 5
  · have h := h.2.2.2.2.2.1 q_1_5
    refine lv_tableIn (tgt := 94) hx hb dX8_count_1 (by rw [q_1_5]; decide) (by rw [q_1_5]; decide) (by rw [q_1_5]; rfl) (by decide) ?_
    refine lv_aload_n hx hb dX8_count_94 rfl (lv_at hl 0 rfl) ?_
    obtain ⟨hk23, hq24, h⟩ := h
    refine g_get (ci := 8) (C := RX8) (T := TX8) (N := 12) hx hb hts hin8 hown hK hG hk23 (cell_8 hq24) rfl 7 (by decide) lk_140 (fun _ h9 => h9) (v := rv ad (gR S k0 7)) rfl dX8_count_95 ?_
    refine r_callS (za := za) (As := [vR (gR S k0 7)]) (rest := []) (tX8_linesOf l S (gR S k0 7) _ h) ⟨hx, hb, hml, hown, hts⟩ (cwS 1 hts gX8_count_X8_linesOf rfl rfl rfl (by decide +kernel) ⟨by decide, by decide⟩) hK hG hA rfl hl.1 rfl (Nat.le_of_ble_eq_true rfl) ⟨Nat.zero_le _, Nat.zero_le _⟩ dX8_count_98 (fun r_9 S25 H locs hp hs_S25 hG => ?_)
    obtain ⟨u26, rfl, h⟩ := hp
    have h := h hs_S25
    refine W.eq (g2 := F0 m 101 ls [.int u26]) rfl ?_
    have hsh := hs_S25.tr hsh
    have hk27 := hs_S25.lt hk23
    have hq28 := hs_S25.kd hq24
    refine lv_aload_n hx hb dX8_count_101 rfl (lv_at hl 0 rfl) ?_
    refine g_get (ci := 8) (C := RX8) (T := TX8) (N := 12) hx hb hts hin8 hown hK hG hk27 (cell_8 hq28) rfl 8 (by decide) lk_148 (fun _ h9 => h9) (v := rv ad (gR S25 k0 8)) rfl dX8_count_102 ?_
    refine r_callS (za := za) (As := [vR (gR S25 k0 8)]) (rest := [.int u26]) (tX8_linesOf l S25 (gR S25 k0 8) _ h) ⟨hx, hb, hml, hown, hts⟩ (cwS 1 hts gX8_count_X8_linesOf rfl rfl rfl (by decide +kernel) ⟨by decide, by decide⟩) hK hG hA rfl hl.1 rfl (Nat.le_of_ble_eq_true rfl) ⟨Nat.zero_le _, Nat.zero_le _⟩ dX8_count_105 (fun r_9 S29 H locs hp hs_S29 hG => ?_)
    obtain ⟨u30, rfl, h⟩ := hp
    have h := h hs_S29
    refine W.eq (g2 := F0 m 108 ls [.int u30, .int u26]) rfl ?_
    have hsh := hs_S29.tr hsh
    have hk31 := hs_S29.lt hk27
    have hq32 := hs_S29.kd hq28
    refine lv_iadd hx hb dX8_count_108 ?_
    exact vx_ret (W.widen (k := 1) (n := 6) (Nat.zero_le _) (Nat.zero_le _) (W.iret (v := u26 + u30) hx hb hr (fun t ht hW => r_end (r := some (vI (u26 + u30))) hAe hG hsh ⟨_, rfl, h⟩ rfl ht) hG.2.2.2.2 dX8_count_109))
  by_cases q_1_6 : x1 = 6
  · have h := h.2.2.2.2.2.2.1 q_1_6
    refine lv_tableIn (tgt := 110) hx hb dX8_count_1 (by rw [q_1_6]; decide) (by rw [q_1_6]; decide) (by rw [q_1_6]; rfl) (by decide) ?_
    refine lv_aload_n hx hb dX8_count_110 rfl (lv_at hl 0 rfl) ?_
    obtain ⟨hk33, hq34, h⟩ := h
    refine g_get (ci := 8) (C := RX8) (T := TX8) (N := 12) hx hb hts hin8 hown hK hG hk33 (cell_8 hq34) rfl 0 (by decide) lk_10 (fun _ h9 => h9) (v := rv ad (gR S k0 0)) rfl dX8_count_111 ?_
    obtain ⟨q35, e36, h⟩ := h
    refine W.eq (g2 := F0 m 114 ls [.ref (ad q35)]) (by rw [e36]; rfl) ?_
    obtain ⟨hk37, hq38, h⟩ := h
    refine g_get (ci := 6) (C := RX6) (T := TX6) (N := 2) hx hb hts hin6 hown hK hG hk37 (cell_6 hq38) rfl 1 (by decide) lk_107 (fun _ h9 => h9) (v := .int (gX S q35 1)) rfl dX8_count_114 ?_
    exact vx_ret (W.widen (k := 1) (n := 6) (Nat.zero_le _) (Nat.zero_le _) (W.iret (v := gX S q35 1) hx hb hr (fun t ht hW => r_end (r := some (vI (gX S q35 1))) hAe hG hsh ⟨_, rfl, h⟩ rfl ht) hG.2.2.2.2 dX8_count_117))
  by_cases q_1_7 : x1 = 7
  · have h := h.2.2.2.2.2.2.2.1 q_1_7
    refine lv_tableIn (tgt := 118) hx hb dX8_count_1 (by rw [q_1_7]; decide) (by rw [q_1_7]; decide) (by rw [q_1_7]; rfl) (by decide) ?_
    refine lv_aload_n hx hb dX8_count_118 rfl (lv_at hl 0 rfl) ?_
    obtain ⟨hk39, hq40, h⟩ := h
    refine g_get (ci := 8) (C := RX8) (T := TX8) (N := 12) hx hb hts hin8 hown hK hG hk39 (cell_8 hq40) rfl 5 (by decide) lk_43 (fun _ h9 => h9) (v := rv ad (gR S k0 5)) rfl dX8_count_119 ?_
    obtain ⟨q41, e42, h⟩ := h
    refine W.eq (g2 := F0 m 122 ls [.ref (ad q41)]) (by rw [e42]; rfl) ?_
    obtain ⟨hk43, hq44, h⟩ := h
    refine r_callV (za := za) (k := q41) (ci := 7) (C := RX7) (T := TX7) (N := 3) (As := []) (rest := []) (tX7_span l S q41  _ h) ⟨hx, hb, hml, hown, hts⟩ (cwV 0 hts gX8_count_X7_span rfl rfl rfl (by decide +kernel) ⟨by decide, by decide⟩) hK hG hA hk43 (cell_7 hq44) rfl rfl hl.1 rfl (Nat.le_of_ble_eq_true rfl) ⟨Nat.zero_le _, Nat.zero_le _⟩ dX8_count_122 (fun r_9 S45 H locs hp hs_S45 hG => ?_)
    obtain ⟨u46, rfl, h⟩ := hp
    have h := h hs_S45
    refine W.eq (g2 := F0 m 125 ls [.long u46]) rfl ?_
    have hsh := hs_S45.tr hsh
    have hk47 := hs_S45.lt hk39
    have hq48 := hs_S45.kd hq40
    have hk49 := hs_S45.lt hk43
    have hq50 := hs_S45.kd hq44
    refine lv_l2i hx hb dX8_count_125 rfl ?_
    exact vx_ret (W.widen (k := 1) (n := 6) (Nat.zero_le _) (Nat.zero_le _) (W.iret (v := Int64.toInt32 u46) hx hb hr (fun t ht hW => r_end (r := some (vI (Int64.toInt32 u46))) hAe hG hsh ⟨_, rfl, h⟩ rfl ht) hG.2.2.2.2 dX8_count_126))
  by_cases q_1_8 : x1 = 8
  · have h := h.2.2.2.2.2.2.2.2.1 q_1_8
    refine lv_tableIn (tgt := 127) hx hb dX8_count_1 (by rw [q_1_8]; decide) (by rw [q_1_8]; decide) (by rw [q_1_8]; rfl) (by decide) ?_
    refine lv_aload_n hx hb dX8_count_127 rfl (lv_at hl 0 rfl) ?_
    obtain ⟨hk51, hq52, h⟩ := h
    refine g_get (ci := 8) (C := RX8) (T := TX8) (N := 12) hx hb hts hin8 hown hK hG hk51 (cell_8 hq52) rfl 6 (by decide) lk_50 (fun _ h9 => h9) (v := rv ad (gR S k0 6)) rfl dX8_count_128 ?_
    obtain ⟨q53, e54, h⟩ := h
    refine W.eq (g2 := F0 m 131 ls [.ref (ad q53)]) (by rw [e54]; rfl) ?_
    obtain ⟨hk55, hq56, h⟩ := h
    refine g_get (ci := 5) (C := RX5) (T := TX5) (N := 6) hx hb hts hin5 hown hK hG hk55 (cell_5 hq56) rfl 1 (by decide) lk_215 (fun _ h9 => h9) (v := .int (gX S q53 1)) rfl dX8_count_131 ?_
    exact vx_ret (W.widen (k := 1) (n := 6) (Nat.zero_le _) (Nat.zero_le _) (W.iret (v := gX S q53 1) hx hb hr (fun t ht hW => r_end (r := some (vI (gX S q53 1))) hAe hG hsh ⟨_, rfl, h⟩ rfl ht) hG.2.2.2.2 dX8_count_134))
  by_cases q_1_9 : x1 = 9
  · have h := h.2.2.2.2.2.2.2.2.2.1 q_1_9
    refine lv_tableIn (tgt := 135) hx hb dX8_count_1 (by rw [q_1_9]; decide) (by rw [q_1_9]; decide) (by rw [q_1_9]; rfl) (by decide) ?_
    refine lv_aload_n hx hb dX8_count_135 rfl (lv_at hl 0 rfl) ?_
    obtain ⟨hk57, hq58, h⟩ := h
    refine g_get (ci := 8) (C := RX8) (T := TX8) (N := 12) hx hb hts hin8 hown hK hG hk57 (cell_8 hq58) rfl 7 (by decide) lk_140 (fun _ h9 => h9) (v := rv ad (gR S k0 7)) rfl dX8_count_136 ?_
    refine r_callS (za := za) (As := [vR (gR S k0 7)]) (rest := []) (tX8_idOf l S (gR S k0 7) _ h) ⟨hx, hb, hml, hown, hts⟩ (cwS 1 hts gX8_count_X8_idOf rfl rfl rfl (by decide +kernel) ⟨by decide, by decide⟩) hK hG hA rfl hl.1 rfl (Nat.le_of_ble_eq_true rfl) ⟨Nat.zero_le _, Nat.zero_le _⟩ dX8_count_139 (fun r_9 S59 H locs hp hs_S59 hG => ?_)
    obtain ⟨u60, rfl, h⟩ := hp
    have h := h hs_S59
    refine W.eq (g2 := F0 m 142 ls [.int u60]) rfl ?_
    have hsh := hs_S59.tr hsh
    have hk61 := hs_S59.lt hk57
    have hq62 := hs_S59.kd hq58
    exact vx_ret (W.widen (k := 1) (n := 6) (Nat.zero_le _) (Nat.zero_le _) (W.iret (v := u60) hx hb hr (fun t ht hW => r_end (r := some (vI u60)) hAe hG hsh ⟨_, rfl, h⟩ rfl ht) hG.2.2.2.2 dX8_count_142))
  by_cases q_1_10 : x1 = 10
  · have h := h.2.2.2.2.2.2.2.2.2.2.1 q_1_10
    refine lv_tableIn (tgt := 143) hx hb dX8_count_1 (by rw [q_1_10]; decide) (by rw [q_1_10]; decide) (by rw [q_1_10]; rfl) (by decide) ?_
    refine lv_aload_n hx hb dX8_count_143 rfl (lv_at hl 0 rfl) ?_
    obtain ⟨hk63, hq64, h⟩ := h
    refine g_get (ci := 8) (C := RX8) (T := TX8) (N := 12) hx hb hts hin8 hown hK hG hk63 (cell_8 hq64) rfl 8 (by decide) lk_148 (fun _ h9 => h9) (v := rv ad (gR S k0 8)) rfl dX8_count_144 ?_
    refine r_callS (za := za) (As := [vR (gR S k0 8)]) (rest := []) (tX8_idOf l S (gR S k0 8) _ h) ⟨hx, hb, hml, hown, hts⟩ (cwS 1 hts gX8_count_X8_idOf rfl rfl rfl (by decide +kernel) ⟨by decide, by decide⟩) hK hG hA rfl hl.1 rfl (Nat.le_of_ble_eq_true rfl) ⟨Nat.zero_le _, Nat.zero_le _⟩ dX8_count_147 (fun r_9 S65 H locs hp hs_S65 hG => ?_)
    obtain ⟨u66, rfl, h⟩ := hp
    have h := h hs_S65
    refine W.eq (g2 := F0 m 150 ls [.int u66]) rfl ?_
    have hsh := hs_S65.tr hsh
    have hk67 := hs_S65.lt hk63
    have hq68 := hs_S65.kd hq64
    exact vx_ret (W.widen (k := 1) (n := 6) (Nat.zero_le _) (Nat.zero_le _) (W.iret (v := u66) hx hb hr (fun t ht hW => r_end (r := some (vI u66)) hAe hG hsh ⟨_, rfl, h⟩ rfl ht) hG.2.2.2.2 dX8_count_150))
  have h := h.2.2.2.2.2.2.2.2.2.2.2 q_1_0 q_1_1 q_1_2 q_1_3 q_1_4 q_1_5 q_1_6 q_1_7 q_1_8 q_1_9 q_1_10
  refine lv_tableOut (tgt := 151) hx hb dX8_count_1 (tab0 (N := 10) (fun k hk => match k, hk with | 0, _ => q_1_0 | 1, _ => q_1_1 | 2, _ => q_1_2 | 3, _ => q_1_3 | 4, _ => q_1_4 | 5, _ => q_1_5 | 6, _ => q_1_6 | 7, _ => q_1_7 | 8, _ => q_1_8 | 9, _ => q_1_9 | 10, _ => q_1_10 | k + 11, hk => absurd hk (by omega)) (by decide)) (by decide) ?_
  exact vx_throwS (names := ["java/lang/RuntimeException", "java/lang/Exception"]) hx hb hst hown (by decide) (by decide) (hts (.classLink RX8 159 "java/lang/IndexOutOfBoundsException") (by decide +kernel)) (hts (.initialized "java/lang/IndexOutOfBoundsException") (by decide +kernel)) (hZ.2.2.2.1 13 (by decide)) (vx_hat (fun w hw => hts w (hgw_B w hw)) zbad_B (fun w hw => va_Nw.use (zBad_ot w hw) (hZ.2.2.2.2.2.2.2.1 w hw))) zgood_B hZ.2.2.2.2.2.1 hZ.2.2.2.2.2.2.1 hG.2.2 (hl.1.trans hml.symm) dX8_count_151 dX8_count_154 dX8_count_155 dX8_count_157 dX8_count_160 (fun x hx => (hnt x hx).elim) (by decide) (Nat.le_of_ble_eq_true rfl) (Nat.le_refl _) (Nat.le_refl _) hlocks (fun t hvm hsz hkp => gXc_of hAe hG hsh h hsz hkp) hG.2.2.2.2 (Nat.le_refl _) (Nat.le_refl _)
