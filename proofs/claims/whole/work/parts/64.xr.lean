def wX4_isAtEnd_19 (Q : Int32 → GS → Prop) (k0 : Nat) (t0 : Int32) (S : GS) : Prop :=
  (t0 = 0 ∨ t0 = 1) ∧ Q t0 S
def wX4_isAtEnd (S : GS) (k0 : Nat) (Q : Int32 → GS → Prop) : Prop :=
  k0 < gN S ∧ gK S k0 = 4 ∧ ∃ q4 : Nat, gR S k0 0 = some q4 ∧ q4 < gN S ∧ gK S q4 = 6 ∧ (¬ (gX S k0 2) = (gX S q4 1) → wX4_isAtEnd_19 Q k0 0 S) ∧ ((gX S k0 2) = (gX S q4 1) → wX4_isAtEnd_19 Q k0 1 S)
set_option maxHeartbeats 4000000 in
set_option maxRecDepth 100000 in
theorem tX4_isAtEnd (l : Launch) (S : GS) (k0 : Nat) (Q : Int32 → GS → Prop) (h : wX4_isAtEnd S k0 Q) : CS l yX4_isAtEnd wsX4_isAtEnd 0 S [vR (some k0)] (fun r S9 => ∃ x, r = some (vI x) ∧ Q x S9) := by
  refine CS.ofW (cc := cX4_isAtEnd) (maxL := 1) (ret := (some .boolean)) RX4 (by decide) rfl rfl (fun _ _ => Nat.le_of_ble_eq_true rfl) ?_
  intro p e s m args below meth c D Y za ad A ls hAe hx hb hr hml hts hown hlocks hK hA hG hl
  obtain ⟨S0, hS0⟩ : ∃ z : GS, z = S := ⟨_, rfl⟩
  rw [← hS0] at hAe
  rw [← hS0]
  have hin4 : ∀ w ∈ wsX40, w ∈ wsX4_isAtEnd := by decide +kernel
  have hin6 : ∀ w ∈ wsX60, w ∈ wsX4_isAtEnd := by decide +kernel
  have lk_41 := hts (.fieldLink RX4 41 "PauseLog$Reader" "at" "I") (by decide +kernel)
  have lk_9 := hts (.fieldLink RX4 9 "PauseLog$Reader" "text" "LPauseLog$Text;") (by decide +kernel)
  have lk_148 := hts (.fieldLink RX4 148 "PauseLog$Text" "length" "I") (by decide +kernel)
  have b_19 : ∀  (t0 : Int32) (S : GS) (H : Heap) (locs : List Loc) (ls : Array Slot), wX4_isAtEnd_19 Q k0 t0 S → gSh S S0 → gS D Y ad A s.heap S H locs → lv_has ls 1 [] → W p l e (rmD 0) s m args below meth c H locs 0 0 (MQ below (gE D Y za ad S0 s.heap.size (fun r S9 => ∃ x, r = some (vI x) ∧ Q x S9)) args s 0 0 A) (F0 m 19 ls [.int t0]) := by
    intro  t0 S H locs ls h hsh hG hl
    unfold wX4_isAtEnd_19 at h
    obtain ⟨hz1, h⟩ := h
    exact W.zret (v := t0) hx hb hr (nar01 hz1) (fun t ht hW => r_end (r := some (vI t0)) hAe hG hsh ⟨_, rfl, h⟩ rfl ht) hG.2.2.2.2 dX4_isAtEnd_19
  have hl : lv_has ls 1 [(0, .ref (ad k0))] := hl
  have hsh : gSh S S0 := by rw [hS0]; exact gSh.rf S
  obtain ⟨H, eH⟩ : ∃ z : Heap, z = s.heap := ⟨_, rfl⟩
  obtain ⟨locs, eL⟩ : ∃ z : List Loc, z = [] := ⟨_, rfl⟩
  have hG : gS D Y ad A s.heap S H locs := by rw [eH, eL]; exact hG
  suffices hgoal : W p l e (rmD 0) s m args below meth c H locs 0 0 (MQ below (gE D Y za ad S0 s.heap.size (fun r S9 => ∃ x, r = some (vI x) ∧ Q x S9)) args s 0 0 A) (F0 m 0 ls []) by rw [eH, eL] at hgoal; exact hgoal
  unfold wX4_isAtEnd at h
  refine lv_aload_n hx hb dX4_isAtEnd_0 rfl (lv_at hl 0 rfl) ?_
  obtain ⟨hk2, hq3, h⟩ := h
  refine g_get (ci := 4) (C := RX4) (T := TX4) (N := 3) hx hb hts hin4 hown hK hG hk2 (cell_4 hq3) rfl 2 (by decide) lk_41 (fun _ h9 => h9) (v := .int (gX S k0 2)) rfl dX4_isAtEnd_1 ?_
  refine lv_aload_n hx hb dX4_isAtEnd_4 rfl (lv_at hl 0 rfl) ?_
  refine g_get (ci := 4) (C := RX4) (T := TX4) (N := 3) hx hb hts hin4 hown hK hG hk2 (cell_4 hq3) rfl 0 (by decide) lk_9 (fun _ h9 => h9) (v := rv ad (gR S k0 0)) rfl dX4_isAtEnd_5 ?_
  obtain ⟨q4, e5, h⟩ := h
  refine W.eq (g2 := F0 m 8 ls [.ref (ad q4), .int (gX S k0 2)]) (by rw [e5]; rfl) ?_
  obtain ⟨hk6, hq7, h⟩ := h
  refine g_get (ci := 6) (C := RX6) (T := TX6) (N := 2) hx hb hts hin6 hown hK hG hk6 (cell_6 hq7) rfl 1 (by decide) lk_148 (fun _ h9 => h9) (v := .int (gX S q4 1)) rfl dX4_isAtEnd_8 ?_
  refine lv_icmp_ne (tgt := 18) hx hb dX4_isAtEnd_11 (by decide) (fun c_11 => ?_) (fun c_11 => ?_)
  · have h := h.1 c_11
    refine lv_iconst (v := 0) hx hb dX4_isAtEnd_18 (by decide) ?_
    exact b_19 0 S H locs ls h hsh hG (lv_sub hl [] rfl)
  · have h := h.2 c_11
    refine lv_iconst (v := 1) hx hb dX4_isAtEnd_14 (by decide) ?_
    refine lv_goto (tgt := 19) hx hb dX4_isAtEnd_15 (by decide) ?_
    exact b_19 1 S H locs ls h hsh hG (lv_sub hl [] rfl)
def wX4_hasReadAll_19 (Q : Int32 → GS → Prop) (k0 : Nat) (t0 : Int32) (S : GS) : Prop :=
  (t0 = 0 ∨ t0 = 1) ∧ Q t0 S
def wX4_hasReadAll_18 (Q : Int32 → GS → Prop) (k0 : Nat)  (S : GS) : Prop :=
  wX4_hasReadAll_19 Q k0 0 S
def wX4_hasReadAll (S : GS) (k0 : Nat) (Q : Int32 → GS → Prop) : Prop :=
  k0 < gN S ∧ gK S k0 = 4 ∧ (¬ (gX S k0 1) = 0 → wX4_hasReadAll_18 Q k0  S) ∧ ((gX S k0 1) = 0 → wX4_isAtEnd S k0  (fun u5 S4 => gSh S4 S → (u5 = 0 → wX4_hasReadAll_18 Q k0  S4) ∧ (¬ u5 = 0 → wX4_hasReadAll_19 Q k0 1 S4)))
set_option maxHeartbeats 4000000 in
set_option maxRecDepth 100000 in
theorem tX4_hasReadAll (l : Launch) (S : GS) (k0 : Nat) (Q : Int32 → GS → Prop) (h : wX4_hasReadAll S k0 Q) : CS l yX4_hasReadAll wsX4_hasReadAll 1 S [vR (some k0)] (fun r S9 => ∃ x, r = some (vI x) ∧ Q x S9) := by
  refine CS.ofW (cc := cX4_hasReadAll) (maxL := 1) (ret := (some .boolean)) RX4 (by decide) rfl rfl (fun _ _ => Nat.le_of_ble_eq_true rfl) ?_
  intro p e s m args below meth c D Y za ad A ls hAe hx hb hr hml hts hown hlocks hK hA hG hl
  obtain ⟨S0, hS0⟩ : ∃ z : GS, z = S := ⟨_, rfl⟩
  rw [← hS0] at hAe
  rw [← hS0]
  have hin4 : ∀ w ∈ wsX40, w ∈ wsX4_hasReadAll := by decide +kernel
  have lk_129 := hts (.fieldLink RX4 129 "PauseLog$Reader" "broken" "Z") (by decide +kernel)
  have b_19 : ∀  (t0 : Int32) (S : GS) (H : Heap) (locs : List Loc) (ls : Array Slot), wX4_hasReadAll_19 Q k0 t0 S → gSh S S0 → gS D Y ad A s.heap S H locs → lv_has ls 1 [] → W p l e (rmD 1) s m args below meth c H locs 0 0 (MQ below (gE D Y za ad S0 s.heap.size (fun r S9 => ∃ x, r = some (vI x) ∧ Q x S9)) args s 0 0 A) (F0 m 19 ls [.int t0]) := by
    intro  t0 S H locs ls h hsh hG hl
    unfold wX4_hasReadAll_19 at h
    obtain ⟨hz1, h⟩ := h
    exact W.zret (v := t0) hx hb hr (nar01 hz1) (fun t ht hW => r_end (r := some (vI t0)) hAe hG hsh ⟨_, rfl, h⟩ rfl ht) hG.2.2.2.2 dX4_hasReadAll_19
  have b_18 : ∀   (S : GS) (H : Heap) (locs : List Loc) (ls : Array Slot), wX4_hasReadAll_18 Q k0  S → gSh S S0 → gS D Y ad A s.heap S H locs → lv_has ls 1 [] → W p l e (rmD 1) s m args below meth c H locs 0 0 (MQ below (gE D Y za ad S0 s.heap.size (fun r S9 => ∃ x, r = some (vI x) ∧ Q x S9)) args s 0 0 A) (F0 m 18 ls []) := by
    intro   S H locs ls h hsh hG hl
    unfold wX4_hasReadAll_18 at h
    refine lv_iconst (v := 0) hx hb dX4_hasReadAll_18 (by decide) ?_
    exact b_19 0 S H locs ls h hsh hG (lv_sub hl [] rfl)
  have hl : lv_has ls 1 [(0, .ref (ad k0))] := hl
  have hsh : gSh S S0 := by rw [hS0]; exact gSh.rf S
  obtain ⟨H, eH⟩ : ∃ z : Heap, z = s.heap := ⟨_, rfl⟩
  obtain ⟨locs, eL⟩ : ∃ z : List Loc, z = [] := ⟨_, rfl⟩
  have hG : gS D Y ad A s.heap S H locs := by rw [eH, eL]; exact hG
  suffices hgoal : W p l e (rmD 1) s m args below meth c H locs 0 0 (MQ below (gE D Y za ad S0 s.heap.size (fun r S9 => ∃ x, r = some (vI x) ∧ Q x S9)) args s 0 0 A) (F0 m 0 ls []) by rw [eH, eL] at hgoal; exact hgoal
  unfold wX4_hasReadAll at h
  refine lv_aload_n hx hb dX4_hasReadAll_0 rfl (lv_at hl 0 rfl) ?_
  obtain ⟨hk2, hq3, h⟩ := h
  refine g_get (ci := 4) (C := RX4) (T := TX4) (N := 3) hx hb hts hin4 hown hK hG hk2 (cell_4 hq3) rfl 1 (by decide) lk_129 (fun _ h9 => h9) (v := .int (gX S k0 1)) rfl dX4_hasReadAll_1 ?_
  refine lv_if_ne (tgt := 18) hx hb dX4_hasReadAll_4 (by decide) (fun c_4 => ?_) (fun c_4 => ?_)
  · have h := h.1 c_4
    exact b_18  S H locs ls h hsh hG (lv_sub hl [] rfl)
  · have h := h.2 c_4
    refine lv_aload_n hx hb dX4_hasReadAll_7 rfl (lv_at hl 0 rfl) ?_
    refine r_callV (za := za) (k := k0) (ci := 4) (C := RX4) (T := TX4) (N := 3) (As := []) (rest := []) (tX4_isAtEnd l S k0  _ h) ⟨hx, hb, hml, hown, hts⟩ (cwV 0 hts gX4_hasReadAll_X4_isAtEnd rfl rfl rfl (by decide +kernel) ⟨by decide, by decide⟩) hK hG hA hk2 (cell_4 hq3) rfl rfl hl.1 rfl (Nat.le_of_ble_eq_true rfl) ⟨Nat.zero_le _, Nat.zero_le _⟩ dX4_hasReadAll_8 (fun r_9 S4 H locs hp hs_S4 hG => ?_)
    obtain ⟨u5, rfl, h⟩ := hp
    have h := h hs_S4
    refine W.eq (g2 := F0 m 11 ls [.int u5]) rfl ?_
    have hsh := hs_S4.tr hsh
    have hk6 := hs_S4.lt hk2
    have hq7 := hs_S4.kd hq3
    refine lv_if_eq (tgt := 18) hx hb dX4_hasReadAll_11 (by decide) (fun c_11 => ?_) (fun c_11 => ?_)
    · have h := h.1 c_11
      exact b_18  S4 H locs ls h hsh hG (lv_sub hl [] rfl)
    · have h := h.2 c_11
      refine lv_iconst (v := 1) hx hb dX4_hasReadAll_14 (by decide) ?_
      refine lv_goto (tgt := 19) hx hb dX4_hasReadAll_15 (by decide) ?_
      exact b_19 1 S4 H locs ls h hsh hG (lv_sub hl [] rfl)
def wX4_number_99 (Q : Int32 → GS → Prop) (k0 : Nat) (x2 : Int32) (t0 : Nat) (t1 : Int32) (S : GS) : Prop :=
  t0 < gN S ∧ gK S t0 = 4 ∧ (t1 = 0 ∨ t1 = 1) ∧ ∀ S4 : GS, S4 = sX S t0 1 t1 → Q x2 S4
def wX4_number_94 (Q : Int32 → GS → Prop) (k0 : Nat) (x2 : Int32) (t0 : Nat) (S : GS) : Prop :=
  wX4_number_99 Q k0 x2 t0 1 S
def wX4_number_81 (Q : Int32 → GS → Prop) (k0 : Nat) (x2 : Int32) (S : GS) : Prop :=
  k0 < gN S ∧ gK S k0 = 4 ∧ (¬ (gX S k0 1) = 0 → wX4_number_94 Q k0 x2 k0 S) ∧ ((gX S k0 1) = 0 → (¬ x2 = (-1) → wX4_number_99 Q k0 x2 k0 0 S) ∧ (x2 = (-1) → wX4_number_94 Q k0 x2 k0 S))
def wX4_number_4 (Q : Int32 → GS → Prop) (k0 : Nat) : Nat → Int32 → Int32 → Int32 → GS → Prop
  | 0, _, _, _, _ => False
  | f9 + 1, x1, x2, x3, S =>
  (x1 ≤ x3 → wX4_number_81 Q k0 x2 S) ∧ (¬ x1 ≤ x3 → (x2 = 0 → wX4_number_81 Q k0 x2 S) ∧ (¬ x2 = 0 → k0 < gN S ∧ gK S k0 = 4 ∧ (¬ (gX S k0 1) = 0 → wX4_number_81 Q k0 x2 S) ∧ ((gX S k0 1) = 0 → ∃ q11 : Nat, gR S k0 0 = some q11 ∧ q11 < gN S ∧ gK S q11 = 6 ∧ wX6_get S q11 (gX S k0 2) (fun u16 S15 => gSh S15 S → (u16 < 48 → wX4_number_81 Q k0 x2 S15) ∧ (¬ u16 < 48 → (u16 ≤ 57 → ∀ S21 : GS, S21 = sX S15 k0 2 ((gX S15 k0 2) + 1) → (wX4_number_4 Q k0 f9) x1 ((((if x2 < 0 then 0 else x2) * 10) + u16) - 48) (x3 + 1) S21) ∧ (¬ u16 ≤ 57 → wX4_number_81 Q k0 x2 S15))))))
def wX4_number (S : GS) (k0 : Nat) (x1 : Int32) (Q : Int32 → GS → Prop) : Prop :=
  ∃ f26 : Nat, wX4_number_4 Q k0 f26 x1 (-1) 0 S
set_option maxHeartbeats 4000000 in
set_option maxRecDepth 100000 in
theorem tX4_number (l : Launch) (S : GS) (k0 : Nat) (x1 : Int32) (Q : Int32 → GS → Prop) (h : wX4_number S k0 x1 Q) : CS l yX4_number wsX4_number 1 S [vR (some k0), vI x1] (fun r S9 => ∃ x, r = some (vI x) ∧ Q x S9) := by
  refine CS.ofW (cc := cX4_number) (maxL := 5) (ret := (some .int)) RX4 (by decide) rfl rfl (fun _ _ => Nat.le_of_ble_eq_true rfl) ?_
  intro p e s m args below meth c D Y za ad A ls hAe hx hb hr hml hts hown hlocks hK hA hG hl
  obtain ⟨S0, hS0⟩ : ∃ z : GS, z = S := ⟨_, rfl⟩
  rw [← hS0] at hAe
  rw [← hS0]
  have hin4 : ∀ w ∈ wsX40, w ∈ wsX4_number := by decide +kernel
  have lk_129 := hts (.fieldLink RX4 129 "PauseLog$Reader" "broken" "Z") (by decide +kernel)
  have lk_9 := hts (.fieldLink RX4 9 "PauseLog$Reader" "text" "LPauseLog$Text;") (by decide +kernel)
  have lk_41 := hts (.fieldLink RX4 41 "PauseLog$Reader" "at" "I") (by decide +kernel)
  have b_99 : ∀  (x2 : Int32) (t0 : Nat) (t1 : Int32) (S : GS) (H : Heap) (locs : List Loc) (ls : Array Slot), wX4_number_99 Q k0 x2 t0 t1 S → gSh S S0 → gS D Y ad A s.heap S H locs → lv_has ls 5 [(2, .int x2)] → W p l e (rmD 1) s m args below meth c H locs 0 0 (MQ below (gE D Y za ad S0 s.heap.size (fun r S9 => ∃ x, r = some (vI x) ∧ Q x S9)) args s 0 0 A) (F0 m 99 ls [.int t1, .ref (ad t0)]) := by
    intro  x2 t0 t1 S H locs ls h hsh hG hl
    unfold wX4_number_99 at h
    obtain ⟨hk1, hq2, h⟩ := h
    obtain ⟨hz3, h⟩ := h
    refine r_put (ci := 4) (C := RX4) (T := TX4) (N := 3) hx hb hts hin4 tyX4 tyX4_ok nmX4 hown hK hG hk1 (cell_4 hq2) rfl 1 (by decide) lk_129 (fun _ h9 => h9) rfl (nar01 hz3) (fit01 hz3) (Nat.le_of_ble_eq_true rfl) (S' := sX S t0 1 t1) rfl (pu_4_1 hq2 t1) dX4_number_99 (fun H locs hG => ?_)
    obtain ⟨S4, eS_S4⟩ : ∃ z : GS, z = sX S t0 1 t1 := ⟨_, rfl⟩
    have h := h S4 eS_S4
    rw [← eS_S4] at hG
    have hs_S4 : gSh S4 S := by rw [eS_S4]; exact gSh.x _ _ _ _
    have hsh := hs_S4.tr hsh
    have hk5 := hs_S4.lt hk1
    have hq6 := hs_S4.kd hq2
    refine lv_iload_n hx hb dX4_number_102 rfl (lv_at hl 0 rfl) ?_
    exact W.iret (v := x2) hx hb hr (fun t ht hW => r_end (r := some (vI x2)) hAe hG hsh ⟨_, rfl, h⟩ rfl ht) hG.2.2.2.2 dX4_number_103
  have b_94 : ∀  (x2 : Int32) (t0 : Nat) (S : GS) (H : Heap) (locs : List Loc) (ls : Array Slot), wX4_number_94 Q k0 x2 t0 S → gSh S S0 → gS D Y ad A s.heap S H locs → lv_has ls 5 [(2, .int x2)] → W p l e (rmD 1) s m args below meth c H locs 0 0 (MQ below (gE D Y za ad S0 s.heap.size (fun r S9 => ∃ x, r = some (vI x) ∧ Q x S9)) args s 0 0 A) (F0 m 94 ls [.ref (ad t0)]) := by
    intro  x2 t0 S H locs ls h hsh hG hl
    unfold wX4_number_94 at h
    refine lv_iconst (v := 1) hx hb dX4_number_94 (by decide) ?_
    refine lv_goto (tgt := 99) hx hb dX4_number_95 (by decide) ?_
    exact b_99 x2 t0 1 S H locs ls h hsh hG (lv_sub hl [0] rfl)
  have b_81 : ∀  (x2 : Int32) (S : GS) (H : Heap) (locs : List Loc) (ls : Array Slot), wX4_number_81 Q k0 x2 S → gSh S S0 → gS D Y ad A s.heap S H locs → lv_has ls 5 [(0, .ref (ad k0)), (2, .int x2)] → W p l e (rmD 1) s m args below meth c H locs 0 0 (MQ below (gE D Y za ad S0 s.heap.size (fun r S9 => ∃ x, r = some (vI x) ∧ Q x S9)) args s 0 0 A) (F0 m 81 ls []) := by
    intro  x2 S H locs ls h hsh hG hl
    unfold wX4_number_81 at h
    refine lv_aload_n hx hb dX4_number_81 rfl (lv_at hl 0 rfl) ?_
    refine lv_aload_n hx hb dX4_number_82 rfl (lv_at hl 0 rfl) ?_
    obtain ⟨hk7, hq8, h⟩ := h
    refine g_get (ci := 4) (C := RX4) (T := TX4) (N := 3) hx hb hts hin4 hown hK hG hk7 (cell_4 hq8) rfl 1 (by decide) lk_129 (fun _ h9 => h9) (v := .int (gX S k0 1)) rfl dX4_number_83 ?_
    refine lv_if_ne (tgt := 94) hx hb dX4_number_86 (by decide) (fun c_86 => ?_) (fun c_86 => ?_)
    · have h := h.1 c_86
      exact b_94 x2 k0 S H locs ls h hsh hG (lv_sub hl [1] rfl)
    · have h := h.2 c_86
      refine lv_iload_n hx hb dX4_number_89 rfl (lv_at hl 1 rfl) ?_
      refine lv_iconst (v := (-1)) hx hb dX4_number_90 (by decide) ?_
      refine lv_icmp_ne (tgt := 98) hx hb dX4_number_91 (by decide) (fun c_91 => ?_) (fun c_91 => ?_)
      · have h := h.1 c_91
        refine lv_iconst (v := 0) hx hb dX4_number_98 (by decide) ?_
        exact b_99 x2 k0 0 S H locs ls h hsh hG (lv_sub hl [1] rfl)
      · have h := h.2 c_91
        exact b_94 x2 k0 S H locs ls h hsh hG (lv_sub hl [1] rfl)
  have b_4 : ∀  (f9 : Nat) (x1 : Int32) (x2 : Int32) (x3 : Int32) (S : GS) (H : Heap) (locs : List Loc) (ls : Array Slot), wX4_number_4 Q k0 f9 x1 x2 x3 S → gSh S S0 → gS D Y ad A s.heap S H locs → lv_has ls 5 [(0, .ref (ad k0)), (1, .int x1), (2, .int x2), (3, .int x3)] → W p l e (rmD 1) s m args below meth c H locs 0 0 (MQ below (gE D Y za ad S0 s.heap.size (fun r S9 => ∃ x, r = some (vI x) ∧ Q x S9)) args s 0 0 A) (F0 m 4 ls []) := by
    intro  f9
    induction f9 with
    | zero =>
      intro x1 x2 x3 S H locs ls h
      exact False.elim (by unfold wX4_number_4 at h; exact h)
    | succ f9 hL_4 =>
      intro x1 x2 x3 S H locs ls h hsh hG hl
      unfold wX4_number_4 at h
      refine lv_iload_n hx hb dX4_number_4 rfl (lv_at hl 3 rfl) ?_
      refine lv_iload_n hx hb dX4_number_5 rfl (lv_at hl 1 rfl) ?_
      refine lv_icmp_ge (tgt := 81) hx hb dX4_number_6 (by decide) (fun c_6 => ?_) (fun c_6 => ?_)
      · have h := h.1 c_6
        exact b_81 x2 S H locs ls h hsh hG (lv_sub hl [0, 2] rfl)
      · have h := h.2 c_6
        refine lv_iload_n hx hb dX4_number_9 rfl (lv_at hl 2 rfl) ?_
        refine lv_if_eq (tgt := 81) hx hb dX4_number_10 (by decide) (fun c_10 => ?_) (fun c_10 => ?_)
        · have h := h.1 c_10
          exact b_81 x2 S H locs ls h hsh hG (lv_sub hl [0, 2] rfl)
        · have h := h.2 c_10
          refine lv_aload_n hx hb dX4_number_13 rfl (lv_at hl 0 rfl) ?_
          obtain ⟨hk9, hq10, h⟩ := h
          refine g_get (ci := 4) (C := RX4) (T := TX4) (N := 3) hx hb hts hin4 hown hK hG hk9 (cell_4 hq10) rfl 1 (by decide) lk_129 (fun _ h9 => h9) (v := .int (gX S k0 1)) rfl dX4_number_14 ?_
          refine lv_if_ne (tgt := 81) hx hb dX4_number_17 (by decide) (fun c_17 => ?_) (fun c_17 => ?_)
          · have h := h.1 c_17
            exact b_81 x2 S H locs ls h hsh hG (lv_sub hl [0, 2] rfl)
          · have h := h.2 c_17
            refine lv_aload_n hx hb dX4_number_20 rfl (lv_at hl 0 rfl) ?_
            refine g_get (ci := 4) (C := RX4) (T := TX4) (N := 3) hx hb hts hin4 hown hK hG hk9 (cell_4 hq10) rfl 0 (by decide) lk_9 (fun _ h9 => h9) (v := rv ad (gR S k0 0)) rfl dX4_number_21 ?_
            refine lv_aload_n hx hb dX4_number_24 rfl (lv_at hl 0 rfl) ?_
            refine g_get (ci := 4) (C := RX4) (T := TX4) (N := 3) hx hb hts hin4 hown hK hG hk9 (cell_4 hq10) rfl 2 (by decide) lk_41 (fun _ h9 => h9) (v := .int (gX S k0 2)) rfl dX4_number_25 ?_
            obtain ⟨q11, e12, h⟩ := h
            refine W.eq (g2 := F0 m 28 ls [.int (gX S k0 2), .ref (ad q11)]) (by rw [e12]; rfl) ?_
            obtain ⟨hk13, hq14, h⟩ := h
            refine r_callV (za := za) (k := q11) (ci := 6) (C := RX6) (T := TX6) (N := 2) (As := [vI (gX S k0 2)]) (rest := []) (tX6_get l S q11 (gX S k0 2) _ h) ⟨hx, hb, hml, hown, hts⟩ (cwV 1 hts gX4_number_X6_get rfl rfl rfl (by decide +kernel) ⟨by decide, by decide⟩) hK hG hA hk13 (cell_6 hq14) rfl rfl hl.1 rfl (Nat.le_of_ble_eq_true rfl) ⟨Nat.zero_le _, Nat.zero_le _⟩ dX4_number_28 (fun r_9 S15 H locs hp hs_S15 hG => ?_)
            obtain ⟨u16, rfl, h⟩ := hp
            have h := h hs_S15
            refine W.eq (g2 := F0 m 31 ls [.int u16]) rfl ?_
            have hsh := hs_S15.tr hsh
            have hk17 := hs_S15.lt hk9
            have hq18 := hs_S15.kd hq10
            have hk19 := hs_S15.lt hk13
            have hq20 := hs_S15.kd hq14
            refine lv_istore (lv' := [(4, .int u16), (0, .ref (ad k0)), (1, .int x1), (2, .int x2), (3, .int x3)]) hx hb dX4_number_31 hl (by decide) rfl (fun ls hl => ?_)
            refine lv_iload hx hb dX4_number_33 (lv_at hl 0 rfl) ?_
            refine lv_bipush (v := 48) hx hb dX4_number_35 (by decide) ?_
            refine lv_icmp_lt (tgt := 81) hx hb dX4_number_37 (by decide) (fun c_37 => ?_) (fun c_37 => ?_)
            · have h := h.1 c_37
              exact b_81 x2 S15 H locs ls h hsh hG (lv_sub hl [1, 3] rfl)
            · have h := h.2 c_37
              refine lv_iload hx hb dX4_number_40 (lv_at hl 0 rfl) ?_
              refine lv_bipush (v := 57) hx hb dX4_number_42 (by decide) ?_
              refine lv_icmp_le (tgt := 50) hx hb dX4_number_44 (by decide) (fun c_44 => ?_) (fun c_44 => ?_)
              · have h := h.1 c_44
                refine lv_iload_n hx hb dX4_number_50 rfl (lv_at hl 3 rfl) ?_
                refine lv_iconst (v := 0) hx hb dX4_number_51 (by decide) ?_
                refine va_mmax hx hb (hml.trans hl.1.symm) hown (hts (.methodLink RX4 133 Lib.Math.max.name) (by decide +kernel)) (hts (.static Lib.Math.max.name) (by decide +kernel)) (hts (.initialized "java/lang/Math") (by decide +kernel)) (hts (.code Lib.Math.max.name Lib.Math.max.code 2 (some .int)) (by decide +kernel)) (by decide) (Nat.le_of_ble_eq_true rfl) (Nat.le_refl _) (Nat.le_refl _) dX4_number_52 ?_
                refine lv_bipush (v := 10) hx hb dX4_number_55 (by decide) ?_
                refine lv_imul hx hb dX4_number_57 ?_
                refine lv_iload hx hb dX4_number_58 (lv_at hl 0 rfl) ?_
                refine lv_iadd hx hb dX4_number_60 ?_
                refine lv_bipush (v := 48) hx hb dX4_number_61 (by decide) ?_
                refine lv_isub hx hb dX4_number_63 ?_
                refine lv_istore_n (lv' := [(2, .int ((((if x2 < 0 then 0 else x2) * 10) + u16) - 48)), (4, .int u16), (0, .ref (ad k0)), (1, .int x1), (3, .int x3)]) hx hb dX4_number_64 rfl hl (by decide) rfl (fun ls hl => ?_)
                refine lv_aload_n hx hb dX4_number_65 rfl (lv_at hl 2 rfl) ?_
                refine lv_dup hx hb dX4_number_66 rfl ?_
                refine g_get (ci := 4) (C := RX4) (T := TX4) (N := 3) hx hb hts hin4 hown hK hG hk17 (cell_4 hq18) rfl 2 (by decide) lk_41 (fun _ h9 => h9) (v := .int (gX S15 k0 2)) rfl dX4_number_67 ?_
                refine lv_iconst (v := 1) hx hb dX4_number_70 (by decide) ?_
                refine lv_iadd hx hb dX4_number_71 ?_
                refine r_put (ci := 4) (C := RX4) (T := TX4) (N := 3) hx hb hts hin4 tyX4 tyX4_ok nmX4 hown hK hG hk17 (cell_4 hq18) rfl 2 (by decide) lk_41 (fun _ h9 => h9) rfl rfl rfl (Nat.le_of_ble_eq_true rfl) (S' := sX S15 k0 2 ((gX S15 k0 2) + 1)) rfl (pu_4_2 hq18 ((gX S15 k0 2) + 1)) dX4_number_72 (fun H locs hG => ?_)
                obtain ⟨S21, eS_S21⟩ : ∃ z : GS, z = sX S15 k0 2 ((gX S15 k0 2) + 1) := ⟨_, rfl⟩
                have h := h S21 eS_S21
                rw [← eS_S21] at hG
                have hs_S21 : gSh S21 S15 := by rw [eS_S21]; exact gSh.x _ _ _ _
                have hsh := hs_S21.tr hsh
                have hk22 := hs_S21.lt hk17
                have hq23 := hs_S21.kd hq18
                have hk24 := hs_S21.lt hk19
                have hq25 := hs_S21.kd hq20
                refine lv_iinc (v := x3 + 1) (lv' := [(3, .int (x3 + 1)), (2, .int ((((if x2 < 0 then 0 else x2) * 10) + u16) - 48)), (4, .int u16), (0, .ref (ad k0)), (1, .int x1)]) hx hb dX4_number_75 hl (k := 4) rfl rfl (by decide) rfl (fun ls hl => ?_)
                refine lv_goto (tgt := 4) hx hb dX4_number_78 (by decide) ?_
                exact hL_4 x1 ((((if x2 < 0 then 0 else x2) * 10) + u16) - 48) (x3 + 1) S21 H locs ls h hsh hG (lv_sub hl [3, 4, 1, 0] rfl)
              · have h := h.2 c_44
                refine lv_goto (tgt := 81) hx hb dX4_number_47 (by decide) ?_
                exact b_81 x2 S15 H locs ls h hsh hG (lv_sub hl [1, 3] rfl)
  have hl : lv_has ls 5 [(0, .ref (ad k0)), (1, .int x1)] := hl
  have hsh : gSh S S0 := by rw [hS0]; exact gSh.rf S
  obtain ⟨H, eH⟩ : ∃ z : Heap, z = s.heap := ⟨_, rfl⟩
  obtain ⟨locs, eL⟩ : ∃ z : List Loc, z = [] := ⟨_, rfl⟩
  have hG : gS D Y ad A s.heap S H locs := by rw [eH, eL]; exact hG
  suffices hgoal : W p l e (rmD 1) s m args below meth c H locs 0 0 (MQ below (gE D Y za ad S0 s.heap.size (fun r S9 => ∃ x, r = some (vI x) ∧ Q x S9)) args s 0 0 A) (F0 m 0 ls []) by rw [eH, eL] at hgoal; exact hgoal
  unfold wX4_number at h
  refine lv_iconst (v := (-1)) hx hb dX4_number_0 (by decide) ?_
  refine lv_istore_n (lv' := [(2, .int (-1)), (0, .ref (ad k0)), (1, .int x1)]) hx hb dX4_number_1 rfl hl (by decide) rfl (fun ls hl => ?_)
  refine lv_iconst (v := 0) hx hb dX4_number_2 (by decide) ?_
  refine lv_istore_n (lv' := [(3, .int 0), (2, .int (-1)), (0, .ref (ad k0)), (1, .int x1)]) hx hb dX4_number_3 rfl hl (by decide) rfl (fun ls hl => ?_)
  obtain ⟨f26, h⟩ := h
  exact b_4 f26 x1 (-1) 0 S H locs ls h hsh hG (lv_sub hl [2, 3, 1, 0] rfl)
def wX4_pass_54 (Q : GS → Prop) (L_2 : Nat → Int32 → GS → Prop) (k0 : Nat) (x1 : Nat) (x2 : Int32) (S : GS) : Prop :=
  L_2 x1 (x2 + 1) S
def wX4_pass_60 (Q : GS → Prop) (k0 : Nat)  (S : GS) : Prop :=
  Q S
def wX4_pass_2 (Q : GS → Prop) (k0 : Nat) : Nat → Nat → Int32 → GS → Prop
  | 0, _, _, _ => False
  | f9 + 1, x1, x2, S =>
  x1 < 52 ∧ ((nI (zT x1).length) ≤ x2 → wX4_pass_60 Q k0  S) ∧ (¬ (nI (zT x1).length) ≤ x2 → k0 < gN S ∧ gK S k0 = 4 ∧ (¬ (gX S k0 1) = 0 → wX4_pass_60 Q k0  S) ∧ ((gX S k0 1) = 0 → ∃ q4 : Nat, gR S k0 0 = some q4 ∧ q4 < gN S ∧ gK S q4 = 6 ∧ wX6_get S q4 (gX S k0 2) (fun u9 S8 => gSh S8 S → x1 < 52 ∧ ∃ k14 : Nat, x2 = nI k14 ∧ k14 < (zT x1).length ∧ (¬ u9 = (zCh x1 k14) → ∀ S18 : GS, S18 = sX S8 k0 1 1 → wX4_pass_54 Q (wX4_pass_2 Q k0 f9) k0 x1 x2 S18) ∧ (u9 = (zCh x1 k14) → ∀ S23 : GS, S23 = sX S8 k0 2 ((gX S8 k0 2) + 1) → wX4_pass_54 Q (wX4_pass_2 Q k0 f9) k0 x1 x2 S23))))
def wX4_pass (S : GS) (k0 : Nat) (x1 : Nat) (Q : GS → Prop) : Prop :=
  ∃ f28 : Nat, wX4_pass_2 Q k0 f28 x1 0 S
set_option maxHeartbeats 4000000 in
set_option maxRecDepth 100000 in
theorem tX4_pass (l : Launch) (S : GS) (k0 : Nat) (x1 : Nat) (Q : GS → Prop) (h : wX4_pass S k0 x1 Q) : CZ l yX4_pass wsX4_pass 4 S (gA [vR (some k0), vS x1]) (fun r S9 => r = none ∧ Q S9) := by
  refine CZ.ofW (cc := cX4_pass) (maxL := 3) (ret := none) RX4 (by decide) rfl rfl (fun _ _ _ => Nat.le_of_ble_eq_true rfl) ?_
  intro p e s m args below meth c D Y za zv ad A ls hAe hx hb hr hml hts hown hlocks hK hZ hA hG hl
  obtain ⟨S0, hS0⟩ : ∃ z : GS, z = S := ⟨_, rfl⟩
  rw [← hS0] at hAe
  rw [← hS0]
  have hin4 : ∀ w ∈ wsX40, w ∈ wsX4_pass := by decide +kernel
  have lk_129 := hts (.fieldLink RX4 129 "PauseLog$Reader" "broken" "Z") (by decide +kernel)
  have lk_9 := hts (.fieldLink RX4 9 "PauseLog$Reader" "text" "LPauseLog$Text;") (by decide +kernel)
  have lk_41 := hts (.fieldLink RX4 41 "PauseLog$Reader" "at" "I") (by decide +kernel)
  have b_54 : ∀ (L_2 : Nat → Int32 → GS → Prop) (hL_2 : ∀ (x1 : Nat) (x2 : Int32) (S : GS) (H : Heap) (locs : List Loc) (ls : Array Slot), L_2 x1 x2 S → gSh S S0 → gS D Y ad A s.heap S H locs → lv_has ls 3 [(0, .ref (ad k0)), (1, .ref (za x1)), (2, .int x2)] → W p l e (rmD 4) s m args below meth c H locs 0 0 (MQ below (gE D Y za ad S0 s.heap.size (fun r S9 => r = none ∧ Q S9)) args s 0 0 A) (F0 m 2 ls [])) (x1 : Nat) (x2 : Int32) (S : GS) (H : Heap) (locs : List Loc) (ls : Array Slot), wX4_pass_54 Q L_2 k0 x1 x2 S → gSh S S0 → gS D Y ad A s.heap S H locs → lv_has ls 3 [(0, .ref (ad k0)), (1, .ref (za x1)), (2, .int x2)] → W p l e (rmD 4) s m args below meth c H locs 0 0 (MQ below (gE D Y za ad S0 s.heap.size (fun r S9 => r = none ∧ Q S9)) args s 0 0 A) (F0 m 54 ls []) := by
    intro L_2 hL_2 x1 x2 S H locs ls h hsh hG hl
    unfold wX4_pass_54 at h
    refine lv_iinc (v := x2 + 1) (lv' := [(2, .int (x2 + 1)), (0, .ref (ad k0)), (1, .ref (za x1))]) hx hb dX4_pass_54 hl (k := 2) rfl rfl (by decide) rfl (fun ls hl => ?_)
    refine lv_goto (tgt := 2) hx hb dX4_pass_57 (by decide) ?_
    exact hL_2 x1 (x2 + 1) S H locs ls h hsh hG (lv_sub hl [1, 2, 0] rfl)
  have b_60 : ∀   (S : GS) (H : Heap) (locs : List Loc) (ls : Array Slot), wX4_pass_60 Q k0  S → gSh S S0 → gS D Y ad A s.heap S H locs → lv_has ls 3 [] → W p l e (rmD 4) s m args below meth c H locs 0 0 (MQ below (gE D Y za ad S0 s.heap.size (fun r S9 => r = none ∧ Q S9)) args s 0 0 A) (F0 m 60 ls []) := by
    intro   S H locs ls h hsh hG hl
    unfold wX4_pass_60 at h
    exact W.vret hx hb hr (fun t ht hW => r_end (r := none) hAe hG hsh ⟨rfl, h⟩ rfl ht) hG.2.2.2.2 dX4_pass_60
  have b_2 : ∀  (f9 : Nat) (x1 : Nat) (x2 : Int32) (S : GS) (H : Heap) (locs : List Loc) (ls : Array Slot), wX4_pass_2 Q k0 f9 x1 x2 S → gSh S S0 → gS D Y ad A s.heap S H locs → lv_has ls 3 [(0, .ref (ad k0)), (1, .ref (za x1)), (2, .int x2)] → W p l e (rmD 4) s m args below meth c H locs 0 0 (MQ below (gE D Y za ad S0 s.heap.size (fun r S9 => r = none ∧ Q S9)) args s 0 0 A) (F0 m 2 ls []) := by
    intro  f9
    induction f9 with
    | zero =>
      intro x1 x2 S H locs ls h
      exact False.elim (by unfold wX4_pass_2 at h; exact h)
    | succ f9 hL_2 =>
      intro x1 x2 S H locs ls h hsh hG hl
      unfold wX4_pass_2 at h
      refine lv_iload_n hx hb dX4_pass_2 rfl (lv_at hl 2 rfl) ?_
      refine lv_aload_n hx hb dX4_pass_3 rfl (lv_at hl 1 rfl) ?_
      obtain ⟨hi1, h⟩ := h
      refine z_callV (As := []) (rest := [.int x2]) (zJ0_length l S x1 hi1) rfl ⟨hx, hb, hml, hown, hts⟩ (cwV 0 hts gX4_pass_J0_length_8abf5 rfl rfl rfl (by decide +kernel) ⟨by decide, by decide⟩) hK hZ hG hA (z_rec hZ hG hi1) rfl hl.1 rfl (Nat.le_of_ble_eq_true rfl) ⟨Nat.zero_le _, Nat.zero_le _⟩ dX4_pass_4 (fun r_9 S9 H locs hp hs9 hG => ?_)
      obtain ⟨rfl, rfl⟩ := hp
      refine W.eq (g2 := F0 m 7 ls [.int (nI (zT x1).length), .int x2]) rfl ?_
      refine lv_icmp_ge (tgt := 60) hx hb dX4_pass_7 (by decide) (fun c_7 => ?_) (fun c_7 => ?_)
      · have h := h.1 c_7
        exact b_60  S H locs ls h hsh hG (lv_sub hl [] rfl)
      · have h := h.2 c_7
        refine lv_aload_n hx hb dX4_pass_10 rfl (lv_at hl 0 rfl) ?_
        obtain ⟨hk2, hq3, h⟩ := h
        refine g_get (ci := 4) (C := RX4) (T := TX4) (N := 3) hx hb hts hin4 hown hK hG hk2 (cell_4 hq3) rfl 1 (by decide) lk_129 (fun _ h9 => h9) (v := .int (gX S k0 1)) rfl dX4_pass_11 ?_
        refine lv_if_ne (tgt := 60) hx hb dX4_pass_14 (by decide) (fun c_14 => ?_) (fun c_14 => ?_)
        · have h := h.1 c_14
          exact b_60  S H locs ls h hsh hG (lv_sub hl [] rfl)
        · have h := h.2 c_14
          refine lv_aload_n hx hb dX4_pass_17 rfl (lv_at hl 0 rfl) ?_
          refine g_get (ci := 4) (C := RX4) (T := TX4) (N := 3) hx hb hts hin4 hown hK hG hk2 (cell_4 hq3) rfl 0 (by decide) lk_9 (fun _ h9 => h9) (v := rv ad (gR S k0 0)) rfl dX4_pass_18 ?_
          refine lv_aload_n hx hb dX4_pass_21 rfl (lv_at hl 0 rfl) ?_
          refine g_get (ci := 4) (C := RX4) (T := TX4) (N := 3) hx hb hts hin4 hown hK hG hk2 (cell_4 hq3) rfl 2 (by decide) lk_41 (fun _ h9 => h9) (v := .int (gX S k0 2)) rfl dX4_pass_22 ?_
          obtain ⟨q4, e5, h⟩ := h
          refine W.eq (g2 := F0 m 25 ls [.int (gX S k0 2), .ref (ad q4)]) (by rw [e5]; rfl) ?_
          obtain ⟨hk6, hq7, h⟩ := h
          refine r_callV (za := za) (k := q4) (ci := 6) (C := RX6) (T := TX6) (N := 2) (As := [vI (gX S k0 2)]) (rest := []) (tX6_get l S q4 (gX S k0 2) _ h) ⟨hx, hb, hml, hown, hts⟩ (cwV 1 hts gX4_pass_X6_get rfl rfl rfl (by decide +kernel) ⟨by decide, by decide⟩) hK hG hA hk6 (cell_6 hq7) rfl rfl hl.1 rfl (Nat.le_of_ble_eq_true rfl) ⟨Nat.zero_le _, Nat.zero_le _⟩ dX4_pass_25 (fun r_9 S8 H locs hp hs_S8 hG => ?_)
          obtain ⟨u9, rfl, h⟩ := hp
          have h := h hs_S8
          refine W.eq (g2 := F0 m 28 ls [.int u9]) rfl ?_
          have hsh := hs_S8.tr hsh
          have hk10 := hs_S8.lt hk2
          have hq11 := hs_S8.kd hq3
          have hk12 := hs_S8.lt hk6
          have hq13 := hs_S8.kd hq7
          refine lv_aload_n hx hb dX4_pass_28 rfl (lv_at hl 1 rfl) ?_
          refine lv_iload_n hx hb dX4_pass_29 rfl (lv_at hl 2 rfl) ?_
          obtain ⟨hi17, h⟩ := h
          obtain ⟨k14, e15, hk16, h⟩ := h
          refine W.eq (g2 := F0 m 30 ls [.int (nI k14), .ref (za x1), .int u9]) (by rw [e15]) ?_
          refine z_callV (As := [.int (nI k14)]) (rest := [.int u9]) (zJ0_charAt l S8 x1 k14 hi17 hk16) rfl ⟨hx, hb, hml, hown, hts⟩ (cwV 1 hts gX4_pass_J0_charAt_5068e rfl rfl rfl (by decide +kernel) ⟨by decide, by decide⟩) hK hZ hG hA (z_rec hZ hG hi17) rfl hl.1 rfl (Nat.le_of_ble_eq_true rfl) ⟨Nat.zero_le _, Nat.zero_le _⟩ dX4_pass_30 (fun r_9 S9 H locs hp hs9 hG => ?_)
          obtain ⟨rfl, rfl⟩ := hp
          refine W.eq (g2 := F0 m 33 ls [.int (zCh x1 k14), .int u9]) rfl ?_
          refine lv_icmp_ne (tgt := 49) hx hb dX4_pass_33 (by decide) (fun c_33 => ?_) (fun c_33 => ?_)
          · have h := h.1 c_33
            refine lv_aload_n hx hb dX4_pass_49 rfl (lv_at hl 0 rfl) ?_
            refine lv_iconst (v := 1) hx hb dX4_pass_50 (by decide) ?_
            refine r_put (ci := 4) (C := RX4) (T := TX4) (N := 3) hx hb hts hin4 tyX4 tyX4_ok nmX4 hown hK hG hk10 (cell_4 hq11) rfl 1 (by decide) lk_129 (fun _ h9 => h9) rfl rfl rfl (Nat.le_of_ble_eq_true rfl) (S' := sX S8 k0 1 1) rfl (pu_4_1 hq11 1) dX4_pass_51 (fun H locs hG => ?_)
            obtain ⟨S18, eS_S18⟩ : ∃ z : GS, z = sX S8 k0 1 1 := ⟨_, rfl⟩
            have h := h S18 eS_S18
            rw [← eS_S18] at hG
            have hs_S18 : gSh S18 S8 := by rw [eS_S18]; exact gSh.x _ _ _ _
            have hsh := hs_S18.tr hsh
            have hk19 := hs_S18.lt hk10
            have hq20 := hs_S18.kd hq11
            have hk21 := hs_S18.lt hk12
            have hq22 := hs_S18.kd hq13
            exact b_54 (wX4_pass_2 Q k0 f9) hL_2 x1 x2 S18 H locs ls h hsh hG (lv_sub hl [0, 1, 2] rfl)
          · have h := h.2 c_33
            refine lv_aload_n hx hb dX4_pass_36 rfl (lv_at hl 0 rfl) ?_
            refine lv_dup hx hb dX4_pass_37 rfl ?_
            refine g_get (ci := 4) (C := RX4) (T := TX4) (N := 3) hx hb hts hin4 hown hK hG hk10 (cell_4 hq11) rfl 2 (by decide) lk_41 (fun _ h9 => h9) (v := .int (gX S8 k0 2)) rfl dX4_pass_38 ?_
            refine lv_iconst (v := 1) hx hb dX4_pass_41 (by decide) ?_
            refine lv_iadd hx hb dX4_pass_42 ?_
            refine r_put (ci := 4) (C := RX4) (T := TX4) (N := 3) hx hb hts hin4 tyX4 tyX4_ok nmX4 hown hK hG hk10 (cell_4 hq11) rfl 2 (by decide) lk_41 (fun _ h9 => h9) rfl rfl rfl (Nat.le_of_ble_eq_true rfl) (S' := sX S8 k0 2 ((gX S8 k0 2) + 1)) rfl (pu_4_2 hq11 ((gX S8 k0 2) + 1)) dX4_pass_43 (fun H locs hG => ?_)
            obtain ⟨S23, eS_S23⟩ : ∃ z : GS, z = sX S8 k0 2 ((gX S8 k0 2) + 1) := ⟨_, rfl⟩
            have h := h S23 eS_S23
            rw [← eS_S23] at hG
            have hs_S23 : gSh S23 S8 := by rw [eS_S23]; exact gSh.x _ _ _ _
            have hsh := hs_S23.tr hsh
            have hk24 := hs_S23.lt hk10
            have hq25 := hs_S23.kd hq11
            have hk26 := hs_S23.lt hk12
            have hq27 := hs_S23.kd hq13
            refine lv_goto (tgt := 54) hx hb dX4_pass_46 (by decide) ?_
            exact b_54 (wX4_pass_2 Q k0 f9) hL_2 x1 x2 S23 H locs ls h hsh hG (lv_sub hl [0, 1, 2] rfl)
  have hl : lv_has ls 3 [(0, .ref (ad k0)), (1, .ref (za x1))] := hl
  have hsh : gSh S S0 := by rw [hS0]; exact gSh.rf S
  obtain ⟨H, eH⟩ : ∃ z : Heap, z = s.heap := ⟨_, rfl⟩
  obtain ⟨locs, eL⟩ : ∃ z : List Loc, z = [] := ⟨_, rfl⟩
  have hG : gS D Y ad A s.heap S H locs := by rw [eH, eL]; exact hG
  suffices hgoal : W p l e (rmD 4) s m args below meth c H locs 0 0 (MQ below (gE D Y za ad S0 s.heap.size (fun r S9 => r = none ∧ Q S9)) args s 0 0 A) (F0 m 0 ls []) by rw [eH, eL] at hgoal; exact hgoal
  unfold wX4_pass at h
  refine lv_iconst (v := 0) hx hb dX4_pass_0 (by decide) ?_
  refine lv_istore_n (lv' := [(2, .int 0), (0, .ref (ad k0)), (1, .ref (za x1))]) hx hb dX4_pass_1 rfl hl (by decide) rfl (fun ls hl => ?_)
  obtain ⟨f28, h⟩ := h
  exact b_2 f28 x1 0 S H locs ls h hsh hG (lv_sub hl [1, 2, 0] rfl)
def wX4_decimal_14 (Q : Int32 → GS → Prop) (k0 : Nat) : Nat → Int32 → Int32 → GS → Prop
  | 0, _, _, _ => False
  | f9 + 1, x2, x3, S =>
  ((3 : Int32) ≤ x3 → Q x2 S) ∧ (¬ (3 : Int32) ≤ x3 → k0 < gN S ∧ gK S k0 = 4 ∧ wX4_number S k0 1 (fun u4 S3 => gSh S3 S → (wX4_decimal_14 Q k0 f9) ((x2 * 10) + u4) (x3 + 1) S3))
def wX4_decimal (S : GS) (k0 : Nat) (x1 : Int32) (Q : Int32 → GS → Prop) : Prop :=
  k0 < gN S ∧ gK S k0 = 4 ∧ wX4_number S k0 x1 (fun u10 S9 => gSh S9 S → wX4_pass S9 k0 51 (fun S13 => gSh S13 S9 → ∃ f17 : Nat, wX4_decimal_14 Q k0 f17 u10 0 S13))
set_option maxHeartbeats 4000000 in
set_option maxRecDepth 100000 in
theorem tX4_decimal (l : Launch) (S : GS) (k0 : Nat) (x1 : Int32) (Q : Int32 → GS → Prop) (h : wX4_decimal S k0 x1 Q) : CZ l yX4_decimal wsX4_decimal 5 S (gA [vR (some k0), vI x1]) (fun r S9 => ∃ x, r = some (vI x) ∧ Q x S9) := by
  refine CZ.ofW (cc := cX4_decimal) (maxL := 4) (ret := (some .int)) RX4 (by decide) rfl rfl (fun _ _ _ => Nat.le_of_ble_eq_true rfl) ?_
  intro p e s m args below meth c D Y za zv ad A ls hAe hx hb hr hml hts hown hlocks hK hZ hA hG hl
  obtain ⟨S0, hS0⟩ : ∃ z : GS, z = S := ⟨_, rfl⟩
  rw [← hS0] at hAe
  rw [← hS0]
  have b_14 : ∀  (f9 : Nat) (x2 : Int32) (x3 : Int32) (S : GS) (H : Heap) (locs : List Loc) (ls : Array Slot), wX4_decimal_14 Q k0 f9 x2 x3 S → gSh S S0 → gS D Y ad A s.heap S H locs → lv_has ls 4 [(0, .ref (ad k0)), (2, .int x2), (3, .int x3)] → W p l e (rmD 5) s m args below meth c H locs 0 0 (MQ below (gE D Y za ad S0 s.heap.size (fun r S9 => ∃ x, r = some (vI x) ∧ Q x S9)) args s 0 0 A) (F0 m 14 ls []) := by
    intro  f9
    induction f9 with
    | zero =>
      intro x2 x3 S H locs ls h
      exact False.elim (by unfold wX4_decimal_14 at h; exact h)
    | succ f9 hL_14 =>
      intro x2 x3 S H locs ls h hsh hG hl
      unfold wX4_decimal_14 at h
      refine lv_iload_n hx hb dX4_decimal_14 rfl (lv_at hl 2 rfl) ?_
      refine lv_iconst (v := 3) hx hb dX4_decimal_15 (by decide) ?_
      refine lv_icmp_ge (tgt := 36) hx hb dX4_decimal_16 (by decide) (fun c_16 => ?_) (fun c_16 => ?_)
      · have h := h.1 c_16
        refine lv_iload_n hx hb dX4_decimal_36 rfl (lv_at hl 1 rfl) ?_
        exact W.iret (v := x2) hx hb hr (fun t ht hW => r_end (r := some (vI x2)) hAe hG hsh ⟨_, rfl, h⟩ rfl ht) hG.2.2.2.2 dX4_decimal_37
      · have h := h.2 c_16
        refine lv_iload_n hx hb dX4_decimal_19 rfl (lv_at hl 1 rfl) ?_
        refine lv_bipush (v := 10) hx hb dX4_decimal_20 (by decide) ?_
        refine lv_imul hx hb dX4_decimal_22 ?_
        refine lv_aload_n hx hb dX4_decimal_23 rfl (lv_at hl 0 rfl) ?_
        refine lv_iconst (v := 1) hx hb dX4_decimal_24 (by decide) ?_
        obtain ⟨hk1, hq2, h⟩ := h
        refine r_callV (za := za) (k := k0) (ci := 4) (C := RX4) (T := TX4) (N := 3) (As := [vI 1]) (rest := [.int (x2 * 10)]) (tX4_number l S k0 1 _ h) ⟨hx, hb, hml, hown, hts⟩ (cwV 1 hts gX4_decimal_X4_number rfl rfl rfl (by decide +kernel) ⟨by decide, by decide⟩) hK hG hA hk1 (cell_4 hq2) rfl rfl hl.1 rfl (Nat.le_of_ble_eq_true rfl) ⟨Nat.zero_le _, Nat.zero_le _⟩ dX4_decimal_25 (fun r_9 S3 H locs hp hs_S3 hG => ?_)
        obtain ⟨u4, rfl, h⟩ := hp
        have h := h hs_S3
        refine W.eq (g2 := F0 m 28 ls [.int u4, .int (x2 * 10)]) rfl ?_
        have hsh := hs_S3.tr hsh
        have hk5 := hs_S3.lt hk1
        have hq6 := hs_S3.kd hq2
        refine lv_iadd hx hb dX4_decimal_28 ?_
        refine lv_istore_n (lv' := [(2, .int ((x2 * 10) + u4)), (0, .ref (ad k0)), (3, .int x3)]) hx hb dX4_decimal_29 rfl hl (by decide) rfl (fun ls hl => ?_)
        refine lv_iinc (v := x3 + 1) (lv' := [(3, .int (x3 + 1)), (2, .int ((x2 * 10) + u4)), (0, .ref (ad k0))]) hx hb dX4_decimal_30 hl (k := 2) rfl rfl (by decide) rfl (fun ls hl => ?_)
        refine lv_goto (tgt := 14) hx hb dX4_decimal_33 (by decide) ?_
        exact hL_14 ((x2 * 10) + u4) (x3 + 1) S3 H locs ls h hsh hG (lv_sub hl [2, 1, 0] rfl)
  have hl : lv_has ls 4 [(0, .ref (ad k0)), (1, .int x1)] := hl
  have hsh : gSh S S0 := by rw [hS0]; exact gSh.rf S
  obtain ⟨H, eH⟩ : ∃ z : Heap, z = s.heap := ⟨_, rfl⟩
  obtain ⟨locs, eL⟩ : ∃ z : List Loc, z = [] := ⟨_, rfl⟩
  have hG : gS D Y ad A s.heap S H locs := by rw [eH, eL]; exact hG
  suffices hgoal : W p l e (rmD 5) s m args below meth c H locs 0 0 (MQ below (gE D Y za ad S0 s.heap.size (fun r S9 => ∃ x, r = some (vI x) ∧ Q x S9)) args s 0 0 A) (F0 m 0 ls []) by rw [eH, eL] at hgoal; exact hgoal
  unfold wX4_decimal at h
  refine lv_aload_n hx hb dX4_decimal_0 rfl (lv_at hl 0 rfl) ?_
  refine lv_iload_n hx hb dX4_decimal_1 rfl (lv_at hl 1 rfl) ?_
  obtain ⟨hk7, hq8, h⟩ := h
  refine r_callV (za := za) (k := k0) (ci := 4) (C := RX4) (T := TX4) (N := 3) (As := [vI x1]) (rest := []) (tX4_number l S k0 x1 _ h) ⟨hx, hb, hml, hown, hts⟩ (cwV 1 hts gX4_decimal_X4_number rfl rfl rfl (by decide +kernel) ⟨by decide, by decide⟩) hK hG hA hk7 (cell_4 hq8) rfl rfl hl.1 rfl (Nat.le_of_ble_eq_true rfl) ⟨Nat.zero_le _, Nat.zero_le _⟩ dX4_decimal_2 (fun r_9 S9 H locs hp hs_S9 hG => ?_)
  obtain ⟨u10, rfl, h⟩ := hp
  have h := h hs_S9
  refine W.eq (g2 := F0 m 5 ls [.int u10]) rfl ?_
  have hsh := hs_S9.tr hsh
  have hk11 := hs_S9.lt hk7
  have hq12 := hs_S9.kd hq8
  refine lv_istore_n (lv' := [(2, .int u10), (0, .ref (ad k0)), (1, .int x1)]) hx hb dX4_decimal_5 rfl hl (by decide) rfl (fun ls hl => ?_)
  refine lv_aload_n hx hb dX4_decimal_6 rfl (lv_at hl 1 rfl) ?_
  refine va_ldcS hx hb hown (hZ.2.2.2.1 51 (by decide)) dX4_decimal_7 ?_
  refine z_callV (As := [.ref (za 51)]) (rest := []) (tX4_pass l S9 k0 51 _ h) rfl ⟨hx, hb, hml, hown, hts⟩ (cwV 1 hts gX4_decimal_X4_pass rfl rfl rfl (by decide +kernel) ⟨by decide, by decide⟩) hK hZ hG hA (va_recv hK hG.1 (ci := 4) (q := (RX4, TX4, 3)) rfl (wl_get hk11 (cell_4 hq12))) rfl hl.1 rfl (Nat.le_of_ble_eq_true rfl) ⟨Nat.zero_le _, Nat.zero_le _⟩ dX4_decimal_9 (fun r_9 S13 H locs hp hs_S13 hG => ?_)
  obtain ⟨rfl, h⟩ := hp
  have h := h hs_S13
  refine W.eq (g2 := F0 m 12 ls []) rfl ?_
  have hsh := hs_S13.tr hsh
  have hk15 := hs_S13.lt hk11
  have hq16 := hs_S13.kd hq12
  refine lv_iconst (v := 0) hx hb dX4_decimal_12 (by decide) ?_
  refine lv_istore_n (lv' := [(3, .int 0), (2, .int u10), (0, .ref (ad k0)), (1, .int x1)]) hx hb dX4_decimal_13 rfl hl (by decide) rfl (fun ls hl => ?_)
  obtain ⟨f17, h⟩ := h
  exact b_14 f17 u10 0 S13 H locs ls h hsh hG (lv_sub hl [2, 1, 0] rfl)
def wX4_took (S : GS) (k0 : Nat) (Q : Int32 → GS → Prop) : Prop :=
  k0 < gN S ∧ gK S k0 = 4 ∧ wX4_decimal S k0 4 (fun u4 S3 => gSh S3 S → wX4_pass S3 k0 50 (fun S7 => gSh S7 S3 → Q u4 S7))
set_option maxHeartbeats 4000000 in
set_option maxRecDepth 100000 in
theorem tX4_took (l : Launch) (S : GS) (k0 : Nat) (Q : Int32 → GS → Prop) (h : wX4_took S k0 Q) : CZ l yX4_took wsX4_took 6 S (gA [vR (some k0)]) (fun r S9 => ∃ x, r = some (vI x) ∧ Q x S9) := by
  refine CZ.ofW (cc := cX4_took) (maxL := 2) (ret := (some .int)) RX4 (by decide) rfl rfl (fun _ _ _ => Nat.le_of_ble_eq_true rfl) ?_
  intro p e s m args below meth c D Y za zv ad A ls hAe hx hb hr hml hts hown hlocks hK hZ hA hG hl
  obtain ⟨S0, hS0⟩ : ∃ z : GS, z = S := ⟨_, rfl⟩
  rw [← hS0] at hAe
  rw [← hS0]
  have hl : lv_has ls 2 [(0, .ref (ad k0))] := hl
  have hsh : gSh S S0 := by rw [hS0]; exact gSh.rf S
  obtain ⟨H, eH⟩ : ∃ z : Heap, z = s.heap := ⟨_, rfl⟩
  obtain ⟨locs, eL⟩ : ∃ z : List Loc, z = [] := ⟨_, rfl⟩
  have hG : gS D Y ad A s.heap S H locs := by rw [eH, eL]; exact hG
  suffices hgoal : W p l e (rmD 6) s m args below meth c H locs 0 0 (MQ below (gE D Y za ad S0 s.heap.size (fun r S9 => ∃ x, r = some (vI x) ∧ Q x S9)) args s 0 0 A) (F0 m 0 ls []) by rw [eH, eL] at hgoal; exact hgoal
  unfold wX4_took at h
  refine lv_aload_n hx hb dX4_took_0 rfl (lv_at hl 0 rfl) ?_
  refine lv_iconst (v := 4) hx hb dX4_took_1 (by decide) ?_
  obtain ⟨hk1, hq2, h⟩ := h
  refine z_callV (As := [.int 4]) (rest := []) (tX4_decimal l S k0 4 _ h) rfl ⟨hx, hb, hml, hown, hts⟩ (cwV 1 hts gX4_took_X4_decimal rfl rfl rfl (by decide +kernel) ⟨by decide, by decide⟩) hK hZ hG hA (va_recv hK hG.1 (ci := 4) (q := (RX4, TX4, 3)) rfl (wl_get hk1 (cell_4 hq2))) rfl hl.1 rfl (Nat.le_of_ble_eq_true rfl) ⟨Nat.zero_le _, Nat.zero_le _⟩ dX4_took_2 (fun r_9 S3 H locs hp hs_S3 hG => ?_)
  obtain ⟨u4, rfl, h⟩ := hp
  have h := h hs_S3
  refine W.eq (g2 := F0 m 5 ls [.int u4]) rfl ?_
  have hsh := hs_S3.tr hsh
  have hk5 := hs_S3.lt hk1
  have hq6 := hs_S3.kd hq2
  refine lv_istore_n (lv' := [(1, .int u4), (0, .ref (ad k0))]) hx hb dX4_took_5 rfl hl (by decide) rfl (fun ls hl => ?_)
  refine lv_aload_n hx hb dX4_took_6 rfl (lv_at hl 1 rfl) ?_
  refine va_ldcS hx hb hown (hZ.2.2.2.1 50 (by decide)) dX4_took_7 ?_
  refine z_callV (As := [.ref (za 50)]) (rest := []) (tX4_pass l S3 k0 50 _ h) rfl ⟨hx, hb, hml, hown, hts⟩ (cwV 1 hts gX4_took_X4_pass rfl rfl rfl (by decide +kernel) ⟨by decide, by decide⟩) hK hZ hG hA (va_recv hK hG.1 (ci := 4) (q := (RX4, TX4, 3)) rfl (wl_get hk5 (cell_4 hq6))) rfl hl.1 rfl (Nat.le_of_ble_eq_true rfl) ⟨Nat.zero_le _, Nat.zero_le _⟩ dX4_took_9 (fun r_9 S7 H locs hp hs_S7 hG => ?_)
  obtain ⟨rfl, h⟩ := hp
  have h := h hs_S7
  refine W.eq (g2 := F0 m 12 ls []) rfl ?_
  have hsh := hs_S7.tr hsh
  have hk9 := hs_S7.lt hk5
  have hq10 := hs_S7.kd hq6
  refine lv_iload_n hx hb dX4_took_12 rfl (lv_at hl 0 rfl) ?_
  exact W.iret (v := u4) hx hb hr (fun t ht hW => r_end (r := some (vI u4)) hAe hG hsh ⟨_, rfl, h⟩ rfl ht) hG.2.2.2.2 dX4_took_13
def wX4_size_56 (Q : Int32 → GS → Prop) (k0 : Nat) (t0 : Int32) (S : GS) : Prop :=
  Q t0 S
def wX4_size_40 (Q : Int32 → GS → Prop) (k0 : Nat) (x1 : Int32) (x2 : Int32) (t0 : Nat) (t1 : Nat) (S : GS) : Prop :=
  t0 < gN S ∧ gK S t0 = 4 ∧ wX4_pass S t0 t1 (fun S3 => gSh S3 S → (x2 = 0 → wX4_size_56 Q k0 x1 S3) ∧ (¬ x2 = 0 → wX4_size_56 Q k0 (x1 * 1024) S3))
def wX4_size_27 (Q : Int32 → GS → Prop) (k0 : Nat) (x1 : Int32) (t0 : Int32) (S : GS) : Prop :=
  (t0 = 0 → wX4_size_40 Q k0 x1 t0 k0 49 S) ∧ (¬ t0 = 0 → wX4_size_40 Q k0 x1 t0 k0 48 S)
def wX4_size (S : GS) (k0 : Nat) (Q : Int32 → GS → Prop) : Prop :=
  k0 < gN S ∧ gK S k0 = 4 ∧ wX4_number S k0 4 (fun u10 S9 => gSh S9 S → ∃ q13 : Nat, gR S9 k0 0 = some q13 ∧ q13 < gN S9 ∧ gK S9 q13 = 6 ∧ wX6_get S9 q13 (gX S9 k0 2) (fun u18 S17 => gSh S17 S9 → (¬ u18 = 77 → wX4_size_27 Q k0 u10 0 S17) ∧ (u18 = 77 → wX4_size_27 Q k0 u10 1 S17)))
set_option maxHeartbeats 4000000 in
set_option maxRecDepth 100000 in
theorem tX4_size (l : Launch) (S : GS) (k0 : Nat) (Q : Int32 → GS → Prop) (h : wX4_size S k0 Q) : CZ l yX4_size wsX4_size 5 S (gA [vR (some k0)]) (fun r S9 => ∃ x, r = some (vI x) ∧ Q x S9) := by
  refine CZ.ofW (cc := cX4_size) (maxL := 3) (ret := (some .int)) RX4 (by decide) rfl rfl (fun _ _ _ => Nat.le_of_ble_eq_true rfl) ?_
  intro p e s m args below meth c D Y za zv ad A ls hAe hx hb hr hml hts hown hlocks hK hZ hA hG hl
  obtain ⟨S0, hS0⟩ : ∃ z : GS, z = S := ⟨_, rfl⟩
  rw [← hS0] at hAe
  rw [← hS0]
  have hin4 : ∀ w ∈ wsX40, w ∈ wsX4_size := by decide +kernel
  have lk_9 := hts (.fieldLink RX4 9 "PauseLog$Reader" "text" "LPauseLog$Text;") (by decide +kernel)
  have lk_41 := hts (.fieldLink RX4 41 "PauseLog$Reader" "at" "I") (by decide +kernel)
  have b_56 : ∀  (t0 : Int32) (S : GS) (H : Heap) (locs : List Loc) (ls : Array Slot), wX4_size_56 Q k0 t0 S → gSh S S0 → gS D Y ad A s.heap S H locs → lv_has ls 3 [] → W p l e (rmD 5) s m args below meth c H locs 0 0 (MQ below (gE D Y za ad S0 s.heap.size (fun r S9 => ∃ x, r = some (vI x) ∧ Q x S9)) args s 0 0 A) (F0 m 56 ls [.int t0]) := by
    intro  t0 S H locs ls h hsh hG hl
    unfold wX4_size_56 at h
    exact W.iret (v := t0) hx hb hr (fun t ht hW => r_end (r := some (vI t0)) hAe hG hsh ⟨_, rfl, h⟩ rfl ht) hG.2.2.2.2 dX4_size_56
  have b_40 : ∀  (x1 : Int32) (x2 : Int32) (t0 : Nat) (t1 : Nat) (S : GS) (H : Heap) (locs : List Loc) (ls : Array Slot), wX4_size_40 Q k0 x1 x2 t0 t1 S → gSh S S0 → gS D Y ad A s.heap S H locs → lv_has ls 3 [(1, .int x1), (2, .int x2)] → W p l e (rmD 5) s m args below meth c H locs 0 0 (MQ below (gE D Y za ad S0 s.heap.size (fun r S9 => ∃ x, r = some (vI x) ∧ Q x S9)) args s 0 0 A) (F0 m 40 ls [.ref (za t1), .ref (ad t0)]) := by
    intro  x1 x2 t0 t1 S H locs ls h hsh hG hl
    unfold wX4_size_40 at h
    obtain ⟨hk1, hq2, h⟩ := h
    refine z_callV (As := [.ref (za t1)]) (rest := []) (tX4_pass l S t0 t1 _ h) rfl ⟨hx, hb, hml, hown, hts⟩ (cwV 1 hts gX4_size_X4_pass rfl rfl rfl (by decide +kernel) ⟨by decide, by decide⟩) hK hZ hG hA (va_recv hK hG.1 (ci := 4) (q := (RX4, TX4, 3)) rfl (wl_get hk1 (cell_4 hq2))) rfl hl.1 rfl (Nat.le_of_ble_eq_true rfl) ⟨Nat.zero_le _, Nat.zero_le _⟩ dX4_size_40 (fun r_9 S3 H locs hp hs_S3 hG => ?_)
    obtain ⟨rfl, h⟩ := hp
    have h := h hs_S3
    refine W.eq (g2 := F0 m 43 ls []) rfl ?_
    have hsh := hs_S3.tr hsh
    have hk5 := hs_S3.lt hk1
    have hq6 := hs_S3.kd hq2
    refine lv_iload_n hx hb dX4_size_43 rfl (lv_at hl 1 rfl) ?_
    refine lv_if_eq (tgt := 55) hx hb dX4_size_44 (by decide) (fun c_44 => ?_) (fun c_44 => ?_)
    · have h := h.1 c_44
      refine lv_iload_n hx hb dX4_size_55 rfl (lv_at hl 0 rfl) ?_
      exact b_56 x1 S3 H locs ls h hsh hG (lv_sub hl [] rfl)
    · have h := h.2 c_44
      refine lv_iload_n hx hb dX4_size_47 rfl (lv_at hl 0 rfl) ?_
      refine lv_sipush (v := 1024) hx hb dX4_size_48 (by decide) ?_
      refine lv_imul hx hb dX4_size_51 ?_
      refine lv_goto (tgt := 56) hx hb dX4_size_52 (by decide) ?_
      exact b_56 (x1 * 1024) S3 H locs ls h hsh hG (lv_sub hl [] rfl)
  have b_27 : ∀  (x1 : Int32) (t0 : Int32) (S : GS) (H : Heap) (locs : List Loc) (ls : Array Slot), wX4_size_27 Q k0 x1 t0 S → gSh S S0 → gS D Y ad A s.heap S H locs → lv_has ls 3 [(0, .ref (ad k0)), (1, .int x1)] → W p l e (rmD 5) s m args below meth c H locs 0 0 (MQ below (gE D Y za ad S0 s.heap.size (fun r S9 => ∃ x, r = some (vI x) ∧ Q x S9)) args s 0 0 A) (F0 m 27 ls [.int t0]) := by
    intro  x1 t0 S H locs ls h hsh hG hl
    unfold wX4_size_27 at h
    refine lv_istore_n (lv' := [(2, .int t0), (0, .ref (ad k0)), (1, .int x1)]) hx hb dX4_size_27 rfl hl (by decide) rfl (fun ls hl => ?_)
    refine lv_aload_n hx hb dX4_size_28 rfl (lv_at hl 1 rfl) ?_
    refine lv_iload_n hx hb dX4_size_29 rfl (lv_at hl 0 rfl) ?_
    refine lv_if_eq (tgt := 38) hx hb dX4_size_30 (by decide) (fun c_30 => ?_) (fun c_30 => ?_)
    · have h := h.1 c_30
      refine va_ldcS hx hb hown (hZ.2.2.2.1 49 (by decide)) dX4_size_38 ?_
      exact b_40 x1 t0 k0 49 S H locs ls h hsh hG (lv_sub hl [2, 0] rfl)
    · have h := h.2 c_30
      refine va_ldcS hx hb hown (hZ.2.2.2.1 48 (by decide)) dX4_size_33 ?_
      refine lv_goto (tgt := 40) hx hb dX4_size_35 (by decide) ?_
      exact b_40 x1 t0 k0 48 S H locs ls h hsh hG (lv_sub hl [2, 0] rfl)
  have hl : lv_has ls 3 [(0, .ref (ad k0))] := hl
  have hsh : gSh S S0 := by rw [hS0]; exact gSh.rf S
  obtain ⟨H, eH⟩ : ∃ z : Heap, z = s.heap := ⟨_, rfl⟩
  obtain ⟨locs, eL⟩ : ∃ z : List Loc, z = [] := ⟨_, rfl⟩
  have hG : gS D Y ad A s.heap S H locs := by rw [eH, eL]; exact hG
  suffices hgoal : W p l e (rmD 5) s m args below meth c H locs 0 0 (MQ below (gE D Y za ad S0 s.heap.size (fun r S9 => ∃ x, r = some (vI x) ∧ Q x S9)) args s 0 0 A) (F0 m 0 ls []) by rw [eH, eL] at hgoal; exact hgoal
  unfold wX4_size at h
  refine lv_aload_n hx hb dX4_size_0 rfl (lv_at hl 0 rfl) ?_
  refine lv_iconst (v := 4) hx hb dX4_size_1 (by decide) ?_
  obtain ⟨hk7, hq8, h⟩ := h
  refine r_callV (za := za) (k := k0) (ci := 4) (C := RX4) (T := TX4) (N := 3) (As := [vI 4]) (rest := []) (tX4_number l S k0 4 _ h) ⟨hx, hb, hml, hown, hts⟩ (cwV 1 hts gX4_size_X4_number rfl rfl rfl (by decide +kernel) ⟨by decide, by decide⟩) hK hG hA hk7 (cell_4 hq8) rfl rfl hl.1 rfl (Nat.le_of_ble_eq_true rfl) ⟨Nat.zero_le _, Nat.zero_le _⟩ dX4_size_2 (fun r_9 S9 H locs hp hs_S9 hG => ?_)
  obtain ⟨u10, rfl, h⟩ := hp
  have h := h hs_S9
  refine W.eq (g2 := F0 m 5 ls [.int u10]) rfl ?_
  have hsh := hs_S9.tr hsh
  have hk11 := hs_S9.lt hk7
  have hq12 := hs_S9.kd hq8
  refine lv_istore_n (lv' := [(1, .int u10), (0, .ref (ad k0))]) hx hb dX4_size_5 rfl hl (by decide) rfl (fun ls hl => ?_)
  refine lv_aload_n hx hb dX4_size_6 rfl (lv_at hl 1 rfl) ?_
  refine g_get (ci := 4) (C := RX4) (T := TX4) (N := 3) hx hb hts hin4 hown hK hG hk11 (cell_4 hq12) rfl 0 (by decide) lk_9 (fun _ h9 => h9) (v := rv ad (gR S9 k0 0)) rfl dX4_size_7 ?_
  refine lv_aload_n hx hb dX4_size_10 rfl (lv_at hl 1 rfl) ?_
  refine g_get (ci := 4) (C := RX4) (T := TX4) (N := 3) hx hb hts hin4 hown hK hG hk11 (cell_4 hq12) rfl 2 (by decide) lk_41 (fun _ h9 => h9) (v := .int (gX S9 k0 2)) rfl dX4_size_11 ?_
  obtain ⟨q13, e14, h⟩ := h
  refine W.eq (g2 := F0 m 14 ls [.int (gX S9 k0 2), .ref (ad q13)]) (by rw [e14]; rfl) ?_
  obtain ⟨hk15, hq16, h⟩ := h
  refine r_callV (za := za) (k := q13) (ci := 6) (C := RX6) (T := TX6) (N := 2) (As := [vI (gX S9 k0 2)]) (rest := []) (tX6_get l S9 q13 (gX S9 k0 2) _ h) ⟨hx, hb, hml, hown, hts⟩ (cwV 1 hts gX4_size_X6_get rfl rfl rfl (by decide +kernel) ⟨by decide, by decide⟩) hK hG hA hk15 (cell_6 hq16) rfl rfl hl.1 rfl (Nat.le_of_ble_eq_true rfl) ⟨Nat.zero_le _, Nat.zero_le _⟩ dX4_size_14 (fun r_9 S17 H locs hp hs_S17 hG => ?_)
  obtain ⟨u18, rfl, h⟩ := hp
  have h := h hs_S17
  refine W.eq (g2 := F0 m 17 ls [.int u18]) rfl ?_
  have hsh := hs_S17.tr hsh
  have hk19 := hs_S17.lt hk11
  have hq20 := hs_S17.kd hq12
  have hk21 := hs_S17.lt hk15
  have hq22 := hs_S17.kd hq16
  refine lv_bipush (v := 77) hx hb dX4_size_17 (by decide) ?_
  refine lv_icmp_ne (tgt := 26) hx hb dX4_size_19 (by decide) (fun c_19 => ?_) (fun c_19 => ?_)
  · have h := h.1 c_19
    refine lv_iconst (v := 0) hx hb dX4_size_26 (by decide) ?_
    exact b_27 u10 0 S17 H locs ls h hsh hG (lv_sub hl [1, 0] rfl)
  · have h := h.2 c_19
    refine lv_iconst (v := 1) hx hb dX4_size_22 (by decide) ?_
    refine lv_goto (tgt := 27) hx hb dX4_size_23 (by decide) ?_
    exact b_27 u10 1 S17 H locs ls h hsh hG (lv_sub hl [1, 0] rfl)
def wX4_kind_33 (Q : Int32 → GS → Prop) (k0 : Nat) (t0 : Int32) (S : GS) : Prop :=
  wX8_kindWord S t0 (fun u2 S1 => gSh S1 S → k0 < gN S1 ∧ gK S1 k0 = 4 ∧ wX4_pass S1 k0 u2 (fun S5 => gSh S5 S1 → Q t0 S5))
def wX4_kind (S : GS) (k0 : Nat) (Q : Int32 → GS → Prop) : Prop :=
  k0 < gN S ∧ gK S k0 = 4 ∧ ∃ q11 : Nat, gR S k0 0 = some q11 ∧ q11 < gN S ∧ gK S q11 = 6 ∧ wX6_get S q11 (gX S k0 2) (fun u16 S15 => gSh S15 S → (¬ u16 = 77 → (¬ u16 = 70 → wX4_kind_33 Q k0 0 S15) ∧ (u16 = 70 → wX4_kind_33 Q k0 2 S15)) ∧ (u16 = 77 → wX4_kind_33 Q k0 1 S15))
set_option maxHeartbeats 4000000 in
set_option maxRecDepth 100000 in
theorem tX4_kind (l : Launch) (S : GS) (k0 : Nat) (Q : Int32 → GS → Prop) (h : wX4_kind S k0 Q) : CZ l yX4_kind wsX4_kind 5 S (gA [vR (some k0)]) (fun r S9 => ∃ x, r = some (vI x) ∧ Q x S9) := by
  refine CZ.ofW (cc := cX4_kind) (maxL := 3) (ret := (some .int)) RX4 (by decide) rfl rfl (fun _ _ _ => Nat.le_of_ble_eq_true rfl) ?_
  intro p e s m args below meth c D Y za zv ad A ls hAe hx hb hr hml hts hown hlocks hK hZ hA hG hl
  obtain ⟨S0, hS0⟩ : ∃ z : GS, z = S := ⟨_, rfl⟩
  rw [← hS0] at hAe
  rw [← hS0]
  have hin4 : ∀ w ∈ wsX40, w ∈ wsX4_kind := by decide +kernel
  have lk_9 := hts (.fieldLink RX4 9 "PauseLog$Reader" "text" "LPauseLog$Text;") (by decide +kernel)
  have lk_41 := hts (.fieldLink RX4 41 "PauseLog$Reader" "at" "I") (by decide +kernel)
  have b_33 : ∀  (t0 : Int32) (S : GS) (H : Heap) (locs : List Loc) (ls : Array Slot), wX4_kind_33 Q k0 t0 S → gSh S S0 → gS D Y ad A s.heap S H locs → lv_has ls 3 [(0, .ref (ad k0))] → W p l e (rmD 5) s m args below meth c H locs 0 0 (MQ below (gE D Y za ad S0 s.heap.size (fun r S9 => ∃ x, r = some (vI x) ∧ Q x S9)) args s 0 0 A) (F0 m 33 ls [.int t0]) := by
    intro  t0 S H locs ls h hsh hG hl
    unfold wX4_kind_33 at h
    refine lv_istore_n (lv' := [(2, .int t0), (0, .ref (ad k0))]) hx hb dX4_kind_33 rfl hl (by decide) rfl (fun ls hl => ?_)
    refine lv_aload_n hx hb dX4_kind_34 rfl (lv_at hl 1 rfl) ?_
    refine lv_iload_n hx hb dX4_kind_35 rfl (lv_at hl 0 rfl) ?_
    refine z_callSN (As := [.int t0]) (rest := [.ref (ad k0)]) (tX8_kindWord l S t0 _ h) rfl ⟨hx, hb, hml, hown, hts⟩ ⟨va_cnB 1 hts gX4_kind_X8_kindWord_n114 rfl rfl rfl (hZ.2.2.2.2.1 (.methodLinkNest RX4 114 yX8_kindWord "PauseLog") (by decide +kernel)) (hts (.initialized RX8) (by decide +kernel)) (by decide +kernel) ⟨by decide, by decide⟩, hts (.static yX8_kindWord) (by decide +kernel), trivial⟩ hK hZ hG hA rfl hl.1 rfl (Nat.le_of_ble_eq_true rfl) ⟨Nat.zero_le _, Nat.zero_le _⟩ dX4_kind_36 (fun r_9 S1 H locs hp hs_S1 hG => ?_)
    obtain ⟨u2, rfl, h⟩ := hp
    have h := h hs_S1
    refine W.eq (g2 := F0 m 39 ls [.ref (za u2), .ref (ad k0)]) rfl ?_
    have hsh := hs_S1.tr hsh
    obtain ⟨hk3, hq4, h⟩ := h
    refine z_callV (As := [.ref (za u2)]) (rest := []) (tX4_pass l S1 k0 u2 _ h) rfl ⟨hx, hb, hml, hown, hts⟩ (cwV 1 hts gX4_kind_X4_pass rfl rfl rfl (by decide +kernel) ⟨by decide, by decide⟩) hK hZ hG hA (va_recv hK hG.1 (ci := 4) (q := (RX4, TX4, 3)) rfl (wl_get hk3 (cell_4 hq4))) rfl hl.1 rfl (Nat.le_of_ble_eq_true rfl) ⟨Nat.zero_le _, Nat.zero_le _⟩ dX4_kind_39 (fun r_9 S5 H locs hp hs_S5 hG => ?_)
    obtain ⟨rfl, h⟩ := hp
    have h := h hs_S5
    refine W.eq (g2 := F0 m 42 ls []) rfl ?_
    have hsh := hs_S5.tr hsh
    have hk7 := hs_S5.lt hk3
    have hq8 := hs_S5.kd hq4
    refine lv_iload_n hx hb dX4_kind_42 rfl (lv_at hl 0 rfl) ?_
    exact W.iret (v := t0) hx hb hr (fun t ht hW => r_end (r := some (vI t0)) hAe hG hsh ⟨_, rfl, h⟩ rfl ht) hG.2.2.2.2 dX4_kind_43
  have hl : lv_has ls 3 [(0, .ref (ad k0))] := hl
  have hsh : gSh S S0 := by rw [hS0]; exact gSh.rf S
  obtain ⟨H, eH⟩ : ∃ z : Heap, z = s.heap := ⟨_, rfl⟩
  obtain ⟨locs, eL⟩ : ∃ z : List Loc, z = [] := ⟨_, rfl⟩
  have hG : gS D Y ad A s.heap S H locs := by rw [eH, eL]; exact hG
  suffices hgoal : W p l e (rmD 5) s m args below meth c H locs 0 0 (MQ below (gE D Y za ad S0 s.heap.size (fun r S9 => ∃ x, r = some (vI x) ∧ Q x S9)) args s 0 0 A) (F0 m 0 ls []) by rw [eH, eL] at hgoal; exact hgoal
  unfold wX4_kind at h
  refine lv_aload_n hx hb dX4_kind_0 rfl (lv_at hl 0 rfl) ?_
  obtain ⟨hk9, hq10, h⟩ := h
  refine g_get (ci := 4) (C := RX4) (T := TX4) (N := 3) hx hb hts hin4 hown hK hG hk9 (cell_4 hq10) rfl 0 (by decide) lk_9 (fun _ h9 => h9) (v := rv ad (gR S k0 0)) rfl dX4_kind_1 ?_
  refine lv_aload_n hx hb dX4_kind_4 rfl (lv_at hl 0 rfl) ?_
  refine g_get (ci := 4) (C := RX4) (T := TX4) (N := 3) hx hb hts hin4 hown hK hG hk9 (cell_4 hq10) rfl 2 (by decide) lk_41 (fun _ h9 => h9) (v := .int (gX S k0 2)) rfl dX4_kind_5 ?_
  obtain ⟨q11, e12, h⟩ := h
  refine W.eq (g2 := F0 m 8 ls [.int (gX S k0 2), .ref (ad q11)]) (by rw [e12]; rfl) ?_
  obtain ⟨hk13, hq14, h⟩ := h
  refine r_callV (za := za) (k := q11) (ci := 6) (C := RX6) (T := TX6) (N := 2) (As := [vI (gX S k0 2)]) (rest := []) (tX6_get l S q11 (gX S k0 2) _ h) ⟨hx, hb, hml, hown, hts⟩ (cwV 1 hts gX4_kind_X6_get rfl rfl rfl (by decide +kernel) ⟨by decide, by decide⟩) hK hG hA hk13 (cell_6 hq14) rfl rfl hl.1 rfl (Nat.le_of_ble_eq_true rfl) ⟨Nat.zero_le _, Nat.zero_le _⟩ dX4_kind_8 (fun r_9 S15 H locs hp hs_S15 hG => ?_)
  obtain ⟨u16, rfl, h⟩ := hp
  have h := h hs_S15
  refine W.eq (g2 := F0 m 11 ls [.int u16]) rfl ?_
  have hsh := hs_S15.tr hsh
  have hk17 := hs_S15.lt hk9
  have hq18 := hs_S15.kd hq10
  have hk19 := hs_S15.lt hk13
  have hq20 := hs_S15.kd hq14
  refine lv_istore_n (lv' := [(1, .int u16), (0, .ref (ad k0))]) hx hb dX4_kind_11 rfl hl (by decide) rfl (fun ls hl => ?_)
  refine lv_iload_n hx hb dX4_kind_12 rfl (lv_at hl 0 rfl) ?_
  refine lv_bipush (v := 77) hx hb dX4_kind_13 (by decide) ?_
  refine lv_icmp_ne (tgt := 22) hx hb dX4_kind_15 (by decide) (fun c_15 => ?_) (fun c_15 => ?_)
  · have h := h.1 c_15
    refine lv_iload_n hx hb dX4_kind_22 rfl (lv_at hl 0 rfl) ?_
    refine lv_bipush (v := 70) hx hb dX4_kind_23 (by decide) ?_
    refine lv_icmp_ne (tgt := 32) hx hb dX4_kind_25 (by decide) (fun c_25 => ?_) (fun c_25 => ?_)
    · have h := h.1 c_25
      refine lv_iconst (v := 0) hx hb dX4_kind_32 (by decide) ?_
      exact b_33 0 S15 H locs ls h hsh hG (lv_sub hl [1] rfl)
    · have h := h.2 c_25
      refine lv_iconst (v := 2) hx hb dX4_kind_28 (by decide) ?_
      refine lv_goto (tgt := 33) hx hb dX4_kind_29 (by decide) ?_
      exact b_33 2 S15 H locs ls h hsh hG (lv_sub hl [1] rfl)
  · have h := h.2 c_15
    refine lv_iconst (v := 1) hx hb dX4_kind_18 (by decide) ?_
    refine lv_goto (tgt := 33) hx hb dX4_kind_19 (by decide) ?_
    exact b_33 1 S15 H locs ls h hsh hG (lv_sub hl [1] rfl)
def wX4_cause_33 (Q : Int32 → GS → Prop) (k0 : Nat) (t0 : Int32) (S : GS) : Prop :=
  wX8_causeWord S t0 (fun u2 S1 => gSh S1 S → k0 < gN S1 ∧ gK S1 k0 = 4 ∧ wX4_pass S1 k0 u2 (fun S5 => gSh S5 S1 → Q t0 S5))
def wX4_cause (S : GS) (k0 : Nat) (Q : Int32 → GS → Prop) : Prop :=
  k0 < gN S ∧ gK S k0 = 4 ∧ ∃ q11 : Nat, gR S k0 0 = some q11 ∧ q11 < gN S ∧ gK S q11 = 6 ∧ wX6_get S q11 (gX S k0 2) (fun u16 S15 => gSh S15 S → (¬ u16 = 77 → (¬ u16 = 85 → wX4_cause_33 Q k0 0 S15) ∧ (u16 = 85 → wX4_cause_33 Q k0 2 S15)) ∧ (u16 = 77 → wX4_cause_33 Q k0 1 S15))
set_option maxHeartbeats 4000000 in
set_option maxRecDepth 100000 in
theorem tX4_cause (l : Launch) (S : GS) (k0 : Nat) (Q : Int32 → GS → Prop) (h : wX4_cause S k0 Q) : CZ l yX4_cause wsX4_cause 5 S (gA [vR (some k0)]) (fun r S9 => ∃ x, r = some (vI x) ∧ Q x S9) := by
  refine CZ.ofW (cc := cX4_cause) (maxL := 3) (ret := (some .int)) RX4 (by decide) rfl rfl (fun _ _ _ => Nat.le_of_ble_eq_true rfl) ?_
  intro p e s m args below meth c D Y za zv ad A ls hAe hx hb hr hml hts hown hlocks hK hZ hA hG hl
  obtain ⟨S0, hS0⟩ : ∃ z : GS, z = S := ⟨_, rfl⟩
  rw [← hS0] at hAe
  rw [← hS0]
  have hin4 : ∀ w ∈ wsX40, w ∈ wsX4_cause := by decide +kernel
  have lk_9 := hts (.fieldLink RX4 9 "PauseLog$Reader" "text" "LPauseLog$Text;") (by decide +kernel)
  have lk_41 := hts (.fieldLink RX4 41 "PauseLog$Reader" "at" "I") (by decide +kernel)
  have b_33 : ∀  (t0 : Int32) (S : GS) (H : Heap) (locs : List Loc) (ls : Array Slot), wX4_cause_33 Q k0 t0 S → gSh S S0 → gS D Y ad A s.heap S H locs → lv_has ls 3 [(0, .ref (ad k0))] → W p l e (rmD 5) s m args below meth c H locs 0 0 (MQ below (gE D Y za ad S0 s.heap.size (fun r S9 => ∃ x, r = some (vI x) ∧ Q x S9)) args s 0 0 A) (F0 m 33 ls [.int t0]) := by
    intro  t0 S H locs ls h hsh hG hl
    unfold wX4_cause_33 at h
    refine lv_istore_n (lv' := [(2, .int t0), (0, .ref (ad k0))]) hx hb dX4_cause_33 rfl hl (by decide) rfl (fun ls hl => ?_)
    refine lv_aload_n hx hb dX4_cause_34 rfl (lv_at hl 1 rfl) ?_
    refine lv_iload_n hx hb dX4_cause_35 rfl (lv_at hl 0 rfl) ?_
    refine z_callSN (As := [.int t0]) (rest := [.ref (ad k0)]) (tX8_causeWord l S t0 _ h) rfl ⟨hx, hb, hml, hown, hts⟩ ⟨va_cnB 1 hts gX4_cause_X8_causeWord_n118 rfl rfl rfl (hZ.2.2.2.2.1 (.methodLinkNest RX4 118 yX8_causeWord "PauseLog") (by decide +kernel)) (hts (.initialized RX8) (by decide +kernel)) (by decide +kernel) ⟨by decide, by decide⟩, hts (.static yX8_causeWord) (by decide +kernel), trivial⟩ hK hZ hG hA rfl hl.1 rfl (Nat.le_of_ble_eq_true rfl) ⟨Nat.zero_le _, Nat.zero_le _⟩ dX4_cause_36 (fun r_9 S1 H locs hp hs_S1 hG => ?_)
    obtain ⟨u2, rfl, h⟩ := hp
    have h := h hs_S1
    refine W.eq (g2 := F0 m 39 ls [.ref (za u2), .ref (ad k0)]) rfl ?_
    have hsh := hs_S1.tr hsh
    obtain ⟨hk3, hq4, h⟩ := h
    refine z_callV (As := [.ref (za u2)]) (rest := []) (tX4_pass l S1 k0 u2 _ h) rfl ⟨hx, hb, hml, hown, hts⟩ (cwV 1 hts gX4_cause_X4_pass rfl rfl rfl (by decide +kernel) ⟨by decide, by decide⟩) hK hZ hG hA (va_recv hK hG.1 (ci := 4) (q := (RX4, TX4, 3)) rfl (wl_get hk3 (cell_4 hq4))) rfl hl.1 rfl (Nat.le_of_ble_eq_true rfl) ⟨Nat.zero_le _, Nat.zero_le _⟩ dX4_cause_39 (fun r_9 S5 H locs hp hs_S5 hG => ?_)
    obtain ⟨rfl, h⟩ := hp
    have h := h hs_S5
    refine W.eq (g2 := F0 m 42 ls []) rfl ?_
    have hsh := hs_S5.tr hsh
    have hk7 := hs_S5.lt hk3
    have hq8 := hs_S5.kd hq4
    refine lv_iload_n hx hb dX4_cause_42 rfl (lv_at hl 0 rfl) ?_
    exact W.iret (v := t0) hx hb hr (fun t ht hW => r_end (r := some (vI t0)) hAe hG hsh ⟨_, rfl, h⟩ rfl ht) hG.2.2.2.2 dX4_cause_43
  have hl : lv_has ls 3 [(0, .ref (ad k0))] := hl
  have hsh : gSh S S0 := by rw [hS0]; exact gSh.rf S
  obtain ⟨H, eH⟩ : ∃ z : Heap, z = s.heap := ⟨_, rfl⟩
  obtain ⟨locs, eL⟩ : ∃ z : List Loc, z = [] := ⟨_, rfl⟩
  have hG : gS D Y ad A s.heap S H locs := by rw [eH, eL]; exact hG
  suffices hgoal : W p l e (rmD 5) s m args below meth c H locs 0 0 (MQ below (gE D Y za ad S0 s.heap.size (fun r S9 => ∃ x, r = some (vI x) ∧ Q x S9)) args s 0 0 A) (F0 m 0 ls []) by rw [eH, eL] at hgoal; exact hgoal
  unfold wX4_cause at h
  refine lv_aload_n hx hb dX4_cause_0 rfl (lv_at hl 0 rfl) ?_
  obtain ⟨hk9, hq10, h⟩ := h
  refine g_get (ci := 4) (C := RX4) (T := TX4) (N := 3) hx hb hts hin4 hown hK hG hk9 (cell_4 hq10) rfl 0 (by decide) lk_9 (fun _ h9 => h9) (v := rv ad (gR S k0 0)) rfl dX4_cause_1 ?_
  refine lv_aload_n hx hb dX4_cause_4 rfl (lv_at hl 0 rfl) ?_
  refine g_get (ci := 4) (C := RX4) (T := TX4) (N := 3) hx hb hts hin4 hown hK hG hk9 (cell_4 hq10) rfl 2 (by decide) lk_41 (fun _ h9 => h9) (v := .int (gX S k0 2)) rfl dX4_cause_5 ?_
  obtain ⟨q11, e12, h⟩ := h
  refine W.eq (g2 := F0 m 8 ls [.int (gX S k0 2), .ref (ad q11)]) (by rw [e12]; rfl) ?_
  obtain ⟨hk13, hq14, h⟩ := h
  refine r_callV (za := za) (k := q11) (ci := 6) (C := RX6) (T := TX6) (N := 2) (As := [vI (gX S k0 2)]) (rest := []) (tX6_get l S q11 (gX S k0 2) _ h) ⟨hx, hb, hml, hown, hts⟩ (cwV 1 hts gX4_cause_X6_get rfl rfl rfl (by decide +kernel) ⟨by decide, by decide⟩) hK hG hA hk13 (cell_6 hq14) rfl rfl hl.1 rfl (Nat.le_of_ble_eq_true rfl) ⟨Nat.zero_le _, Nat.zero_le _⟩ dX4_cause_8 (fun r_9 S15 H locs hp hs_S15 hG => ?_)
  obtain ⟨u16, rfl, h⟩ := hp
  have h := h hs_S15
  refine W.eq (g2 := F0 m 11 ls [.int u16]) rfl ?_
  have hsh := hs_S15.tr hsh
  have hk17 := hs_S15.lt hk9
  have hq18 := hs_S15.kd hq10
  have hk19 := hs_S15.lt hk13
  have hq20 := hs_S15.kd hq14
  refine lv_istore_n (lv' := [(1, .int u16), (0, .ref (ad k0))]) hx hb dX4_cause_11 rfl hl (by decide) rfl (fun ls hl => ?_)
  refine lv_iload_n hx hb dX4_cause_12 rfl (lv_at hl 0 rfl) ?_
  refine lv_bipush (v := 77) hx hb dX4_cause_13 (by decide) ?_
  refine lv_icmp_ne (tgt := 22) hx hb dX4_cause_15 (by decide) (fun c_15 => ?_) (fun c_15 => ?_)
  · have h := h.1 c_15
    refine lv_iload_n hx hb dX4_cause_22 rfl (lv_at hl 0 rfl) ?_
    refine lv_bipush (v := 85) hx hb dX4_cause_23 (by decide) ?_
    refine lv_icmp_ne (tgt := 32) hx hb dX4_cause_25 (by decide) (fun c_25 => ?_) (fun c_25 => ?_)
    · have h := h.1 c_25
      refine lv_iconst (v := 0) hx hb dX4_cause_32 (by decide) ?_
      exact b_33 0 S15 H locs ls h hsh hG (lv_sub hl [1] rfl)
    · have h := h.2 c_25
      refine lv_iconst (v := 2) hx hb dX4_cause_28 (by decide) ?_
      refine lv_goto (tgt := 33) hx hb dX4_cause_29 (by decide) ?_
      exact b_33 2 S15 H locs ls h hsh hG (lv_sub hl [1] rfl)
  · have h := h.2 c_15
    refine lv_iconst (v := 1) hx hb dX4_cause_18 (by decide) ?_
    refine lv_goto (tgt := 33) hx hb dX4_cause_19 (by decide) ?_
    exact b_33 1 S15 H locs ls h hsh hG (lv_sub hl [1] rfl)
def wX4_readSizes (S : GS) (k0 : Nat) (x1 : Nat) (Q : GS → Prop) : Prop :=
  k0 < gN S ∧ gK S k0 = 4 ∧ wX4_size S k0  (fun u4 S3 => gSh S3 S → x1 < gN S3 ∧ gK S3 x1 = 1 ∧ ∀ S9 : GS, S9 = sX S3 x1 5 u4 → wX4_pass S9 k0 47 (fun S14 => gSh S14 S9 → wX4_size S14 k0  (fun u21 S20 => gSh S20 S14 → ∀ S26 : GS, S26 = sX S20 x1 6 u21 → Q S26)))
set_option maxHeartbeats 4000000 in
set_option maxRecDepth 100000 in
theorem tX4_readSizes (l : Launch) (S : GS) (k0 : Nat) (x1 : Nat) (Q : GS → Prop) (h : wX4_readSizes S k0 x1 Q) : CZ l yX4_readSizes wsX4_readSizes 6 S (gA [vR (some k0), vR (some x1)]) (fun r S9 => r = none ∧ Q S9) := by
  refine CZ.ofW (cc := cX4_readSizes) (maxL := 2) (ret := none) RX4 (by decide) rfl rfl (fun _ _ _ => Nat.le_of_ble_eq_true rfl) ?_
  intro p e s m args below meth c D Y za zv ad A ls hAe hx hb hr hml hts hown hlocks hK hZ hA hG hl
  obtain ⟨S0, hS0⟩ : ∃ z : GS, z = S := ⟨_, rfl⟩
  rw [← hS0] at hAe
  rw [← hS0]
  have hin1 : ∀ w ∈ wsX10, w ∈ wsX4_readSizes := by decide +kernel
  have lk_106 := hts (.fieldLink RX4 106 "PauseLog$Entry" "before" "I") (by decide +kernel)
  have lk_111 := hts (.fieldLink RX4 111 "PauseLog$Entry" "after" "I") (by decide +kernel)
  have hl : lv_has ls 2 [(0, .ref (ad k0)), (1, .ref (ad x1))] := hl
  have hsh : gSh S S0 := by rw [hS0]; exact gSh.rf S
  obtain ⟨H, eH⟩ : ∃ z : Heap, z = s.heap := ⟨_, rfl⟩
  obtain ⟨locs, eL⟩ : ∃ z : List Loc, z = [] := ⟨_, rfl⟩
  have hG : gS D Y ad A s.heap S H locs := by rw [eH, eL]; exact hG
  suffices hgoal : W p l e (rmD 6) s m args below meth c H locs 0 0 (MQ below (gE D Y za ad S0 s.heap.size (fun r S9 => r = none ∧ Q S9)) args s 0 0 A) (F0 m 0 ls []) by rw [eH, eL] at hgoal; exact hgoal
  unfold wX4_readSizes at h
  refine lv_aload_n hx hb dX4_readSizes_0 rfl (lv_at hl 1 rfl) ?_
  refine lv_aload_n hx hb dX4_readSizes_1 rfl (lv_at hl 0 rfl) ?_
  obtain ⟨hk1, hq2, h⟩ := h
  refine z_callV (As := []) (rest := [.ref (ad x1)]) (tX4_size l S k0  _ h) rfl ⟨hx, hb, hml, hown, hts⟩ (cwV 0 hts gX4_readSizes_X4_size rfl rfl rfl (by decide +kernel) ⟨by decide, by decide⟩) hK hZ hG hA (va_recv hK hG.1 (ci := 4) (q := (RX4, TX4, 3)) rfl (wl_get hk1 (cell_4 hq2))) rfl hl.1 rfl (Nat.le_of_ble_eq_true rfl) ⟨Nat.zero_le _, Nat.zero_le _⟩ dX4_readSizes_2 (fun r_9 S3 H locs hp hs_S3 hG => ?_)
  obtain ⟨u4, rfl, h⟩ := hp
  have h := h hs_S3
  refine W.eq (g2 := F0 m 5 ls [.int u4, .ref (ad x1)]) rfl ?_
  have hsh := hs_S3.tr hsh
  have hk5 := hs_S3.lt hk1
  have hq6 := hs_S3.kd hq2
  obtain ⟨hk7, hq8, h⟩ := h
  refine r_put (ci := 1) (C := RX1) (T := TX1) (N := 9) hx hb hts hin1 tyX1 tyX1_ok nmX1 hown hK hG hk7 (cell_1 hq8) rfl 5 (by decide) lk_106 (fun _ h9 => h9) rfl rfl rfl (Nat.le_of_ble_eq_true rfl) (S' := sX S3 x1 5 u4) rfl (pu_1_5 hq8 u4) dX4_readSizes_5 (fun H locs hG => ?_)
  obtain ⟨S9, eS_S9⟩ : ∃ z : GS, z = sX S3 x1 5 u4 := ⟨_, rfl⟩
  have h := h S9 eS_S9
  rw [← eS_S9] at hG
  have hs_S9 : gSh S9 S3 := by rw [eS_S9]; exact gSh.x _ _ _ _
  have hsh := hs_S9.tr hsh
  have hk10 := hs_S9.lt hk5
  have hq11 := hs_S9.kd hq6
  have hk12 := hs_S9.lt hk7
  have hq13 := hs_S9.kd hq8
  refine lv_aload_n hx hb dX4_readSizes_8 rfl (lv_at hl 0 rfl) ?_
  refine va_ldcS hx hb hown (hZ.2.2.2.1 47 (by decide)) dX4_readSizes_9 ?_
  refine z_callV (As := [.ref (za 47)]) (rest := []) (tX4_pass l S9 k0 47 _ h) rfl ⟨hx, hb, hml, hown, hts⟩ (cwV 1 hts gX4_readSizes_X4_pass rfl rfl rfl (by decide +kernel) ⟨by decide, by decide⟩) hK hZ hG hA (va_recv hK hG.1 (ci := 4) (q := (RX4, TX4, 3)) rfl (wl_get hk10 (cell_4 hq11))) rfl hl.1 rfl (Nat.le_of_ble_eq_true rfl) ⟨Nat.zero_le _, Nat.zero_le _⟩ dX4_readSizes_11 (fun r_9 S14 H locs hp hs_S14 hG => ?_)
  obtain ⟨rfl, h⟩ := hp
  have h := h hs_S14
  refine W.eq (g2 := F0 m 14 ls []) rfl ?_
  have hsh := hs_S14.tr hsh
  have hk16 := hs_S14.lt hk10
  have hq17 := hs_S14.kd hq11
  have hk18 := hs_S14.lt hk12
  have hq19 := hs_S14.kd hq13
  refine lv_aload_n hx hb dX4_readSizes_14 rfl (lv_at hl 1 rfl) ?_
  refine lv_aload_n hx hb dX4_readSizes_15 rfl (lv_at hl 0 rfl) ?_
  refine z_callV (As := []) (rest := [.ref (ad x1)]) (tX4_size l S14 k0  _ h) rfl ⟨hx, hb, hml, hown, hts⟩ (cwV 0 hts gX4_readSizes_X4_size rfl rfl rfl (by decide +kernel) ⟨by decide, by decide⟩) hK hZ hG hA (va_recv hK hG.1 (ci := 4) (q := (RX4, TX4, 3)) rfl (wl_get hk16 (cell_4 hq17))) rfl hl.1 rfl (Nat.le_of_ble_eq_true rfl) ⟨Nat.zero_le _, Nat.zero_le _⟩ dX4_readSizes_16 (fun r_9 S20 H locs hp hs_S20 hG => ?_)
  obtain ⟨u21, rfl, h⟩ := hp
  have h := h hs_S20
  refine W.eq (g2 := F0 m 19 ls [.int u21, .ref (ad x1)]) rfl ?_
  have hsh := hs_S20.tr hsh
  have hk22 := hs_S20.lt hk16
  have hq23 := hs_S20.kd hq17
  have hk24 := hs_S20.lt hk18
  have hq25 := hs_S20.kd hq19
  refine r_put (ci := 1) (C := RX1) (T := TX1) (N := 9) hx hb hts hin1 tyX1 tyX1_ok nmX1 hown hK hG hk24 (cell_1 hq25) rfl 6 (by decide) lk_111 (fun _ h9 => h9) rfl rfl rfl (Nat.le_of_ble_eq_true rfl) (S' := sX S20 x1 6 u21) rfl (pu_1_6 hq25 u21) dX4_readSizes_19 (fun H locs hG => ?_)
  obtain ⟨S26, eS_S26⟩ : ∃ z : GS, z = sX S20 x1 6 u21 := ⟨_, rfl⟩
  have h := h S26 eS_S26
  rw [← eS_S26] at hG
  have hs_S26 : gSh S26 S20 := by rw [eS_S26]; exact gSh.x _ _ _ _
  have hsh := hs_S26.tr hsh
  have hk27 := hs_S26.lt hk22
  have hq28 := hs_S26.kd hq23
  have hk29 := hs_S26.lt hk24
  have hq30 := hs_S26.kd hq25
  exact W.vret hx hb hr (fun t ht hW => r_end (r := none) hAe hG hsh ⟨rfl, h⟩ rfl ht) hG.2.2.2.2 dX4_readSizes_22
def wX4_readRestOfPause (S : GS) (k0 : Nat) (x1 : Nat) (Q : GS → Prop) : Prop :=
  k0 < gN S ∧ gK S k0 = 4 ∧ wX4_isAtEnd S k0  (fun u4 S3 => gSh S3 S → (u4 = 0 → x1 < gN S3 ∧ gK S3 x1 = 1 ∧ ∀ S9 : GS, S9 = sX S3 x1 0 1 → wX4_pass S9 k0 44 (fun S14 => gSh S14 S9 → wX4_readSizes S14 k0 x1 (fun S20 => gSh S20 S14 → wX4_pass S20 k0 46 (fun S26 => gSh S26 S20 → wX4_size S26 k0  (fun u33 S32 => gSh S32 S26 → ∀ S38 : GS, S38 = sX S32 x1 7 u33 → wX4_pass S38 k0 37 (fun S43 => gSh S43 S38 → wX4_took S43 k0  (fun u50 S49 => gSh S49 S43 → ∀ S55 : GS, S55 = sX S49 x1 8 u50 → Q S55))))))) ∧ (¬ u4 = 0 → x1 < gN S3 ∧ gK S3 x1 = 1 ∧ ∀ S62 : GS, S62 = sX S3 x1 0 0 → Q S62))
set_option maxHeartbeats 4000000 in
set_option maxRecDepth 100000 in
theorem tX4_readRestOfPause (l : Launch) (S : GS) (k0 : Nat) (x1 : Nat) (Q : GS → Prop) (h : wX4_readRestOfPause S k0 x1 Q) : CZ l yX4_readRestOfPause wsX4_readRestOfPause 7 S (gA [vR (some k0), vR (some x1)]) (fun r S9 => r = none ∧ Q S9) := by
  refine CZ.ofW (cc := cX4_readRestOfPause) (maxL := 2) (ret := none) RX4 (by decide) rfl rfl (fun _ _ _ => Nat.le_of_ble_eq_true rfl) ?_
  intro p e s m args below meth c D Y za zv ad A ls hAe hx hb hr hml hts hown hlocks hK hZ hA hG hl
  obtain ⟨S0, hS0⟩ : ∃ z : GS, z = S := ⟨_, rfl⟩
  rw [← hS0] at hAe
  rw [← hS0]
  have hin1 : ∀ w ∈ wsX10, w ∈ wsX4_readRestOfPause := by decide +kernel
  have lk_51 := hts (.fieldLink RX4 51 "PauseLog$Entry" "shape" "I") (by decide +kernel)
  have lk_103 := hts (.fieldLink RX4 103 "PauseLog$Entry" "capacity" "I") (by decide +kernel)
  have lk_96 := hts (.fieldLink RX4 96 "PauseLog$Entry" "took" "I") (by decide +kernel)
  have hl : lv_has ls 2 [(0, .ref (ad k0)), (1, .ref (ad x1))] := hl
  have hsh : gSh S S0 := by rw [hS0]; exact gSh.rf S
  obtain ⟨H, eH⟩ : ∃ z : Heap, z = s.heap := ⟨_, rfl⟩
  obtain ⟨locs, eL⟩ : ∃ z : List Loc, z = [] := ⟨_, rfl⟩
  have hG : gS D Y ad A s.heap S H locs := by rw [eH, eL]; exact hG
  suffices hgoal : W p l e (rmD 7) s m args below meth c H locs 0 0 (MQ below (gE D Y za ad S0 s.heap.size (fun r S9 => r = none ∧ Q S9)) args s 0 0 A) (F0 m 0 ls []) by rw [eH, eL] at hgoal; exact hgoal
  unfold wX4_readRestOfPause at h
  refine lv_aload_n hx hb dX4_readRestOfPause_0 rfl (lv_at hl 0 rfl) ?_
  obtain ⟨hk1, hq2, h⟩ := h
  refine r_callV (za := za) (k := k0) (ci := 4) (C := RX4) (T := TX4) (N := 3) (As := []) (rest := []) (tX4_isAtEnd l S k0  _ h) ⟨hx, hb, hml, hown, hts⟩ (cwV 0 hts gX4_readRestOfPause_X4_isAtEnd rfl rfl rfl (by decide +kernel) ⟨by decide, by decide⟩) hK hG hA hk1 (cell_4 hq2) rfl rfl hl.1 rfl (Nat.le_of_ble_eq_true rfl) ⟨Nat.zero_le _, Nat.zero_le _⟩ dX4_readRestOfPause_1 (fun r_9 S3 H locs hp hs_S3 hG => ?_)
  obtain ⟨u4, rfl, h⟩ := hp
  have h := h hs_S3
  refine W.eq (g2 := F0 m 4 ls [.int u4]) rfl ?_
  have hsh := hs_S3.tr hsh
  have hk5 := hs_S3.lt hk1
  have hq6 := hs_S3.kd hq2
  refine lv_if_eq (tgt := 13) hx hb dX4_readRestOfPause_4 (by decide) (fun c_4 => ?_) (fun c_4 => ?_)
  · have h := h.1 c_4
    refine lv_aload_n hx hb dX4_readRestOfPause_13 rfl (lv_at hl 1 rfl) ?_
    refine lv_iconst (v := 1) hx hb dX4_readRestOfPause_14 (by decide) ?_
    obtain ⟨hk7, hq8, h⟩ := h
    refine r_put (ci := 1) (C := RX1) (T := TX1) (N := 9) hx hb hts hin1 tyX1 tyX1_ok nmX1 hown hK hG hk7 (cell_1 hq8) rfl 0 (by decide) lk_51 (fun _ h9 => h9) rfl rfl rfl (Nat.le_of_ble_eq_true rfl) (S' := sX S3 x1 0 1) rfl (pu_1_0 hq8 1) dX4_readRestOfPause_15 (fun H locs hG => ?_)
    obtain ⟨S9, eS_S9⟩ : ∃ z : GS, z = sX S3 x1 0 1 := ⟨_, rfl⟩
    have h := h S9 eS_S9
    rw [← eS_S9] at hG
    have hs_S9 : gSh S9 S3 := by rw [eS_S9]; exact gSh.x _ _ _ _
    have hsh := hs_S9.tr hsh
    have hk10 := hs_S9.lt hk5
    have hq11 := hs_S9.kd hq6
    have hk12 := hs_S9.lt hk7
    have hq13 := hs_S9.kd hq8
    refine lv_aload_n hx hb dX4_readRestOfPause_18 rfl (lv_at hl 0 rfl) ?_
    refine va_ldcS hx hb hown (hZ.2.2.2.1 44 (by decide)) dX4_readRestOfPause_19 ?_
    refine z_callV (As := [.ref (za 44)]) (rest := []) (tX4_pass l S9 k0 44 _ h) rfl ⟨hx, hb, hml, hown, hts⟩ (cwV 1 hts gX4_readRestOfPause_X4_pass rfl rfl rfl (by decide +kernel) ⟨by decide, by decide⟩) hK hZ hG hA (va_recv hK hG.1 (ci := 4) (q := (RX4, TX4, 3)) rfl (wl_get hk10 (cell_4 hq11))) rfl hl.1 rfl (Nat.le_of_ble_eq_true rfl) ⟨Nat.zero_le _, Nat.zero_le _⟩ dX4_readRestOfPause_21 (fun r_9 S14 H locs hp hs_S14 hG => ?_)
    obtain ⟨rfl, h⟩ := hp
    have h := h hs_S14
    refine W.eq (g2 := F0 m 24 ls []) rfl ?_
    have hsh := hs_S14.tr hsh
    have hk16 := hs_S14.lt hk10
    have hq17 := hs_S14.kd hq11
    have hk18 := hs_S14.lt hk12
    have hq19 := hs_S14.kd hq13
    refine lv_aload_n hx hb dX4_readRestOfPause_24 rfl (lv_at hl 0 rfl) ?_
    refine lv_aload_n hx hb dX4_readRestOfPause_25 rfl (lv_at hl 1 rfl) ?_
    refine z_callV (As := [.ref (ad x1)]) (rest := []) (tX4_readSizes l S14 k0 x1 _ h) rfl ⟨hx, hb, hml, hown, hts⟩ (cwV 1 hts gX4_readRestOfPause_X4_readSizes rfl rfl rfl (by decide +kernel) ⟨by decide, by decide⟩) hK hZ hG hA (va_recv hK hG.1 (ci := 4) (q := (RX4, TX4, 3)) rfl (wl_get hk16 (cell_4 hq17))) rfl hl.1 rfl (Nat.le_of_ble_eq_true rfl) ⟨Nat.zero_le _, Nat.zero_le _⟩ dX4_readRestOfPause_26 (fun r_9 S20 H locs hp hs_S20 hG => ?_)
    obtain ⟨rfl, h⟩ := hp
    have h := h hs_S20
    refine W.eq (g2 := F0 m 29 ls []) rfl ?_
    have hsh := hs_S20.tr hsh
    have hk22 := hs_S20.lt hk16
    have hq23 := hs_S20.kd hq17
    have hk24 := hs_S20.lt hk18
    have hq25 := hs_S20.kd hq19
    refine lv_aload_n hx hb dX4_readRestOfPause_29 rfl (lv_at hl 0 rfl) ?_
    refine va_ldcS hx hb hown (hZ.2.2.2.1 46 (by decide)) dX4_readRestOfPause_30 ?_
    refine z_callV (As := [.ref (za 46)]) (rest := []) (tX4_pass l S20 k0 46 _ h) rfl ⟨hx, hb, hml, hown, hts⟩ (cwV 1 hts gX4_readRestOfPause_X4_pass rfl rfl rfl (by decide +kernel) ⟨by decide, by decide⟩) hK hZ hG hA (va_recv hK hG.1 (ci := 4) (q := (RX4, TX4, 3)) rfl (wl_get hk22 (cell_4 hq23))) rfl hl.1 rfl (Nat.le_of_ble_eq_true rfl) ⟨Nat.zero_le _, Nat.zero_le _⟩ dX4_readRestOfPause_32 (fun r_9 S26 H locs hp hs_S26 hG => ?_)
    obtain ⟨rfl, h⟩ := hp
    have h := h hs_S26
    refine W.eq (g2 := F0 m 35 ls []) rfl ?_
    have hsh := hs_S26.tr hsh
    have hk28 := hs_S26.lt hk22
    have hq29 := hs_S26.kd hq23
    have hk30 := hs_S26.lt hk24
    have hq31 := hs_S26.kd hq25
    refine lv_aload_n hx hb dX4_readRestOfPause_35 rfl (lv_at hl 1 rfl) ?_
    refine lv_aload_n hx hb dX4_readRestOfPause_36 rfl (lv_at hl 0 rfl) ?_
    refine z_callV (As := []) (rest := [.ref (ad x1)]) (tX4_size l S26 k0  _ h) rfl ⟨hx, hb, hml, hown, hts⟩ (cwV 0 hts gX4_readRestOfPause_X4_size rfl rfl rfl (by decide +kernel) ⟨by decide, by decide⟩) hK hZ hG hA (va_recv hK hG.1 (ci := 4) (q := (RX4, TX4, 3)) rfl (wl_get hk28 (cell_4 hq29))) rfl hl.1 rfl (Nat.le_of_ble_eq_true rfl) ⟨Nat.zero_le _, Nat.zero_le _⟩ dX4_readRestOfPause_37 (fun r_9 S32 H locs hp hs_S32 hG => ?_)
    obtain ⟨u33, rfl, h⟩ := hp
    have h := h hs_S32
    refine W.eq (g2 := F0 m 40 ls [.int u33, .ref (ad x1)]) rfl ?_
    have hsh := hs_S32.tr hsh
    have hk34 := hs_S32.lt hk28
    have hq35 := hs_S32.kd hq29
    have hk36 := hs_S32.lt hk30
    have hq37 := hs_S32.kd hq31
    refine r_put (ci := 1) (C := RX1) (T := TX1) (N := 9) hx hb hts hin1 tyX1 tyX1_ok nmX1 hown hK hG hk36 (cell_1 hq37) rfl 7 (by decide) lk_103 (fun _ h9 => h9) rfl rfl rfl (Nat.le_of_ble_eq_true rfl) (S' := sX S32 x1 7 u33) rfl (pu_1_7 hq37 u33) dX4_readRestOfPause_40 (fun H locs hG => ?_)
    obtain ⟨S38, eS_S38⟩ : ∃ z : GS, z = sX S32 x1 7 u33 := ⟨_, rfl⟩
    have h := h S38 eS_S38
    rw [← eS_S38] at hG
    have hs_S38 : gSh S38 S32 := by rw [eS_S38]; exact gSh.x _ _ _ _
    have hsh := hs_S38.tr hsh
    have hk39 := hs_S38.lt hk34
    have hq40 := hs_S38.kd hq35
    have hk41 := hs_S38.lt hk36
    have hq42 := hs_S38.kd hq37
    refine lv_aload_n hx hb dX4_readRestOfPause_43 rfl (lv_at hl 0 rfl) ?_
    refine va_ldcS hx hb hown (hZ.2.2.2.1 37 (by decide)) dX4_readRestOfPause_44 ?_
    refine z_callV (As := [.ref (za 37)]) (rest := []) (tX4_pass l S38 k0 37 _ h) rfl ⟨hx, hb, hml, hown, hts⟩ (cwV 1 hts gX4_readRestOfPause_X4_pass rfl rfl rfl (by decide +kernel) ⟨by decide, by decide⟩) hK hZ hG hA (va_recv hK hG.1 (ci := 4) (q := (RX4, TX4, 3)) rfl (wl_get hk39 (cell_4 hq40))) rfl hl.1 rfl (Nat.le_of_ble_eq_true rfl) ⟨Nat.zero_le _, Nat.zero_le _⟩ dX4_readRestOfPause_46 (fun r_9 S43 H locs hp hs_S43 hG => ?_)
    obtain ⟨rfl, h⟩ := hp
    have h := h hs_S43
    refine W.eq (g2 := F0 m 49 ls []) rfl ?_
    have hsh := hs_S43.tr hsh
    have hk45 := hs_S43.lt hk39
    have hq46 := hs_S43.kd hq40
    have hk47 := hs_S43.lt hk41
    have hq48 := hs_S43.kd hq42
    refine lv_aload_n hx hb dX4_readRestOfPause_49 rfl (lv_at hl 1 rfl) ?_
    refine lv_aload_n hx hb dX4_readRestOfPause_50 rfl (lv_at hl 0 rfl) ?_
    refine z_callV (As := []) (rest := [.ref (ad x1)]) (tX4_took l S43 k0  _ h) rfl ⟨hx, hb, hml, hown, hts⟩ (cwV 0 hts gX4_readRestOfPause_X4_took rfl rfl rfl (by decide +kernel) ⟨by decide, by decide⟩) hK hZ hG hA (va_recv hK hG.1 (ci := 4) (q := (RX4, TX4, 3)) rfl (wl_get hk45 (cell_4 hq46))) rfl hl.1 rfl (Nat.le_of_ble_eq_true rfl) ⟨Nat.zero_le _, Nat.zero_le _⟩ dX4_readRestOfPause_51 (fun r_9 S49 H locs hp hs_S49 hG => ?_)
    obtain ⟨u50, rfl, h⟩ := hp
    have h := h hs_S49
    refine W.eq (g2 := F0 m 54 ls [.int u50, .ref (ad x1)]) rfl ?_
    have hsh := hs_S49.tr hsh
    have hk51 := hs_S49.lt hk45
    have hq52 := hs_S49.kd hq46
    have hk53 := hs_S49.lt hk47
    have hq54 := hs_S49.kd hq48
    refine r_put (ci := 1) (C := RX1) (T := TX1) (N := 9) hx hb hts hin1 tyX1 tyX1_ok nmX1 hown hK hG hk53 (cell_1 hq54) rfl 8 (by decide) lk_96 (fun _ h9 => h9) rfl rfl rfl (Nat.le_of_ble_eq_true rfl) (S' := sX S49 x1 8 u50) rfl (pu_1_8 hq54 u50) dX4_readRestOfPause_54 (fun H locs hG => ?_)
    obtain ⟨S55, eS_S55⟩ : ∃ z : GS, z = sX S49 x1 8 u50 := ⟨_, rfl⟩
    have h := h S55 eS_S55
    rw [← eS_S55] at hG
    have hs_S55 : gSh S55 S49 := by rw [eS_S55]; exact gSh.x _ _ _ _
    have hsh := hs_S55.tr hsh
    have hk56 := hs_S55.lt hk51
    have hq57 := hs_S55.kd hq52
    have hk58 := hs_S55.lt hk53
    have hq59 := hs_S55.kd hq54
    exact W.vret hx hb hr (fun t ht hW => r_end (r := none) hAe hG hsh ⟨rfl, h⟩ rfl ht) hG.2.2.2.2 dX4_readRestOfPause_57
  · have h := h.2 c_4
    refine lv_aload_n hx hb dX4_readRestOfPause_7 rfl (lv_at hl 1 rfl) ?_
    refine lv_iconst (v := 0) hx hb dX4_readRestOfPause_8 (by decide) ?_
    obtain ⟨hk60, hq61, h⟩ := h
    refine r_put (ci := 1) (C := RX1) (T := TX1) (N := 9) hx hb hts hin1 tyX1 tyX1_ok nmX1 hown hK hG hk60 (cell_1 hq61) rfl 0 (by decide) lk_51 (fun _ h9 => h9) rfl rfl rfl (Nat.le_of_ble_eq_true rfl) (S' := sX S3 x1 0 0) rfl (pu_1_0 hq61 0) dX4_readRestOfPause_9 (fun H locs hG => ?_)
    obtain ⟨S62, eS_S62⟩ : ∃ z : GS, z = sX S3 x1 0 0 := ⟨_, rfl⟩
    have h := h S62 eS_S62
    rw [← eS_S62] at hG
    have hs_S62 : gSh S62 S3 := by rw [eS_S62]; exact gSh.x _ _ _ _
    have hsh := hs_S62.tr hsh
    have hk63 := hs_S62.lt hk5
    have hq64 := hs_S62.kd hq6
    have hk65 := hs_S62.lt hk60
    have hq66 := hs_S62.kd hq61
    exact W.vret hx hb hr (fun t ht hW => r_end (r := none) hAe hG hsh ⟨rfl, h⟩ rfl ht) hG.2.2.2.2 dX4_readRestOfPause_12
def wX4_readRestOfMark (S : GS) (k0 : Nat) (x1 : Nat) (Q : GS → Prop) : Prop :=
  k0 < gN S ∧ gK S k0 = 4 ∧ wX4_isAtEnd S k0  (fun u4 S3 => gSh S3 S → (u4 = 0 → wX4_pass S3 k0 44 (fun S7 => gSh S7 S3 → ∃ q11 : Nat, gR S7 k0 0 = some q11 ∧ q11 < gN S7 ∧ gK S7 q11 = 6 ∧ wX6_get S7 q11 (gX S7 k0 2) (fun u16 S15 => gSh S15 S7 → (¬ u16 = 65 → x1 < gN S15 ∧ gK S15 x1 = 1 ∧ ∀ S23 : GS, S23 = sX S15 x1 0 5 → wX4_took S23 k0  (fun u31 S30 => gSh S30 S23 → ∀ S38 : GS, S38 = sX S30 x1 8 u31 → Q S38)) ∧ (u16 = 65 → wX4_pass S15 k0 45 (fun S45 => gSh S45 S15 → x1 < gN S45 ∧ gK S45 x1 = 1 ∧ ∀ S53 : GS, S53 = sX S45 x1 0 6 → Q S53))))) ∧ (¬ u4 = 0 → x1 < gN S3 ∧ gK S3 x1 = 1 ∧ ∀ S62 : GS, S62 = sX S3 x1 0 4 → Q S62))
set_option maxHeartbeats 4000000 in
set_option maxRecDepth 100000 in
theorem tX4_readRestOfMark (l : Launch) (S : GS) (k0 : Nat) (x1 : Nat) (Q : GS → Prop) (h : wX4_readRestOfMark S k0 x1 Q) : CZ l yX4_readRestOfMark wsX4_readRestOfMark 7 S (gA [vR (some k0), vR (some x1)]) (fun r S9 => r = none ∧ Q S9) := by
  refine CZ.ofW (cc := cX4_readRestOfMark) (maxL := 2) (ret := none) RX4 (by decide) rfl rfl (fun _ _ _ => Nat.le_of_ble_eq_true rfl) ?_
  intro p e s m args below meth c D Y za zv ad A ls hAe hx hb hr hml hts hown hlocks hK hZ hA hG hl
  obtain ⟨S0, hS0⟩ : ∃ z : GS, z = S := ⟨_, rfl⟩
  rw [← hS0] at hAe
  rw [← hS0]
  have hin1 : ∀ w ∈ wsX10, w ∈ wsX4_readRestOfMark := by decide +kernel
  have hin4 : ∀ w ∈ wsX40, w ∈ wsX4_readRestOfMark := by decide +kernel
  have lk_51 := hts (.fieldLink RX4 51 "PauseLog$Entry" "shape" "I") (by decide +kernel)
  have lk_9 := hts (.fieldLink RX4 9 "PauseLog$Reader" "text" "LPauseLog$Text;") (by decide +kernel)
  have lk_41 := hts (.fieldLink RX4 41 "PauseLog$Reader" "at" "I") (by decide +kernel)
  have lk_96 := hts (.fieldLink RX4 96 "PauseLog$Entry" "took" "I") (by decide +kernel)
  have hl : lv_has ls 2 [(0, .ref (ad k0)), (1, .ref (ad x1))] := hl
  have hsh : gSh S S0 := by rw [hS0]; exact gSh.rf S
  obtain ⟨H, eH⟩ : ∃ z : Heap, z = s.heap := ⟨_, rfl⟩
  obtain ⟨locs, eL⟩ : ∃ z : List Loc, z = [] := ⟨_, rfl⟩
  have hG : gS D Y ad A s.heap S H locs := by rw [eH, eL]; exact hG
  suffices hgoal : W p l e (rmD 7) s m args below meth c H locs 0 0 (MQ below (gE D Y za ad S0 s.heap.size (fun r S9 => r = none ∧ Q S9)) args s 0 0 A) (F0 m 0 ls []) by rw [eH, eL] at hgoal; exact hgoal
  unfold wX4_readRestOfMark at h
  refine lv_aload_n hx hb dX4_readRestOfMark_0 rfl (lv_at hl 0 rfl) ?_
  obtain ⟨hk1, hq2, h⟩ := h
  refine r_callV (za := za) (k := k0) (ci := 4) (C := RX4) (T := TX4) (N := 3) (As := []) (rest := []) (tX4_isAtEnd l S k0  _ h) ⟨hx, hb, hml, hown, hts⟩ (cwV 0 hts gX4_readRestOfMark_X4_isAtEnd rfl rfl rfl (by decide +kernel) ⟨by decide, by decide⟩) hK hG hA hk1 (cell_4 hq2) rfl rfl hl.1 rfl (Nat.le_of_ble_eq_true rfl) ⟨Nat.zero_le _, Nat.zero_le _⟩ dX4_readRestOfMark_1 (fun r_9 S3 H locs hp hs_S3 hG => ?_)
  obtain ⟨u4, rfl, h⟩ := hp
  have h := h hs_S3
  refine W.eq (g2 := F0 m 4 ls [.int u4]) rfl ?_
  have hsh := hs_S3.tr hsh
  have hk5 := hs_S3.lt hk1
  have hq6 := hs_S3.kd hq2
  refine lv_if_eq (tgt := 13) hx hb dX4_readRestOfMark_4 (by decide) (fun c_4 => ?_) (fun c_4 => ?_)
  · have h := h.1 c_4
    refine lv_aload_n hx hb dX4_readRestOfMark_13 rfl (lv_at hl 0 rfl) ?_
    refine va_ldcS hx hb hown (hZ.2.2.2.1 44 (by decide)) dX4_readRestOfMark_14 ?_
    refine z_callV (As := [.ref (za 44)]) (rest := []) (tX4_pass l S3 k0 44 _ h) rfl ⟨hx, hb, hml, hown, hts⟩ (cwV 1 hts gX4_readRestOfMark_X4_pass rfl rfl rfl (by decide +kernel) ⟨by decide, by decide⟩) hK hZ hG hA (va_recv hK hG.1 (ci := 4) (q := (RX4, TX4, 3)) rfl (wl_get hk5 (cell_4 hq6))) rfl hl.1 rfl (Nat.le_of_ble_eq_true rfl) ⟨Nat.zero_le _, Nat.zero_le _⟩ dX4_readRestOfMark_16 (fun r_9 S7 H locs hp hs_S7 hG => ?_)
    obtain ⟨rfl, h⟩ := hp
    have h := h hs_S7
    refine W.eq (g2 := F0 m 19 ls []) rfl ?_
    have hsh := hs_S7.tr hsh
    have hk9 := hs_S7.lt hk5
    have hq10 := hs_S7.kd hq6
    refine lv_aload_n hx hb dX4_readRestOfMark_19 rfl (lv_at hl 0 rfl) ?_
    refine g_get (ci := 4) (C := RX4) (T := TX4) (N := 3) hx hb hts hin4 hown hK hG hk9 (cell_4 hq10) rfl 0 (by decide) lk_9 (fun _ h9 => h9) (v := rv ad (gR S7 k0 0)) rfl dX4_readRestOfMark_20 ?_
    refine lv_aload_n hx hb dX4_readRestOfMark_23 rfl (lv_at hl 0 rfl) ?_
    refine g_get (ci := 4) (C := RX4) (T := TX4) (N := 3) hx hb hts hin4 hown hK hG hk9 (cell_4 hq10) rfl 2 (by decide) lk_41 (fun _ h9 => h9) (v := .int (gX S7 k0 2)) rfl dX4_readRestOfMark_24 ?_
    obtain ⟨q11, e12, h⟩ := h
    refine W.eq (g2 := F0 m 27 ls [.int (gX S7 k0 2), .ref (ad q11)]) (by rw [e12]; rfl) ?_
    obtain ⟨hk13, hq14, h⟩ := h
    refine r_callV (za := za) (k := q11) (ci := 6) (C := RX6) (T := TX6) (N := 2) (As := [vI (gX S7 k0 2)]) (rest := []) (tX6_get l S7 q11 (gX S7 k0 2) _ h) ⟨hx, hb, hml, hown, hts⟩ (cwV 1 hts gX4_readRestOfMark_X6_get rfl rfl rfl (by decide +kernel) ⟨by decide, by decide⟩) hK hG hA hk13 (cell_6 hq14) rfl rfl hl.1 rfl (Nat.le_of_ble_eq_true rfl) ⟨Nat.zero_le _, Nat.zero_le _⟩ dX4_readRestOfMark_27 (fun r_9 S15 H locs hp hs_S15 hG => ?_)
    obtain ⟨u16, rfl, h⟩ := hp
    have h := h hs_S15
    refine W.eq (g2 := F0 m 30 ls [.int u16]) rfl ?_
    have hsh := hs_S15.tr hsh
    have hk17 := hs_S15.lt hk9
    have hq18 := hs_S15.kd hq10
    have hk19 := hs_S15.lt hk13
    have hq20 := hs_S15.kd hq14
    refine lv_bipush (v := 65) hx hb dX4_readRestOfMark_30 (by decide) ?_
    refine lv_icmp_ne (tgt := 48) hx hb dX4_readRestOfMark_32 (by decide) (fun c_32 => ?_) (fun c_32 => ?_)
    · have h := h.1 c_32
      refine lv_aload_n hx hb dX4_readRestOfMark_48 rfl (lv_at hl 1 rfl) ?_
      refine lv_iconst (v := 5) hx hb dX4_readRestOfMark_49 (by decide) ?_
      obtain ⟨hk21, hq22, h⟩ := h
      refine r_put (ci := 1) (C := RX1) (T := TX1) (N := 9) hx hb hts hin1 tyX1 tyX1_ok nmX1 hown hK hG hk21 (cell_1 hq22) rfl 0 (by decide) lk_51 (fun _ h9 => h9) rfl rfl rfl (Nat.le_of_ble_eq_true rfl) (S' := sX S15 x1 0 5) rfl (pu_1_0 hq22 5) dX4_readRestOfMark_50 (fun H locs hG => ?_)
      obtain ⟨S23, eS_S23⟩ : ∃ z : GS, z = sX S15 x1 0 5 := ⟨_, rfl⟩
      have h := h S23 eS_S23
      rw [← eS_S23] at hG
      have hs_S23 : gSh S23 S15 := by rw [eS_S23]; exact gSh.x _ _ _ _
      have hsh := hs_S23.tr hsh
      have hk24 := hs_S23.lt hk17
      have hq25 := hs_S23.kd hq18
      have hk26 := hs_S23.lt hk19
      have hq27 := hs_S23.kd hq20
      have hk28 := hs_S23.lt hk21
      have hq29 := hs_S23.kd hq22
      refine lv_aload_n hx hb dX4_readRestOfMark_53 rfl (lv_at hl 1 rfl) ?_
      refine lv_aload_n hx hb dX4_readRestOfMark_54 rfl (lv_at hl 0 rfl) ?_
      refine z_callV (As := []) (rest := [.ref (ad x1)]) (tX4_took l S23 k0  _ h) rfl ⟨hx, hb, hml, hown, hts⟩ (cwV 0 hts gX4_readRestOfMark_X4_took rfl rfl rfl (by decide +kernel) ⟨by decide, by decide⟩) hK hZ hG hA (va_recv hK hG.1 (ci := 4) (q := (RX4, TX4, 3)) rfl (wl_get hk24 (cell_4 hq25))) rfl hl.1 rfl (Nat.le_of_ble_eq_true rfl) ⟨Nat.zero_le _, Nat.zero_le _⟩ dX4_readRestOfMark_55 (fun r_9 S30 H locs hp hs_S30 hG => ?_)
      obtain ⟨u31, rfl, h⟩ := hp
      have h := h hs_S30
      refine W.eq (g2 := F0 m 58 ls [.int u31, .ref (ad x1)]) rfl ?_
      have hsh := hs_S30.tr hsh
      have hk32 := hs_S30.lt hk24
      have hq33 := hs_S30.kd hq25
      have hk34 := hs_S30.lt hk26
      have hq35 := hs_S30.kd hq27
      have hk36 := hs_S30.lt hk28
      have hq37 := hs_S30.kd hq29
      refine r_put (ci := 1) (C := RX1) (T := TX1) (N := 9) hx hb hts hin1 tyX1 tyX1_ok nmX1 hown hK hG hk36 (cell_1 hq37) rfl 8 (by decide) lk_96 (fun _ h9 => h9) rfl rfl rfl (Nat.le_of_ble_eq_true rfl) (S' := sX S30 x1 8 u31) rfl (pu_1_8 hq37 u31) dX4_readRestOfMark_58 (fun H locs hG => ?_)
      obtain ⟨S38, eS_S38⟩ : ∃ z : GS, z = sX S30 x1 8 u31 := ⟨_, rfl⟩
      have h := h S38 eS_S38
      rw [← eS_S38] at hG
      have hs_S38 : gSh S38 S30 := by rw [eS_S38]; exact gSh.x _ _ _ _
      have hsh := hs_S38.tr hsh
      have hk39 := hs_S38.lt hk32
      have hq40 := hs_S38.kd hq33
      have hk41 := hs_S38.lt hk34
      have hq42 := hs_S38.kd hq35
      have hk43 := hs_S38.lt hk36
      have hq44 := hs_S38.kd hq37
      exact W.vret hx hb hr (fun t ht hW => r_end (r := none) hAe hG hsh ⟨rfl, h⟩ rfl ht) hG.2.2.2.2 dX4_readRestOfMark_61
    · have h := h.2 c_32
      refine lv_aload_n hx hb dX4_readRestOfMark_35 rfl (lv_at hl 0 rfl) ?_
      refine va_ldcS hx hb hown (hZ.2.2.2.1 45 (by decide)) dX4_readRestOfMark_36 ?_
      refine z_callV (As := [.ref (za 45)]) (rest := []) (tX4_pass l S15 k0 45 _ h) rfl ⟨hx, hb, hml, hown, hts⟩ (cwV 1 hts gX4_readRestOfMark_X4_pass rfl rfl rfl (by decide +kernel) ⟨by decide, by decide⟩) hK hZ hG hA (va_recv hK hG.1 (ci := 4) (q := (RX4, TX4, 3)) rfl (wl_get hk17 (cell_4 hq18))) rfl hl.1 rfl (Nat.le_of_ble_eq_true rfl) ⟨Nat.zero_le _, Nat.zero_le _⟩ dX4_readRestOfMark_38 (fun r_9 S45 H locs hp hs_S45 hG => ?_)
      obtain ⟨rfl, h⟩ := hp
      have h := h hs_S45
      refine W.eq (g2 := F0 m 41 ls []) rfl ?_
      have hsh := hs_S45.tr hsh
      have hk47 := hs_S45.lt hk17
      have hq48 := hs_S45.kd hq18
      have hk49 := hs_S45.lt hk19
      have hq50 := hs_S45.kd hq20
      refine lv_aload_n hx hb dX4_readRestOfMark_41 rfl (lv_at hl 1 rfl) ?_
      refine lv_bipush (v := 6) hx hb dX4_readRestOfMark_42 (by decide) ?_
      obtain ⟨hk51, hq52, h⟩ := h
      refine r_put (ci := 1) (C := RX1) (T := TX1) (N := 9) hx hb hts hin1 tyX1 tyX1_ok nmX1 hown hK hG hk51 (cell_1 hq52) rfl 0 (by decide) lk_51 (fun _ h9 => h9) rfl rfl rfl (Nat.le_of_ble_eq_true rfl) (S' := sX S45 x1 0 6) rfl (pu_1_0 hq52 6) dX4_readRestOfMark_44 (fun H locs hG => ?_)
      obtain ⟨S53, eS_S53⟩ : ∃ z : GS, z = sX S45 x1 0 6 := ⟨_, rfl⟩
      have h := h S53 eS_S53
      rw [← eS_S53] at hG
      have hs_S53 : gSh S53 S45 := by rw [eS_S53]; exact gSh.x _ _ _ _
      have hsh := hs_S53.tr hsh
      have hk54 := hs_S53.lt hk47
      have hq55 := hs_S53.kd hq48
      have hk56 := hs_S53.lt hk49
      have hq57 := hs_S53.kd hq50
      have hk58 := hs_S53.lt hk51
      have hq59 := hs_S53.kd hq52
      exact W.vret hx hb hr (fun t ht hW => r_end (r := none) hAe hG hsh ⟨rfl, h⟩ rfl ht) hG.2.2.2.2 dX4_readRestOfMark_47
  · have h := h.2 c_4
    refine lv_aload_n hx hb dX4_readRestOfMark_7 rfl (lv_at hl 1 rfl) ?_
    refine lv_iconst (v := 4) hx hb dX4_readRestOfMark_8 (by decide) ?_
    obtain ⟨hk60, hq61, h⟩ := h
    refine r_put (ci := 1) (C := RX1) (T := TX1) (N := 9) hx hb hts hin1 tyX1 tyX1_ok nmX1 hown hK hG hk60 (cell_1 hq61) rfl 0 (by decide) lk_51 (fun _ h9 => h9) rfl rfl rfl (Nat.le_of_ble_eq_true rfl) (S' := sX S3 x1 0 4) rfl (pu_1_0 hq61 4) dX4_readRestOfMark_9 (fun H locs hG => ?_)
    obtain ⟨S62, eS_S62⟩ : ∃ z : GS, z = sX S3 x1 0 4 := ⟨_, rfl⟩
    have h := h S62 eS_S62
    rw [← eS_S62] at hG
    have hs_S62 : gSh S62 S3 := by rw [eS_S62]; exact gSh.x _ _ _ _
    have hsh := hs_S62.tr hsh
    have hk63 := hs_S62.lt hk5
    have hq64 := hs_S62.kd hq6
    have hk65 := hs_S62.lt hk60
    have hq66 := hs_S62.kd hq61
    exact W.vret hx hb hr (fun t ht hW => r_end (r := none) hAe hG hsh ⟨rfl, h⟩ rfl ht) hG.2.2.2.2 dX4_readRestOfMark_12
def wX4_readMessage_135 (Q : GS → Prop) (k0 : Nat)  (S : GS) : Prop :=
  Q S
def wX4_readMessage (S : GS) (k0 : Nat) (x1 : Nat) (Q : GS → Prop) : Prop :=
  k0 < gN S ∧ gK S k0 = 4 ∧ ∃ q3 : Nat, gR S k0 0 = some q3 ∧ q3 < gN S ∧ gK S q3 = 6 ∧ wX6_get S q3 (gX S k0 2) (fun u8 S7 => gSh S7 S → (u8 = 69 → wX4_pass S7 k0 38 (fun S13 => gSh S13 S7 → x1 < gN S13 ∧ gK S13 x1 = 1 ∧ ∀ S21 : GS, S21 = sX S13 x1 0 2 → wX4_readSizes S21 k0 x1 (fun S28 => gSh S28 S21 → wX4_readMessage_135 Q k0  S28))) ∧ (u8 = 77 → wX4_pass S7 k0 40 (fun S36 => gSh S36 S7 → wX4_readRestOfMark S36 k0 x1 (fun S42 => gSh S42 S36 → wX4_readMessage_135 Q k0  S42))) ∧ (u8 = 79 → wX4_pass S7 k0 39 (fun S48 => gSh S48 S7 → x1 < gN S48 ∧ gK S48 x1 = 1 ∧ ∀ S56 : GS, S56 = sX S48 x1 0 3 → wX4_readSizes S56 k0 x1 (fun S63 => gSh S63 S56 → wX4_readMessage_135 Q k0  S63))) ∧ (¬ u8 = 69 → ¬ u8 = 77 → ¬ u8 = 79 → wX4_pass S7 k0 41 (fun S71 => gSh S71 S7 → wX4_kind S71 k0  (fun u78 S77 => gSh S77 S71 → x1 < gN S77 ∧ gK S77 x1 = 1 ∧ ∀ S85 : GS, S85 = sX S77 x1 1 u78 → wX4_pass S85 k0 42 (fun S92 => gSh S92 S85 → wX4_cause S92 k0  (fun u101 S100 => gSh S100 S92 → ∀ S108 : GS, S108 = sX S100 x1 2 u101 → wX4_pass S108 k0 43 (fun S115 => gSh S115 S108 → wX4_readRestOfPause S115 k0 x1 (fun S123 => gSh S123 S115 → wX4_readMessage_135 Q k0  S123))))))))
set_option maxHeartbeats 4000000 in
set_option maxRecDepth 100000 in
theorem tX4_readMessage (l : Launch) (S : GS) (k0 : Nat) (x1 : Nat) (Q : GS → Prop) (h : wX4_readMessage S k0 x1 Q) : CZ l yX4_readMessage wsX4_readMessage 8 S (gA [vR (some k0), vR (some x1)]) (fun r S9 => r = none ∧ Q S9) := by
  refine CZ.ofW (cc := cX4_readMessage) (maxL := 2) (ret := none) RX4 (by decide) rfl rfl (fun _ _ _ => Nat.le_of_ble_eq_true rfl) ?_
  intro p e s m args below meth c D Y za zv ad A ls hAe hx hb hr hml hts hown hlocks hK hZ hA hG hl
  obtain ⟨S0, hS0⟩ : ∃ z : GS, z = S := ⟨_, rfl⟩
  rw [← hS0] at hAe
  rw [← hS0]
  have hin1 : ∀ w ∈ wsX10, w ∈ wsX4_readMessage := by decide +kernel
  have hin4 : ∀ w ∈ wsX40, w ∈ wsX4_readMessage := by decide +kernel
  have lk_9 := hts (.fieldLink RX4 9 "PauseLog$Reader" "text" "LPauseLog$Text;") (by decide +kernel)
  have lk_41 := hts (.fieldLink RX4 41 "PauseLog$Reader" "at" "I") (by decide +kernel)
  have lk_51 := hts (.fieldLink RX4 51 "PauseLog$Entry" "shape" "I") (by decide +kernel)
  have lk_71 := hts (.fieldLink RX4 71 "PauseLog$Entry" "kind" "I") (by decide +kernel)
  have lk_78 := hts (.fieldLink RX4 78 "PauseLog$Entry" "cause" "I") (by decide +kernel)
  have b_135 : ∀   (S : GS) (H : Heap) (locs : List Loc) (ls : Array Slot), wX4_readMessage_135 Q k0  S → gSh S S0 → gS D Y ad A s.heap S H locs → lv_has ls 2 [] → W p l e (rmD 8) s m args below meth c H locs 0 0 (MQ below (gE D Y za ad S0 s.heap.size (fun r S9 => r = none ∧ Q S9)) args s 0 0 A) (F0 m 135 ls []) := by
    intro   S H locs ls h hsh hG hl
    unfold wX4_readMessage_135 at h
    exact W.vret hx hb hr (fun t ht hW => r_end (r := none) hAe hG hsh ⟨rfl, h⟩ rfl ht) hG.2.2.2.2 dX4_readMessage_135
  have hl : lv_has ls 2 [(0, .ref (ad k0)), (1, .ref (ad x1))] := hl
  have hsh : gSh S S0 := by rw [hS0]; exact gSh.rf S
  obtain ⟨H, eH⟩ : ∃ z : Heap, z = s.heap := ⟨_, rfl⟩
  obtain ⟨locs, eL⟩ : ∃ z : List Loc, z = [] := ⟨_, rfl⟩
  have hG : gS D Y ad A s.heap S H locs := by rw [eH, eL]; exact hG
  suffices hgoal : W p l e (rmD 8) s m args below meth c H locs 0 0 (MQ below (gE D Y za ad S0 s.heap.size (fun r S9 => r = none ∧ Q S9)) args s 0 0 A) (F0 m 0 ls []) by rw [eH, eL] at hgoal; exact hgoal
  unfold wX4_readMessage at h
  refine lv_aload_n hx hb dX4_readMessage_0 rfl (lv_at hl 0 rfl) ?_
  obtain ⟨hk1, hq2, h⟩ := h
  refine g_get (ci := 4) (C := RX4) (T := TX4) (N := 3) hx hb hts hin4 hown hK hG hk1 (cell_4 hq2) rfl 0 (by decide) lk_9 (fun _ h9 => h9) (v := rv ad (gR S k0 0)) rfl dX4_readMessage_1 ?_
  refine lv_aload_n hx hb dX4_readMessage_4 rfl (lv_at hl 0 rfl) ?_
  refine g_get (ci := 4) (C := RX4) (T := TX4) (N := 3) hx hb hts hin4 hown hK hG hk1 (cell_4 hq2) rfl 2 (by decide) lk_41 (fun _ h9 => h9) (v := .int (gX S k0 2)) rfl dX4_readMessage_5 ?_
  obtain ⟨q3, e4, h⟩ := h
  refine W.eq (g2 := F0 m 8 ls [.int (gX S k0 2), .ref (ad q3)]) (by rw [e4]; rfl) ?_
  obtain ⟨hk5, hq6, h⟩ := h
  refine r_callV (za := za) (k := q3) (ci := 6) (C := RX6) (T := TX6) (N := 2) (As := [vI (gX S k0 2)]) (rest := []) (tX6_get l S q3 (gX S k0 2) _ h) ⟨hx, hb, hml, hown, hts⟩ (cwV 1 hts gX4_readMessage_X6_get rfl rfl rfl (by decide +kernel) ⟨by decide, by decide⟩) hK hG hA hk5 (cell_6 hq6) rfl rfl hl.1 rfl (Nat.le_of_ble_eq_true rfl) ⟨Nat.zero_le _, Nat.zero_le _⟩ dX4_readMessage_8 (fun r_9 S7 H locs hp hs_S7 hG => ?_)
  obtain ⟨u8, rfl, h⟩ := hp
  have h := h hs_S7
  refine W.eq (g2 := F0 m 11 ls [.int u8]) rfl ?_
  have hsh := hs_S7.tr hsh
  have hk9 := hs_S7.lt hk1
  have hq10 := hs_S7.kd hq2
  have hk11 := hs_S7.lt hk5
  have hq12 := hs_S7.kd hq6
  by_cases q_11_0 : u8 = 69
  · have h := h.1 q_11_0
    refine lv_lookup (tgt := 44) (off := 33) hx hb dX4_readMessage_11 (by decide) (by rw [q_11_0]; decide) (by decide) ?_
    refine lv_aload_n hx hb dX4_readMessage_44 rfl (lv_at hl 0 rfl) ?_
    refine va_ldcS hx hb hown (hZ.2.2.2.1 38 (by decide)) dX4_readMessage_45 ?_
    refine z_callV (As := [.ref (za 38)]) (rest := []) (tX4_pass l S7 k0 38 _ h) rfl ⟨hx, hb, hml, hown, hts⟩ (cwV 1 hts gX4_readMessage_X4_pass rfl rfl rfl (by decide +kernel) ⟨by decide, by decide⟩) hK hZ hG hA (va_recv hK hG.1 (ci := 4) (q := (RX4, TX4, 3)) rfl (wl_get hk9 (cell_4 hq10))) rfl hl.1 rfl (Nat.le_of_ble_eq_true rfl) ⟨Nat.zero_le _, Nat.zero_le _⟩ dX4_readMessage_47 (fun r_9 S13 H locs hp hs_S13 hG => ?_)
    obtain ⟨rfl, h⟩ := hp
    have h := h hs_S13
    refine W.eq (g2 := F0 m 50 ls []) rfl ?_
    have hsh := hs_S13.tr hsh
    have hk15 := hs_S13.lt hk9
    have hq16 := hs_S13.kd hq10
    have hk17 := hs_S13.lt hk11
    have hq18 := hs_S13.kd hq12
    refine lv_aload_n hx hb dX4_readMessage_50 rfl (lv_at hl 1 rfl) ?_
    refine lv_iconst (v := 2) hx hb dX4_readMessage_51 (by decide) ?_
    obtain ⟨hk19, hq20, h⟩ := h
    refine r_put (ci := 1) (C := RX1) (T := TX1) (N := 9) hx hb hts hin1 tyX1 tyX1_ok nmX1 hown hK hG hk19 (cell_1 hq20) rfl 0 (by decide) lk_51 (fun _ h9 => h9) rfl rfl rfl (Nat.le_of_ble_eq_true rfl) (S' := sX S13 x1 0 2) rfl (pu_1_0 hq20 2) dX4_readMessage_52 (fun H locs hG => ?_)
    obtain ⟨S21, eS_S21⟩ : ∃ z : GS, z = sX S13 x1 0 2 := ⟨_, rfl⟩
    have h := h S21 eS_S21
    rw [← eS_S21] at hG
    have hs_S21 : gSh S21 S13 := by rw [eS_S21]; exact gSh.x _ _ _ _
    have hsh := hs_S21.tr hsh
    have hk22 := hs_S21.lt hk15
    have hq23 := hs_S21.kd hq16
    have hk24 := hs_S21.lt hk17
    have hq25 := hs_S21.kd hq18
    have hk26 := hs_S21.lt hk19
    have hq27 := hs_S21.kd hq20
    refine lv_aload_n hx hb dX4_readMessage_55 rfl (lv_at hl 0 rfl) ?_
    refine lv_aload_n hx hb dX4_readMessage_56 rfl (lv_at hl 1 rfl) ?_
    refine z_callV (As := [.ref (ad x1)]) (rest := []) (tX4_readSizes l S21 k0 x1 _ h) rfl ⟨hx, hb, hml, hown, hts⟩ (cwV 1 hts gX4_readMessage_X4_readSizes rfl rfl rfl (by decide +kernel) ⟨by decide, by decide⟩) hK hZ hG hA (va_recv hK hG.1 (ci := 4) (q := (RX4, TX4, 3)) rfl (wl_get hk22 (cell_4 hq23))) rfl hl.1 rfl (Nat.le_of_ble_eq_true rfl) ⟨Nat.zero_le _, Nat.zero_le _⟩ dX4_readMessage_57 (fun r_9 S28 H locs hp hs_S28 hG => ?_)
    obtain ⟨rfl, h⟩ := hp
    have h := h hs_S28
    refine W.eq (g2 := F0 m 60 ls []) rfl ?_
    have hsh := hs_S28.tr hsh
    have hk30 := hs_S28.lt hk22
    have hq31 := hs_S28.kd hq23
    have hk32 := hs_S28.lt hk24
    have hq33 := hs_S28.kd hq25
    have hk34 := hs_S28.lt hk26
    have hq35 := hs_S28.kd hq27
    refine lv_goto (tgt := 135) hx hb dX4_readMessage_60 (by decide) ?_
    exact b_135  S28 H locs ls h hsh hG (lv_sub hl [] rfl)
  by_cases q_11_1 : u8 = 77
  · have h := h.2.1 q_11_1
    refine lv_lookup (tgt := 82) (off := 71) hx hb dX4_readMessage_11 (by decide) (by rw [q_11_1]; decide) (by decide) ?_
    refine lv_aload_n hx hb dX4_readMessage_82 rfl (lv_at hl 0 rfl) ?_
    refine va_ldcS hx hb hown (hZ.2.2.2.1 40 (by decide)) dX4_readMessage_83 ?_
    refine z_callV (As := [.ref (za 40)]) (rest := []) (tX4_pass l S7 k0 40 _ h) rfl ⟨hx, hb, hml, hown, hts⟩ (cwV 1 hts gX4_readMessage_X4_pass rfl rfl rfl (by decide +kernel) ⟨by decide, by decide⟩) hK hZ hG hA (va_recv hK hG.1 (ci := 4) (q := (RX4, TX4, 3)) rfl (wl_get hk9 (cell_4 hq10))) rfl hl.1 rfl (Nat.le_of_ble_eq_true rfl) ⟨Nat.zero_le _, Nat.zero_le _⟩ dX4_readMessage_85 (fun r_9 S36 H locs hp hs_S36 hG => ?_)
    obtain ⟨rfl, h⟩ := hp
    have h := h hs_S36
    refine W.eq (g2 := F0 m 88 ls []) rfl ?_
    have hsh := hs_S36.tr hsh
    have hk38 := hs_S36.lt hk9
    have hq39 := hs_S36.kd hq10
    have hk40 := hs_S36.lt hk11
    have hq41 := hs_S36.kd hq12
    refine lv_aload_n hx hb dX4_readMessage_88 rfl (lv_at hl 0 rfl) ?_
    refine lv_aload_n hx hb dX4_readMessage_89 rfl (lv_at hl 1 rfl) ?_
    refine z_callV (As := [.ref (ad x1)]) (rest := []) (tX4_readRestOfMark l S36 k0 x1 _ h) rfl ⟨hx, hb, hml, hown, hts⟩ (cwV 1 hts gX4_readMessage_X4_readRestOfMark rfl rfl rfl (by decide +kernel) ⟨by decide, by decide⟩) hK hZ hG hA (va_recv hK hG.1 (ci := 4) (q := (RX4, TX4, 3)) rfl (wl_get hk38 (cell_4 hq39))) rfl hl.1 rfl (Nat.le_of_ble_eq_true rfl) ⟨Nat.zero_le _, Nat.zero_le _⟩ dX4_readMessage_90 (fun r_9 S42 H locs hp hs_S42 hG => ?_)
    obtain ⟨rfl, h⟩ := hp
    have h := h hs_S42
    refine W.eq (g2 := F0 m 93 ls []) rfl ?_
    have hsh := hs_S42.tr hsh
    have hk44 := hs_S42.lt hk38
    have hq45 := hs_S42.kd hq39
    have hk46 := hs_S42.lt hk40
    have hq47 := hs_S42.kd hq41
    refine lv_goto (tgt := 135) hx hb dX4_readMessage_93 (by decide) ?_
    exact b_135  S42 H locs ls h hsh hG (lv_sub hl [] rfl)
  by_cases q_11_2 : u8 = 79
  · have h := h.2.2.1 q_11_2
    refine lv_lookup (tgt := 63) (off := 52) hx hb dX4_readMessage_11 (by decide) (by rw [q_11_2]; decide) (by decide) ?_
    refine lv_aload_n hx hb dX4_readMessage_63 rfl (lv_at hl 0 rfl) ?_
    refine va_ldcS hx hb hown (hZ.2.2.2.1 39 (by decide)) dX4_readMessage_64 ?_
    refine z_callV (As := [.ref (za 39)]) (rest := []) (tX4_pass l S7 k0 39 _ h) rfl ⟨hx, hb, hml, hown, hts⟩ (cwV 1 hts gX4_readMessage_X4_pass rfl rfl rfl (by decide +kernel) ⟨by decide, by decide⟩) hK hZ hG hA (va_recv hK hG.1 (ci := 4) (q := (RX4, TX4, 3)) rfl (wl_get hk9 (cell_4 hq10))) rfl hl.1 rfl (Nat.le_of_ble_eq_true rfl) ⟨Nat.zero_le _, Nat.zero_le _⟩ dX4_readMessage_66 (fun r_9 S48 H locs hp hs_S48 hG => ?_)
    obtain ⟨rfl, h⟩ := hp
    have h := h hs_S48
    refine W.eq (g2 := F0 m 69 ls []) rfl ?_
    have hsh := hs_S48.tr hsh
    have hk50 := hs_S48.lt hk9
    have hq51 := hs_S48.kd hq10
    have hk52 := hs_S48.lt hk11
    have hq53 := hs_S48.kd hq12
    refine lv_aload_n hx hb dX4_readMessage_69 rfl (lv_at hl 1 rfl) ?_
    refine lv_iconst (v := 3) hx hb dX4_readMessage_70 (by decide) ?_
    obtain ⟨hk54, hq55, h⟩ := h
    refine r_put (ci := 1) (C := RX1) (T := TX1) (N := 9) hx hb hts hin1 tyX1 tyX1_ok nmX1 hown hK hG hk54 (cell_1 hq55) rfl 0 (by decide) lk_51 (fun _ h9 => h9) rfl rfl rfl (Nat.le_of_ble_eq_true rfl) (S' := sX S48 x1 0 3) rfl (pu_1_0 hq55 3) dX4_readMessage_71 (fun H locs hG => ?_)
    obtain ⟨S56, eS_S56⟩ : ∃ z : GS, z = sX S48 x1 0 3 := ⟨_, rfl⟩
    have h := h S56 eS_S56
    rw [← eS_S56] at hG
    have hs_S56 : gSh S56 S48 := by rw [eS_S56]; exact gSh.x _ _ _ _
    have hsh := hs_S56.tr hsh
    have hk57 := hs_S56.lt hk50
    have hq58 := hs_S56.kd hq51
    have hk59 := hs_S56.lt hk52
    have hq60 := hs_S56.kd hq53
    have hk61 := hs_S56.lt hk54
    have hq62 := hs_S56.kd hq55
    refine lv_aload_n hx hb dX4_readMessage_74 rfl (lv_at hl 0 rfl) ?_
    refine lv_aload_n hx hb dX4_readMessage_75 rfl (lv_at hl 1 rfl) ?_
    refine z_callV (As := [.ref (ad x1)]) (rest := []) (tX4_readSizes l S56 k0 x1 _ h) rfl ⟨hx, hb, hml, hown, hts⟩ (cwV 1 hts gX4_readMessage_X4_readSizes rfl rfl rfl (by decide +kernel) ⟨by decide, by decide⟩) hK hZ hG hA (va_recv hK hG.1 (ci := 4) (q := (RX4, TX4, 3)) rfl (wl_get hk57 (cell_4 hq58))) rfl hl.1 rfl (Nat.le_of_ble_eq_true rfl) ⟨Nat.zero_le _, Nat.zero_le _⟩ dX4_readMessage_76 (fun r_9 S63 H locs hp hs_S63 hG => ?_)
    obtain ⟨rfl, h⟩ := hp
    have h := h hs_S63
    refine W.eq (g2 := F0 m 79 ls []) rfl ?_
    have hsh := hs_S63.tr hsh
    have hk65 := hs_S63.lt hk57
    have hq66 := hs_S63.kd hq58
    have hk67 := hs_S63.lt hk59
    have hq68 := hs_S63.kd hq60
    have hk69 := hs_S63.lt hk61
    have hq70 := hs_S63.kd hq62
    refine lv_goto (tgt := 135) hx hb dX4_readMessage_79 (by decide) ?_
    exact b_135  S63 H locs ls h hsh hG (lv_sub hl [] rfl)
  have h := h.2.2.2 q_11_0 q_11_1 q_11_2
  refine lv_lookup (tgt := 96) (off := 85) hx hb dX4_readMessage_11 (by decide) (by refine (lv_osw q_11_0 (by decide)).trans ?_; refine (lv_osw q_11_1 (by decide)).trans ?_; refine (lv_osw q_11_2 (by decide)).trans ?_; rfl) (by decide) ?_
  refine lv_aload_n hx hb dX4_readMessage_96 rfl (lv_at hl 0 rfl) ?_
  refine va_ldcS hx hb hown (hZ.2.2.2.1 41 (by decide)) dX4_readMessage_97 ?_
  refine z_callV (As := [.ref (za 41)]) (rest := []) (tX4_pass l S7 k0 41 _ h) rfl ⟨hx, hb, hml, hown, hts⟩ (cwV 1 hts gX4_readMessage_X4_pass rfl rfl rfl (by decide +kernel) ⟨by decide, by decide⟩) hK hZ hG hA (va_recv hK hG.1 (ci := 4) (q := (RX4, TX4, 3)) rfl (wl_get hk9 (cell_4 hq10))) rfl hl.1 rfl (Nat.le_of_ble_eq_true rfl) ⟨Nat.zero_le _, Nat.zero_le _⟩ dX4_readMessage_99 (fun r_9 S71 H locs hp hs_S71 hG => ?_)
  obtain ⟨rfl, h⟩ := hp
  have h := h hs_S71
  refine W.eq (g2 := F0 m 102 ls []) rfl ?_
  have hsh := hs_S71.tr hsh
  have hk73 := hs_S71.lt hk9
  have hq74 := hs_S71.kd hq10
  have hk75 := hs_S71.lt hk11
  have hq76 := hs_S71.kd hq12
  refine lv_aload_n hx hb dX4_readMessage_102 rfl (lv_at hl 1 rfl) ?_
  refine lv_aload_n hx hb dX4_readMessage_103 rfl (lv_at hl 0 rfl) ?_
  refine z_callV (As := []) (rest := [.ref (ad x1)]) (tX4_kind l S71 k0  _ h) rfl ⟨hx, hb, hml, hown, hts⟩ (cwV 0 hts gX4_readMessage_X4_kind rfl rfl rfl (by decide +kernel) ⟨by decide, by decide⟩) hK hZ hG hA (va_recv hK hG.1 (ci := 4) (q := (RX4, TX4, 3)) rfl (wl_get hk73 (cell_4 hq74))) rfl hl.1 rfl (Nat.le_of_ble_eq_true rfl) ⟨Nat.zero_le _, Nat.zero_le _⟩ dX4_readMessage_104 (fun r_9 S77 H locs hp hs_S77 hG => ?_)
  obtain ⟨u78, rfl, h⟩ := hp
  have h := h hs_S77
  refine W.eq (g2 := F0 m 107 ls [.int u78, .ref (ad x1)]) rfl ?_
  have hsh := hs_S77.tr hsh
  have hk79 := hs_S77.lt hk73
  have hq80 := hs_S77.kd hq74
  have hk81 := hs_S77.lt hk75
  have hq82 := hs_S77.kd hq76
  obtain ⟨hk83, hq84, h⟩ := h
  refine r_put (ci := 1) (C := RX1) (T := TX1) (N := 9) hx hb hts hin1 tyX1 tyX1_ok nmX1 hown hK hG hk83 (cell_1 hq84) rfl 1 (by decide) lk_71 (fun _ h9 => h9) rfl rfl rfl (Nat.le_of_ble_eq_true rfl) (S' := sX S77 x1 1 u78) rfl (pu_1_1 hq84 u78) dX4_readMessage_107 (fun H locs hG => ?_)
  obtain ⟨S85, eS_S85⟩ : ∃ z : GS, z = sX S77 x1 1 u78 := ⟨_, rfl⟩
  have h := h S85 eS_S85
  rw [← eS_S85] at hG
  have hs_S85 : gSh S85 S77 := by rw [eS_S85]; exact gSh.x _ _ _ _
  have hsh := hs_S85.tr hsh
  have hk86 := hs_S85.lt hk79
  have hq87 := hs_S85.kd hq80
  have hk88 := hs_S85.lt hk81
  have hq89 := hs_S85.kd hq82
  have hk90 := hs_S85.lt hk83
  have hq91 := hs_S85.kd hq84
  refine lv_aload_n hx hb dX4_readMessage_110 rfl (lv_at hl 0 rfl) ?_
  refine va_ldcS hx hb hown (hZ.2.2.2.1 42 (by decide)) dX4_readMessage_111 ?_
  refine z_callV (As := [.ref (za 42)]) (rest := []) (tX4_pass l S85 k0 42 _ h) rfl ⟨hx, hb, hml, hown, hts⟩ (cwV 1 hts gX4_readMessage_X4_pass rfl rfl rfl (by decide +kernel) ⟨by decide, by decide⟩) hK hZ hG hA (va_recv hK hG.1 (ci := 4) (q := (RX4, TX4, 3)) rfl (wl_get hk86 (cell_4 hq87))) rfl hl.1 rfl (Nat.le_of_ble_eq_true rfl) ⟨Nat.zero_le _, Nat.zero_le _⟩ dX4_readMessage_113 (fun r_9 S92 H locs hp hs_S92 hG => ?_)
  obtain ⟨rfl, h⟩ := hp
  have h := h hs_S92
  refine W.eq (g2 := F0 m 116 ls []) rfl ?_
  have hsh := hs_S92.tr hsh
  have hk94 := hs_S92.lt hk86
  have hq95 := hs_S92.kd hq87
  have hk96 := hs_S92.lt hk88
  have hq97 := hs_S92.kd hq89
  have hk98 := hs_S92.lt hk90
  have hq99 := hs_S92.kd hq91
  refine lv_aload_n hx hb dX4_readMessage_116 rfl (lv_at hl 1 rfl) ?_
  refine lv_aload_n hx hb dX4_readMessage_117 rfl (lv_at hl 0 rfl) ?_
  refine z_callV (As := []) (rest := [.ref (ad x1)]) (tX4_cause l S92 k0  _ h) rfl ⟨hx, hb, hml, hown, hts⟩ (cwV 0 hts gX4_readMessage_X4_cause rfl rfl rfl (by decide +kernel) ⟨by decide, by decide⟩) hK hZ hG hA (va_recv hK hG.1 (ci := 4) (q := (RX4, TX4, 3)) rfl (wl_get hk94 (cell_4 hq95))) rfl hl.1 rfl (Nat.le_of_ble_eq_true rfl) ⟨Nat.zero_le _, Nat.zero_le _⟩ dX4_readMessage_118 (fun r_9 S100 H locs hp hs_S100 hG => ?_)
  obtain ⟨u101, rfl, h⟩ := hp
  have h := h hs_S100
  refine W.eq (g2 := F0 m 121 ls [.int u101, .ref (ad x1)]) rfl ?_
  have hsh := hs_S100.tr hsh
  have hk102 := hs_S100.lt hk94
  have hq103 := hs_S100.kd hq95
  have hk104 := hs_S100.lt hk96
  have hq105 := hs_S100.kd hq97
  have hk106 := hs_S100.lt hk98
  have hq107 := hs_S100.kd hq99
  refine r_put (ci := 1) (C := RX1) (T := TX1) (N := 9) hx hb hts hin1 tyX1 tyX1_ok nmX1 hown hK hG hk106 (cell_1 hq107) rfl 2 (by decide) lk_78 (fun _ h9 => h9) rfl rfl rfl (Nat.le_of_ble_eq_true rfl) (S' := sX S100 x1 2 u101) rfl (pu_1_2 hq107 u101) dX4_readMessage_121 (fun H locs hG => ?_)
  obtain ⟨S108, eS_S108⟩ : ∃ z : GS, z = sX S100 x1 2 u101 := ⟨_, rfl⟩
  have h := h S108 eS_S108
  rw [← eS_S108] at hG
  have hs_S108 : gSh S108 S100 := by rw [eS_S108]; exact gSh.x _ _ _ _
  have hsh := hs_S108.tr hsh
  have hk109 := hs_S108.lt hk102
  have hq110 := hs_S108.kd hq103
  have hk111 := hs_S108.lt hk104
  have hq112 := hs_S108.kd hq105
  have hk113 := hs_S108.lt hk106
  have hq114 := hs_S108.kd hq107
  refine lv_aload_n hx hb dX4_readMessage_124 rfl (lv_at hl 0 rfl) ?_
  refine va_ldcS hx hb hown (hZ.2.2.2.1 43 (by decide)) dX4_readMessage_125 ?_
  refine z_callV (As := [.ref (za 43)]) (rest := []) (tX4_pass l S108 k0 43 _ h) rfl ⟨hx, hb, hml, hown, hts⟩ (cwV 1 hts gX4_readMessage_X4_pass rfl rfl rfl (by decide +kernel) ⟨by decide, by decide⟩) hK hZ hG hA (va_recv hK hG.1 (ci := 4) (q := (RX4, TX4, 3)) rfl (wl_get hk109 (cell_4 hq110))) rfl hl.1 rfl (Nat.le_of_ble_eq_true rfl) ⟨Nat.zero_le _, Nat.zero_le _⟩ dX4_readMessage_127 (fun r_9 S115 H locs hp hs_S115 hG => ?_)
  obtain ⟨rfl, h⟩ := hp
  have h := h hs_S115
  refine W.eq (g2 := F0 m 130 ls []) rfl ?_
  have hsh := hs_S115.tr hsh
  have hk117 := hs_S115.lt hk109
  have hq118 := hs_S115.kd hq110
  have hk119 := hs_S115.lt hk111
  have hq120 := hs_S115.kd hq112
  have hk121 := hs_S115.lt hk113
  have hq122 := hs_S115.kd hq114
  refine lv_aload_n hx hb dX4_readMessage_130 rfl (lv_at hl 0 rfl) ?_
  refine lv_aload_n hx hb dX4_readMessage_131 rfl (lv_at hl 1 rfl) ?_
  refine z_callV (As := [.ref (ad x1)]) (rest := []) (tX4_readRestOfPause l S115 k0 x1 _ h) rfl ⟨hx, hb, hml, hown, hts⟩ (cwV 1 hts gX4_readMessage_X4_readRestOfPause rfl rfl rfl (by decide +kernel) ⟨by decide, by decide⟩) hK hZ hG hA (va_recv hK hG.1 (ci := 4) (q := (RX4, TX4, 3)) rfl (wl_get hk117 (cell_4 hq118))) rfl hl.1 rfl (Nat.le_of_ble_eq_true rfl) ⟨Nat.zero_le _, Nat.zero_le _⟩ dX4_readMessage_132 (fun r_9 S123 H locs hp hs_S123 hG => ?_)
  obtain ⟨rfl, h⟩ := hp
  have h := h hs_S123
  refine W.eq (g2 := F0 m 135 ls []) rfl ?_
  have hsh := hs_S123.tr hsh
  have hk125 := hs_S123.lt hk117
  have hq126 := hs_S123.kd hq118
  have hk127 := hs_S123.lt hk119
  have hq128 := hs_S123.kd hq120
  have hk129 := hs_S123.lt hk121
  have hq130 := hs_S123.kd hq122
  exact b_135  S123 H locs ls h hsh hG (lv_sub hl [] rfl)
def wX4_readHead (S : GS) (k0 : Nat) (x1 : Nat) (Q : GS → Prop) : Prop :=
  k0 < gN S ∧ gK S k0 = 4 ∧ wX4_pass S k0 35 (fun S3 => gSh S3 S → wX4_decimal S3 k0 5 (fun u8 S7 => gSh S7 S3 → x1 < gN S7 ∧ gK S7 x1 = 1 ∧ ∀ S13 : GS, S13 = sX S7 x1 4 u8 → wX4_pass S13 k0 36 (fun S18 => gSh S18 S13 → wX4_number S18 k0 3 (fun u25 S24 => gSh S24 S18 → ∀ S30 : GS, S30 = sX S24 x1 3 u25 → wX4_pass S30 k0 37 (fun S35 => gSh S35 S30 → Q S35)))))
set_option maxHeartbeats 4000000 in
set_option maxRecDepth 100000 in
theorem tX4_readHead (l : Launch) (S : GS) (k0 : Nat) (x1 : Nat) (Q : GS → Prop) (h : wX4_readHead S k0 x1 Q) : CZ l yX4_readHead wsX4_readHead 6 S (gA [vR (some k0), vR (some x1)]) (fun r S9 => r = none ∧ Q S9) := by
  refine CZ.ofW (cc := cX4_readHead) (maxL := 2) (ret := none) RX4 (by decide) rfl rfl (fun _ _ _ => Nat.le_of_ble_eq_true rfl) ?_
  intro p e s m args below meth c D Y za zv ad A ls hAe hx hb hr hml hts hown hlocks hK hZ hA hG hl
  obtain ⟨S0, hS0⟩ : ∃ z : GS, z = S := ⟨_, rfl⟩
  rw [← hS0] at hAe
  rw [← hS0]
  have hin1 : ∀ w ∈ wsX10, w ∈ wsX4_readHead := by decide +kernel
  have lk_25 := hts (.fieldLink RX4 25 "PauseLog$Entry" "time" "I") (by decide +kernel)
  have lk_36 := hts (.fieldLink RX4 36 "PauseLog$Entry" "id" "I") (by decide +kernel)
  have hl : lv_has ls 2 [(0, .ref (ad k0)), (1, .ref (ad x1))] := hl
  have hsh : gSh S S0 := by rw [hS0]; exact gSh.rf S
  obtain ⟨H, eH⟩ : ∃ z : Heap, z = s.heap := ⟨_, rfl⟩
  obtain ⟨locs, eL⟩ : ∃ z : List Loc, z = [] := ⟨_, rfl⟩
  have hG : gS D Y ad A s.heap S H locs := by rw [eH, eL]; exact hG
  suffices hgoal : W p l e (rmD 6) s m args below meth c H locs 0 0 (MQ below (gE D Y za ad S0 s.heap.size (fun r S9 => r = none ∧ Q S9)) args s 0 0 A) (F0 m 0 ls []) by rw [eH, eL] at hgoal; exact hgoal
  unfold wX4_readHead at h
  refine lv_aload_n hx hb dX4_readHead_0 rfl (lv_at hl 0 rfl) ?_
  refine va_ldcS hx hb hown (hZ.2.2.2.1 35 (by decide)) dX4_readHead_1 ?_
  obtain ⟨hk1, hq2, h⟩ := h
  refine z_callV (As := [.ref (za 35)]) (rest := []) (tX4_pass l S k0 35 _ h) rfl ⟨hx, hb, hml, hown, hts⟩ (cwV 1 hts gX4_readHead_X4_pass rfl rfl rfl (by decide +kernel) ⟨by decide, by decide⟩) hK hZ hG hA (va_recv hK hG.1 (ci := 4) (q := (RX4, TX4, 3)) rfl (wl_get hk1 (cell_4 hq2))) rfl hl.1 rfl (Nat.le_of_ble_eq_true rfl) ⟨Nat.zero_le _, Nat.zero_le _⟩ dX4_readHead_3 (fun r_9 S3 H locs hp hs_S3 hG => ?_)
  obtain ⟨rfl, h⟩ := hp
  have h := h hs_S3
  refine W.eq (g2 := F0 m 6 ls []) rfl ?_
  have hsh := hs_S3.tr hsh
  have hk5 := hs_S3.lt hk1
  have hq6 := hs_S3.kd hq2
  refine lv_aload_n hx hb dX4_readHead_6 rfl (lv_at hl 1 rfl) ?_
  refine lv_aload_n hx hb dX4_readHead_7 rfl (lv_at hl 0 rfl) ?_
  refine lv_iconst (v := 5) hx hb dX4_readHead_8 (by decide) ?_
  refine z_callV (As := [.int 5]) (rest := [.ref (ad x1)]) (tX4_decimal l S3 k0 5 _ h) rfl ⟨hx, hb, hml, hown, hts⟩ (cwV 1 hts gX4_readHead_X4_decimal rfl rfl rfl (by decide +kernel) ⟨by decide, by decide⟩) hK hZ hG hA (va_recv hK hG.1 (ci := 4) (q := (RX4, TX4, 3)) rfl (wl_get hk5 (cell_4 hq6))) rfl hl.1 rfl (Nat.le_of_ble_eq_true rfl) ⟨Nat.zero_le _, Nat.zero_le _⟩ dX4_readHead_9 (fun r_9 S7 H locs hp hs_S7 hG => ?_)
  obtain ⟨u8, rfl, h⟩ := hp
  have h := h hs_S7
  refine W.eq (g2 := F0 m 12 ls [.int u8, .ref (ad x1)]) rfl ?_
  have hsh := hs_S7.tr hsh
  have hk9 := hs_S7.lt hk5
  have hq10 := hs_S7.kd hq6
  obtain ⟨hk11, hq12, h⟩ := h
  refine r_put (ci := 1) (C := RX1) (T := TX1) (N := 9) hx hb hts hin1 tyX1 tyX1_ok nmX1 hown hK hG hk11 (cell_1 hq12) rfl 4 (by decide) lk_25 (fun _ h9 => h9) rfl rfl rfl (Nat.le_of_ble_eq_true rfl) (S' := sX S7 x1 4 u8) rfl (pu_1_4 hq12 u8) dX4_readHead_12 (fun H locs hG => ?_)
  obtain ⟨S13, eS_S13⟩ : ∃ z : GS, z = sX S7 x1 4 u8 := ⟨_, rfl⟩
  have h := h S13 eS_S13
  rw [← eS_S13] at hG
  have hs_S13 : gSh S13 S7 := by rw [eS_S13]; exact gSh.x _ _ _ _
  have hsh := hs_S13.tr hsh
  have hk14 := hs_S13.lt hk9
  have hq15 := hs_S13.kd hq10
  have hk16 := hs_S13.lt hk11
  have hq17 := hs_S13.kd hq12
  refine lv_aload_n hx hb dX4_readHead_15 rfl (lv_at hl 0 rfl) ?_
  refine va_ldcS hx hb hown (hZ.2.2.2.1 36 (by decide)) dX4_readHead_16 ?_
  refine z_callV (As := [.ref (za 36)]) (rest := []) (tX4_pass l S13 k0 36 _ h) rfl ⟨hx, hb, hml, hown, hts⟩ (cwV 1 hts gX4_readHead_X4_pass rfl rfl rfl (by decide +kernel) ⟨by decide, by decide⟩) hK hZ hG hA (va_recv hK hG.1 (ci := 4) (q := (RX4, TX4, 3)) rfl (wl_get hk14 (cell_4 hq15))) rfl hl.1 rfl (Nat.le_of_ble_eq_true rfl) ⟨Nat.zero_le _, Nat.zero_le _⟩ dX4_readHead_18 (fun r_9 S18 H locs hp hs_S18 hG => ?_)
  obtain ⟨rfl, h⟩ := hp
  have h := h hs_S18
  refine W.eq (g2 := F0 m 21 ls []) rfl ?_
  have hsh := hs_S18.tr hsh
  have hk20 := hs_S18.lt hk14
  have hq21 := hs_S18.kd hq15
  have hk22 := hs_S18.lt hk16
  have hq23 := hs_S18.kd hq17
  refine lv_aload_n hx hb dX4_readHead_21 rfl (lv_at hl 1 rfl) ?_
  refine lv_aload_n hx hb dX4_readHead_22 rfl (lv_at hl 0 rfl) ?_
  refine lv_iconst (v := 3) hx hb dX4_readHead_23 (by decide) ?_
  refine r_callV (za := za) (k := k0) (ci := 4) (C := RX4) (T := TX4) (N := 3) (As := [vI 3]) (rest := [.ref (ad x1)]) (tX4_number l S18 k0 3 _ h) ⟨hx, hb, hml, hown, hts⟩ (cwV 1 hts gX4_readHead_X4_number rfl rfl rfl (by decide +kernel) ⟨by decide, by decide⟩) hK hG hA hk20 (cell_4 hq21) rfl rfl hl.1 rfl (Nat.le_of_ble_eq_true rfl) ⟨Nat.zero_le _, Nat.zero_le _⟩ dX4_readHead_24 (fun r_9 S24 H locs hp hs_S24 hG => ?_)
  obtain ⟨u25, rfl, h⟩ := hp
  have h := h hs_S24
  refine W.eq (g2 := F0 m 27 ls [.int u25, .ref (ad x1)]) rfl ?_
  have hsh := hs_S24.tr hsh
  have hk26 := hs_S24.lt hk20
  have hq27 := hs_S24.kd hq21
  have hk28 := hs_S24.lt hk22
  have hq29 := hs_S24.kd hq23
  refine r_put (ci := 1) (C := RX1) (T := TX1) (N := 9) hx hb hts hin1 tyX1 tyX1_ok nmX1 hown hK hG hk28 (cell_1 hq29) rfl 3 (by decide) lk_36 (fun _ h9 => h9) rfl rfl rfl (Nat.le_of_ble_eq_true rfl) (S' := sX S24 x1 3 u25) rfl (pu_1_3 hq29 u25) dX4_readHead_27 (fun H locs hG => ?_)
  obtain ⟨S30, eS_S30⟩ : ∃ z : GS, z = sX S24 x1 3 u25 := ⟨_, rfl⟩
  have h := h S30 eS_S30
  rw [← eS_S30] at hG
  have hs_S30 : gSh S30 S24 := by rw [eS_S30]; exact gSh.x _ _ _ _
  have hsh := hs_S30.tr hsh
  have hk31 := hs_S30.lt hk26
  have hq32 := hs_S30.kd hq27
  have hk33 := hs_S30.lt hk28
  have hq34 := hs_S30.kd hq29
  refine lv_aload_n hx hb dX4_readHead_30 rfl (lv_at hl 0 rfl) ?_
  refine va_ldcS hx hb hown (hZ.2.2.2.1 37 (by decide)) dX4_readHead_31 ?_
  refine z_callV (As := [.ref (za 37)]) (rest := []) (tX4_pass l S30 k0 37 _ h) rfl ⟨hx, hb, hml, hown, hts⟩ (cwV 1 hts gX4_readHead_X4_pass rfl rfl rfl (by decide +kernel) ⟨by decide, by decide⟩) hK hZ hG hA (va_recv hK hG.1 (ci := 4) (q := (RX4, TX4, 3)) rfl (wl_get hk31 (cell_4 hq32))) rfl hl.1 rfl (Nat.le_of_ble_eq_true rfl) ⟨Nat.zero_le _, Nat.zero_le _⟩ dX4_readHead_33 (fun r_9 S35 H locs hp hs_S35 hG => ?_)
  obtain ⟨rfl, h⟩ := hp
  have h := h hs_S35
  refine W.eq (g2 := F0 m 36 ls []) rfl ?_
  have hsh := hs_S35.tr hsh
  have hk37 := hs_S35.lt hk31
  have hq38 := hs_S35.kd hq32
  have hk39 := hs_S35.lt hk33
  have hq40 := hs_S35.kd hq34
  exact W.vret hx hb hr (fun t ht hW => r_end (r := none) hAe hG hsh ⟨rfl, h⟩ rfl ht) hG.2.2.2.2 dX4_readHead_36
