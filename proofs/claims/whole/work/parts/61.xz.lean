def wX6_addWord_2 (Q : GS → Prop) (k0 : Nat) : Nat → Nat → Int32 → GS → Prop
  | 0, _, _, _ => False
  | f9 + 1, x1, x2, S =>
  x1 < 52 ∧ ((nI (zT x1).length) ≤ x2 → Q S) ∧ (¬ (nI (zT x1).length) ≤ x2 → x1 < 52 ∧ ∃ k2 : Nat, x2 = nI k2 ∧ k2 < (zT x1).length ∧ k0 < gN S ∧ gK S k0 = 6 ∧ wX6_add S k0 (zCh x1 k2) (fun u9 S8 => gSh S8 S → (wX6_addWord_2 Q k0 f9) x1 (x2 + 1) S8))
def wX6_addWord (S : GS) (k0 : Nat) (x1 : Nat) (Q : GS → Prop) : Prop :=
  ∃ f12 : Nat, wX6_addWord_2 Q k0 f12 x1 0 S
set_option maxHeartbeats 4000000 in
set_option maxRecDepth 100000 in
theorem tX6_addWord (l : Launch) (S : GS) (k0 : Nat) (x1 : Nat) (Q : GS → Prop) (h : wX6_addWord S k0 x1 Q) : CZ l yX6_addWord wsX6_addWord 4 S (gA [vR (some k0), vS x1]) (fun r S9 => r = none ∧ Q S9) := by
  refine CZ.ofW (cc := cX6_addWord) (maxL := 3) (ret := none) RX6 (by decide) rfl rfl (fun _ _ _ => Nat.le_of_ble_eq_true rfl) ?_
  intro p e s m args below meth c D Y za zv ad A ls hAe hx hb hr hml hts hown hlocks hK hZ hA hG hl
  obtain ⟨S0, hS0⟩ : ∃ z : GS, z = S := ⟨_, rfl⟩
  rw [← hS0] at hAe
  rw [← hS0]
  have b_2 : ∀  (f9 : Nat) (x1 : Nat) (x2 : Int32) (S : GS) (H : Heap) (locs : List Loc) (ls : Array Slot), wX6_addWord_2 Q k0 f9 x1 x2 S → gSh S S0 → gS D Y ad A s.heap S H locs → lv_has ls 3 [(0, .ref (ad k0)), (1, .ref (za x1)), (2, .int x2)] → W p l e (rmD 4) s m args below meth c H locs 0 0 (MQ below (gE D Y za ad S0 s.heap.size (fun r S9 => r = none ∧ Q S9)) args s 0 0 A) (F0 m 2 ls []) := by
    intro  f9
    induction f9 with
    | zero =>
      intro x1 x2 S H locs ls h
      exact False.elim (by unfold wX6_addWord_2 at h; exact h)
    | succ f9 hL_2 =>
      intro x1 x2 S H locs ls h hsh hG hl
      unfold wX6_addWord_2 at h
      refine lv_iload_n hx hb dX6_addWord_2 rfl (lv_at hl 2 rfl) ?_
      refine lv_aload_n hx hb dX6_addWord_3 rfl (lv_at hl 1 rfl) ?_
      obtain ⟨hi1, h⟩ := h
      refine z_callV (As := []) (rest := [.int x2]) (zJ0_length l S x1 hi1) rfl ⟨hx, hb, hml, hown, hts⟩ (cwV 0 hts gX6_addWord_J0_length_8abf5 rfl rfl rfl (by decide +kernel) ⟨by decide, by decide⟩) hK hZ hG hA (z_rec hZ hG hi1) rfl hl.1 rfl (Nat.le_of_ble_eq_true rfl) ⟨Nat.zero_le _, Nat.zero_le _⟩ dX6_addWord_4 (fun r_9 S9 H locs hp hs9 hG => ?_)
      obtain ⟨rfl, rfl⟩ := hp
      refine W.eq (g2 := F0 m 7 ls [.int (nI (zT x1).length), .int x2]) rfl ?_
      refine lv_icmp_ge (tgt := 26) hx hb dX6_addWord_7 (by decide) (fun c_7 => ?_) (fun c_7 => ?_)
      · have h := h.1 c_7
        exact W.vret hx hb hr (fun t ht hW => r_end (r := none) hAe hG hsh ⟨rfl, h⟩ rfl ht) hG.2.2.2.2 dX6_addWord_26
      · have h := h.2 c_7
        refine lv_aload_n hx hb dX6_addWord_10 rfl (lv_at hl 0 rfl) ?_
        refine lv_aload_n hx hb dX6_addWord_11 rfl (lv_at hl 1 rfl) ?_
        refine lv_iload_n hx hb dX6_addWord_12 rfl (lv_at hl 2 rfl) ?_
        obtain ⟨hi5, h⟩ := h
        obtain ⟨k2, e3, hk4, h⟩ := h
        refine W.eq (g2 := F0 m 13 ls [.int (nI k2), .ref (za x1), .ref (ad k0)]) (by rw [e3]) ?_
        refine z_callV (As := [.int (nI k2)]) (rest := [.ref (ad k0)]) (zJ0_charAt l S x1 k2 hi5 hk4) rfl ⟨hx, hb, hml, hown, hts⟩ (cwV 1 hts gX6_addWord_J0_charAt_5068e rfl rfl rfl (by decide +kernel) ⟨by decide, by decide⟩) hK hZ hG hA (z_rec hZ hG hi5) rfl hl.1 rfl (Nat.le_of_ble_eq_true rfl) ⟨Nat.zero_le _, Nat.zero_le _⟩ dX6_addWord_13 (fun r_9 S9 H locs hp hs9 hG => ?_)
        obtain ⟨rfl, rfl⟩ := hp
        refine W.eq (g2 := F0 m 16 ls [.int (zCh x1 k2), .ref (ad k0)]) rfl ?_
        obtain ⟨hk6, hq7, h⟩ := h
        refine r_callV (za := za) (k := k0) (ci := 6) (C := RX6) (T := TX6) (N := 2) (As := [vI (zCh x1 k2)]) (rest := []) (tX6_add l S k0 (zCh x1 k2) _ h) ⟨hx, hb, hml, hown, hts⟩ (cwV 1 hts gX6_addWord_X6_add rfl rfl rfl (by decide +kernel) ⟨by decide, by decide⟩) hK hG hA hk6 (cell_6 hq7) rfl rfl hl.1 rfl (Nat.le_of_ble_eq_true rfl) ⟨Nat.zero_le _, Nat.zero_le _⟩ dX6_addWord_16 (fun r_9 S8 H locs hp hs_S8 hG => ?_)
        obtain ⟨u9, rfl, h⟩ := hp
        have h := h hs_S8
        refine W.eq (g2 := F0 m 19 ls [.int u9]) rfl ?_
        have hsh := hs_S8.tr hsh
        have hk10 := hs_S8.lt hk6
        have hq11 := hs_S8.kd hq7
        refine lv_pop hx hb dX6_addWord_19 rfl ?_
        refine lv_iinc (v := x2 + 1) (lv' := [(2, .int (x2 + 1)), (0, .ref (ad k0)), (1, .ref (za x1))]) hx hb dX6_addWord_20 hl (k := 2) rfl rfl (by decide) rfl (fun ls hl => ?_)
        refine lv_goto (tgt := 2) hx hb dX6_addWord_23 (by decide) ?_
        exact hL_2 x1 (x2 + 1) S8 H locs ls h hsh hG (lv_sub hl [1, 2, 0] rfl)
  have hl : lv_has ls 3 [(0, .ref (ad k0)), (1, .ref (za x1))] := hl
  have hsh : gSh S S0 := by rw [hS0]; exact gSh.rf S
  obtain ⟨H, eH⟩ : ∃ z : Heap, z = s.heap := ⟨_, rfl⟩
  obtain ⟨locs, eL⟩ : ∃ z : List Loc, z = [] := ⟨_, rfl⟩
  have hG : gS D Y ad A s.heap S H locs := by rw [eH, eL]; exact hG
  suffices hgoal : W p l e (rmD 4) s m args below meth c H locs 0 0 (MQ below (gE D Y za ad S0 s.heap.size (fun r S9 => r = none ∧ Q S9)) args s 0 0 A) (F0 m 0 ls []) by rw [eH, eL] at hgoal; exact hgoal
  unfold wX6_addWord at h
  refine lv_iconst (v := 0) hx hb dX6_addWord_0 (by decide) ?_
  refine lv_istore_n (lv' := [(2, .int 0), (0, .ref (ad k0)), (1, .ref (za x1))]) hx hb dX6_addWord_1 rfl hl (by decide) rfl (fun ls hl => ?_)
  obtain ⟨f12, h⟩ := h
  exact b_2 f12 x1 0 S H locs ls h hsh hG (lv_sub hl [1, 2, 0] rfl)
