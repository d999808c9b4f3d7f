set_option maxHeartbeats 4000000 in
set_option maxRecDepth 100000 in
theorem whole_start {p : Program} {e : Env} {s : State} {m : MethodId} {below : List Frame} {meth : Method} {c : Code} (l : Launch) (hst : l.stackTraces = false) {b L : Nat} {xs : Nat → Int32} (hL : L ≤ 384) (C0 : lw_At p s m meth c b L xs) : W p l e room_1 s m #[Value.ref b] below meth c s.heap [] 0 0 (lw_Z below #[Value.ref b] s) (entryFrame m ([Value.ref b] : List Value).toArray 9) := by
  obtain ⟨hx, hb, hr, hml, hown, hts, hX, hbl, hlocks, hgv⟩ := id C0
  have hA : ∀ q : Nat, s.heap.size ≤ q → (fun q : Nat => s.heap.size ≤ q) q := fun _ h => h
  have hN : narrow_1.before #[Value.ref b] s = true := by rw [Cond.before_and, Bool.and_eq_true] at hgv; exact hgv.2
  obtain ⟨D, Y, hK⟩ := gk0 hts
  obtain ⟨za, zv, hZ⟩ := gz0 (A := fun q : Nat => s.heap.size ≤ q) hN hts (fun a h => Nat.not_le.mpr h)
  have C : LC p l s m meth c b L xs D Y za zv := ⟨hx, hb, hr, hml, hown, hts, hX, hbl, hlocks, hK, hZ, hst⟩
  have hl := lv_entry ([.ref b]) (n := 9) (Nat.le_of_ble_eq_true rfl)
  rw [lg_entry_eq]
  generalize (lg_sl ([.ref b]) ++ List.replicate (9 - (lg_sl ([.ref b])).length) Slot.unset).toArray = ls at hl ⊢
  have hl : lv_has ls 9 [(0, .ref b)] := hl
  have hG : gS D Y (fun _ => 0) (fun q : Nat => s.heap.size ≤ q) s.heap S00 s.heap [] := ⟨fun k q h => by simp [wl, gN, S00] at h, ⟨fun i j p q h => by simp [wl, gN, S00] at h, fun k q h => by simp [wl, gN, S00] at h⟩, va_S.rf⟩
  refine r_new (ci := 8) (C := RX8) (T := TX8) (N := 12) (fs := [.null, .null, .null, .null, .null, .null, .null, .null, .null, .int 0, .int 0, .int 0]) hx hb hts (fun w h => (gi_wsX80 w h).1) tyX8 tyX8_ok hown (hts (.classLink RL 8 RX8) (List.mem_of_getElem? (i := 87) (by decide +kernel))) (hts (.instantiable RX8 12) (List.mem_of_getElem? (i := 88) (by decide +kernel))) (hts (.initialized RX8) (List.mem_of_getElem? (i := 66) (by decide +kernel))) hK hG hA (Ini.zero.cl (by decide)) rfl (fun j hj => match j, hj with | 0, _ => rfl | 1, _ => rfl | 2, _ => rfl | 3, _ => rfl | 4, _ => rfl | 5, _ => rfl | 6, _ => rfl | 7, _ => rfl | 8, _ => rfl | 9, _ => rfl | 10, _ => rfl | 11, _ => rfl | j + 12, hj => absurd hj (by omega)) (fun _ => rfl) (by decide) (by decide) dL_law_0 (fun ad1 H had1 hG => ?_)
  obtain ⟨S1, eS1⟩ : ∃ z : GS, z = nwS S00 8 0 := ⟨_, rfl⟩
  rw [← eS1] at hG
  have i1 := Ini.zero.nw (S2 := S1) eS1 (by decide) (by decide) (by decide) (by decide)
  refine W.widen (k := 1) (n := 12) (by decide) (by decide) ?_
  refine W.eq (g2 := F0 m 3 ls [.ref (ad1 0)]) rfl ?_
  refine lv_dup hx hb dL_law_3 rfl ?_
  refine a_callI (As := []) (rest := [.ref (ad1 0)]) (tX8_init l S1 0 _ (init8 i1 (fun S2 h => h))) rfl ⟨hx, hb, hml, hown, hts⟩ (cwI 0 hts gL_law_X8_init rfl rfl rfl (hts (.initialized RX8) (List.mem_of_getElem? (i := 66) (by decide +kernel))) (hts (.methodLink RL 55 yX8_init) (List.mem_of_getElem? (i := 89) (by decide +kernel))) (hts (.instanceMethod yX8_init) (List.mem_of_getElem? (i := 90) (by decide +kernel))) rfl (by decide +kernel) ⟨by decide, by decide⟩) hK hZ hG hA rfl hl.1 rfl (Nat.le_of_ble_eq_true rfl) ⟨by decide, by decide⟩ dL_law_4 (fun r_9 S2 ad2 H locs hp hx2 had2 hG => ?_)
  obtain ⟨rfl, i2⟩ := hp
  have h20 : ad2 0 = ad1 0 := had2 0 (i1.lt (by decide))
  refine W.widen (k := 14) (n := 261) (by decide) (by decide) ?_
  refine W.eq (g2 := F0 m 7 ls [.ref (ad2 0)]) (by rw [h20]; rfl) ?_
  refine lv_astore_n (lv' := [(1, .ref (ad2 0)), (0, .ref b)]) hx hb dL_law_7 rfl hl (by decide) rfl (fun ls hl => ?_)
  refine r_new (ci := 9) (C := RX9) (T := TX9) (N := 36) (fs := [.null, .int 0, .null, .int 0, .null, .int 0, .null, .int 0, .null, .null, .null, .null, .null, .null, .null, .null, .null, .null, .null, .int 0, .int 0, .null, .null, .null, .null, .int 0, .null, .null, .null, .int 0, .int 0, .int 0, .int 0, .long 0, .long 0, .int 0]) hx hb hts (fun w h => (gi_wsX90 w h).1) tyX9 tyX9_ok hown (hts (.classLink RL 56 RX9) (List.mem_of_getElem? (i := 946) (by decide +kernel))) (hts (.instantiable RX9 36) (List.mem_of_getElem? (i := 947) (by decide +kernel))) (hts (.initialized RX9) (List.mem_of_getElem? (i := 73) (by decide +kernel))) hK hG hA (i2.cl (by decide)) rfl (fun j hj => match j, hj with | 0, _ => rfl | 1, _ => rfl | 2, _ => rfl | 3, _ => rfl | 4, _ => rfl | 5, _ => rfl | 6, _ => rfl | 7, _ => rfl | 8, _ => rfl | 9, _ => rfl | 10, _ => rfl | 11, _ => rfl | 12, _ => rfl | 13, _ => rfl | 14, _ => rfl | 15, _ => rfl | 16, _ => rfl | 17, _ => rfl | 18, _ => rfl | 19, _ => rfl | 20, _ => rfl | 21, _ => rfl | 22, _ => rfl | 23, _ => rfl | 24, _ => rfl | 25, _ => rfl | 26, _ => rfl | 27, _ => rfl | 28, _ => rfl | 29, _ => rfl | 30, _ => rfl | 31, _ => rfl | 32, _ => rfl | 33, _ => rfl | 34, _ => rfl | 35, _ => rfl | j + 36, hj => absurd hj (by omega)) (fun _ => rfl) (by decide) (by decide) dL_law_8 (fun ad3 H had3 hG => ?_)
  obtain ⟨S3, eS3⟩ : ∃ z : GS, z = nwS S2 9 0 := ⟨_, rfl⟩
  rw [← eS3] at hG
  have i3 := i2.nw (S2 := S3) eS3 (by decide) (by decide) (by decide) (by decide)
  have h30 : ad3 0 = ad2 0 := had3 0 (i2.lt (by decide))
  have hl : lv_has ls 9 [(1, .ref (ad3 0)), (0, .ref b)] := by rw [h30]; exact hl
  refine W.widen (k := 15) (n := 297) (by decide) (by decide) ?_
  refine W.eq (g2 := F0 m 11 ls [.ref (ad3 14)]) (by rw [i2.1]) ?_
  refine lv_dup hx hb dL_law_11 rfl ?_
  refine a_callI (As := []) (rest := [.ref (ad3 14)]) (tX9_init l S3 14 _ (init9 i3 (fun S h => h))) rfl ⟨hx, hb, hml, hown, hts⟩ (cwI 0 hts gL_law_X9_init rfl rfl rfl (hts (.initialized RX9) (List.mem_of_getElem? (i := 73) (by decide +kernel))) (hts (.methodLink RL 58 yX9_init) (List.mem_of_getElem? (i := 948) (by decide +kernel))) (hts (.instanceMethod yX9_init) (List.mem_of_getElem? (i := 949) (by decide +kernel))) rfl (by decide +kernel) ⟨by decide, by decide⟩) hK hZ hG hA rfl hl.1 rfl (Nat.le_of_ble_eq_true rfl) ⟨by decide, by decide⟩ dL_law_12 (fun r_9 S4 ad4 H locs hp hx4 had4 hG => ?_)
  obtain ⟨rfl, i4⟩ := hp
  have h40 : ad4 0 = ad3 0 := had4 0 (i3.lt (by decide))
  have h414 : ad4 14 = ad3 14 := had4 14 (i3.lt (by decide))
  have hl : lv_has ls 9 [(1, .ref (ad4 0)), (0, .ref b)] := by rw [h40]; exact hl
  refine W.widen (k := 37) (n := 8897) (by decide) (by decide) ?_
  refine W.eq (g2 := F0 m 15 ls [.ref (ad4 14)]) (by rw [h414]; rfl) ?_
  refine lv_astore_n (lv' := [(2, .ref (ad4 14)), (1, .ref (ad4 0)), (0, .ref b)]) hx hb dL_law_15 rfl hl (by decide) rfl (fun ls hl => ?_)
  refine lv_iconst (v := 1) hx hb dL_law_16 (by decide) ?_
  refine r_newa (atype := .long) (ty := .long) (N' := 1) (n := 1) (a0 := (1, .inr (.inl (fun _ => 0)))) hx hb (hts (.arrayClass .long) (List.mem_of_getElem? (i := 1317) (by decide +kernel))) rfl hK hG hA (i4.cl (by decide)) 4 14 rfl (fun _ _ h => h) (fun _ => rfl) (fun _ => rfl) (by decide) (by decide) (by show 1 * 8 ≤ 536870912; omega) (by decide) (by decide) dL_law_17 (fun ad5 H had5 hG => ?_)
  obtain ⟨S5, eS5⟩ : ∃ z : GS, z = nwS S4 14 1 := ⟨_, rfl⟩
  rw [← eS5] at hG
  have i5 := i4.nw (S2 := S5) eS5 (by decide) (by decide) (by decide) (by decide)
  have h50 : ad5 0 = ad4 0 := had5 0 (i4.lt (by decide))
  have h514 : ad5 14 = ad4 14 := had5 14 (i4.lt (by decide))
  have hl : lv_has ls 9 [(2, .ref (ad5 14)), (1, .ref (ad5 0)), (0, .ref b)] := by rw [h50, h514]; exact hl
  refine W.widen (k := 38) (n := 8898) (by decide) (by decide) ?_
  refine W.eq (g2 := F0 m 19 ls [.ref (ad5 37)]) (by rw [i4.1]) ?_
  refine lv_astore_n (lv' := [(3, .ref (ad5 37)), (2, .ref (ad5 14)), (1, .ref (ad5 0)), (0, .ref b)]) hx hb dL_law_19 rfl hl (by decide) rfl (fun ls hl => ?_)
  refine lv_iconst (v := 1) hx hb dL_law_20 (by decide) ?_
  refine r_newa (atype := .double) (ty := .double) (N' := 1) (n := 1) (a0 := (1, .inr (.inr (.inr (.inl (fun _ => 0)))))) hx hb (hts (.arrayClass .double) (List.mem_of_getElem? (i := 1318) (by decide +kernel))) rfl hK hG hA (i5.cl (by decide)) 5 15 rfl (fun _ _ h => h) (fun _ => rfl) (fun _ => rfl) (by decide) (by decide) (by show 1 * 8 ≤ 536870912; omega) (by decide) (by decide) dL_law_21 (fun ad6 H had6 hG => ?_)
  obtain ⟨S6, eS6⟩ : ∃ z : GS, z = nwS S5 15 1 := ⟨_, rfl⟩
  rw [← eS6] at hG
  have i6 := i5.nw (S2 := S6) eS6 (by decide) (by decide) (by decide) (by decide)
  have h60 : ad6 0 = ad5 0 := had6 0 (i5.lt (by decide))
  have h614 : ad6 14 = ad5 14 := had6 14 (i5.lt (by decide))
  have h637 : ad6 37 = ad5 37 := had6 37 (i5.lt (by decide))
  have hl : lv_has ls 9 [(3, .ref (ad6 37)), (2, .ref (ad6 14)), (1, .ref (ad6 0)), (0, .ref b)] := by rw [h60, h614, h637]; exact hl
  refine W.widen (k := 39) (n := 8899) (by decide) (by decide) ?_
  refine W.eq (g2 := F0 m 23 ls [.ref (ad6 38)]) (by rw [i5.1]) ?_
  refine lv_astore (lv' := [(4, .ref (ad6 38)), (3, .ref (ad6 37)), (2, .ref (ad6 14)), (1, .ref (ad6 0)), (0, .ref b)]) hx hb dL_law_23 hl (by decide) rfl (fun ls hl => ?_)
  refine lv_iconst (v := 0) hx hb dL_law_25 (by decide) ?_
  refine lv_istore (lv' := [(5, .int 0), (4, .ref (ad6 38)), (3, .ref (ad6 37)), (2, .ref (ad6 14)), (1, .ref (ad6 0)), (0, .ref b)]) hx hb dL_law_26 hl (by decide) rfl (fun ls hl => ?_)
  have hl : lv_has ls 9 (lcL ad6 b (nI (8 * 0))) := lv_sub hl [5, 4, 3, 2, 1, 0] rfl
  exact W.widen (k := 39 + 2 * 0) (n := 10000 + 18 * 0) (by decide) (by decide) (lc_loop C hL 48 0 rfl S6 ad6 H _ ls ⟨0, 0, 0, 0, 0, none, none, (-1, -1), inv0 i6⟩ hG hl)
