set_option maxHeartbeats 4000000 in
set_option maxRecDepth 100000 in
theorem lc_8 {p : Program} {l : Launch} {e : Env} {s : State} {m : MethodId} {below : List Frame} {meth : Method} {c : Code} {b L : Nat} {xs : Nat → Int32} {D : va_G} {Y : Nat → ClassId} {za zv : Nat → Nat} {t : Nat} (C : LC p l s m meth c b L xs D Y za zv) (hL : L ≤ 384) (ht : 8 * t + 8 ≤ L) (nx : lcG p l e s m below meth c b D Y 938 t (t + 1)) : lcG p l e s m below meth c b D Y 573 t t := by
  obtain ⟨hx, hb, hr, hml, hown, hts, hX, hbl, hlocks, hK, hZ, hst⟩ := C
  have hA : ∀ q : Nat, s.heap.size ≤ q → (fun q : Nat => s.heap.size ≤ q) q := fun _ h => h
  have hbA : ¬ (fun q : Nat => s.heap.size ≤ q) b := Nat.not_le.mpr hbl
  have ht48 : t < 48 := by omega
  intro S ad H locs ls hI hG hl
  obtain ⟨n, E, P, lg, pl, oP, oM, dP, hI⟩ := hI
  have hF := hI.1.1
  have hl : lv_has ls 9 [(0, .ref b), (1, .ref (ad 0)), (2, .ref (ad 14)), (3, .ref (ad 37)), (4, .ref (ad 38)), (5, .int (nI (8 * t)))] := hl
  refine lv_aload_n hx hb dL_law_573 rfl (lv_at hl 1 rfl) ?_
  refine lv_aload hx hb dL_law_574 (lv_at hl 4 rfl) ?_
  refine h_callS (As := [.ref (ad 0), .ref (ad 38)]) (rest := []) (tL_throughput l hst S hF  _ _ (throughput_ok hI ht48) (fun E S1 h => h.1)) rfl ⟨hx, hb, hml, hown, hts⟩ (vx_cwSW 2 hts gL_law_L_throughput rfl rfl rfl (by decide +kernel) ⟨by decide, by decide⟩) hK hZ hG hA rfl hl.1 rfl (Nat.le_of_ble_eq_true rfl) ⟨by show 39 + 2 * t + 1 ≤ 600096; omega, by show 10000 + 18 * t + 6 ≤ 7301386; omega⟩ dL_law_576 (fun r_9 S1 H locs hp hsh hG => ?_)
  rcases hp with ⟨rfl, v, S2, hq, hsh2, eS⟩ | ⟨rfl, hq⟩ | ⟨rfl, hq⟩
  · have h9 := hq.2 (kpD S2 v) (Or.inr (Or.inr ⟨_, rfl⟩))
    have hvn := hq.1
    rw [← eS] at h9
    refine W.eq (g2 := F0 m 579 ls [.int 0]) rfl ?_
    refine lv_istore (lv' := [(6, .int 0), (0, .ref b), (1, .ref (ad 0)), (2, .ref (ad 14)), (3, .ref (ad 37)), (4, .ref (ad 38)), (5, .int (nI (8 * t)))]) hx hb dL_law_579 hl (by decide) rfl (fun ls hl => ?_)
    refine lv_aload_n hx hb dL_law_581 rfl (lv_at hl 3 rfl) ?_
    refine r_callV (za := za) (k := 14) (ci := 9) (C := RX9) (T := TX9) (N := 36) (As := []) (rest := []) (tX9_throughput l S1 14  _ h9) ⟨hx, hb, hml, hown, hts⟩ (cwV 0 hts gL_law_X9_throughput rfl rfl rfl (by decide +kernel) ⟨by decide, by decide⟩) hK hG hA (hsh.lt (fn_14 hF)) (cell_9 (hsh.kd (fk_14 hF))) rfl rfl hl.1 rfl (Nat.le_of_ble_eq_true rfl) ⟨by show 39 + 2 * t + 1 ≤ 600096; omega, by show 10000 + 18 * t + 6 ≤ 7301386; omega⟩ dL_law_582 (fun r_9 S3 H locs hp hs3 hG => ?_)
    obtain ⟨u, rfl, hu⟩ := hp
    refine W.eq (g2 := F0 m 585 ls [.double u]) rfl ?_
    refine lv_dstore (lv' := [(7, .double u), (6, .int 0), (0, .ref b), (1, .ref (ad 0)), (2, .ref (ad 14)), (3, .ref (ad 37)), (4, .ref (ad 38)), (5, .int (nI (8 * t)))]) hx hb dL_law_585 hl (by decide) rfl (fun ls hl => ?_)
    obtain ⟨eu, hR1, hR2, hR3, hR4⟩ := hu
    refine lv_aload_n hx hb dL_law_587 rfl (lv_at hl 4 rfl) ?_
    refine r_callV (za := za) (k := 14) (ci := 9) (C := RX9) (T := TX9) (N := 36) (As := []) (rest := []) (tX9_thrown l S3 14 (fun r S9 => r = gX S3 14 32 ∧ S9 = S3) ⟨hs3.lt (hsh.lt (fn_14 hF)), hs3.kd (hsh.kd (fk_14 hF)), rfl, rfl⟩) ⟨hx, hb, hml, hown, hts⟩ (cwV 0 hts gL_law_X9_thrown rfl rfl rfl (by decide +kernel) ⟨by decide, by decide⟩) hK hG hA (hs3.lt (hsh.lt (fn_14 hF))) (cell_9 (hs3.kd (hsh.kd (fk_14 hF)))) rfl rfl hl.1 rfl (Nat.le_of_ble_eq_true rfl) ⟨by show 39 + 2 * t + 1 ≤ 600096; omega, by show 10000 + 18 * t + 6 ≤ 7301386; omega⟩ dL_law_588 (fun r_9 S4 H locs hp hs4 hG => ?_)
    obtain ⟨th, rfl, eth, eS4⟩ := hp
    rw [eS4] at hG
    refine W.eq (g2 := F0 m 591 ls [.int th]) rfl ?_
    refine lv_iload hx hb dL_law_591 (lv_at hl 1 rfl) ?_
    refine lv_icmp_eq (tgt := 598) hx hb dL_law_593 (by decide) (fun c_1 => ?_) (fun c_1 => absurd (eth.trans hR1) c_1)
    refine lv_iload hx hb dL_law_598 (lv_at hl 1 rfl) ?_
    refine lv_if_ne (tgt := 635) hx hb dL_law_600 (by decide) (fun c_2 => absurd rfl c_2) (fun _ => ?_)
    have hlen : gL S3 38 = 1 := by rw [hs3.2.2, hsh.2.2]; exact fl_38 hF
    refine lv_aload hx hb dL_law_603 (lv_at hl 6 rfl) ?_
    refine lv_iconst (v := 0) hx hb dL_law_605 (by decide) ?_
    refine r_dald hx hb hK hG (hs3.lt (hsh.lt (fn_38 hF))) (hs3.kd (hsh.kd (fk_38 hF))) (i := 0) (by rw [hlen]; exact vp01) dL_law_606 ?_
    refine lv_dload hx hb dL_law_607 (lv_at hl 0 rfl) ?_
    refine lv_dcmp hx hb dL_law_609 ?_
    have ez : gF S3 38 ((0 : Int32).toNatClampNeg) = v := by rw [hR3, eS]; show gF (sF S2 38 0 v) 38 0 = _; rw [f_sF, if_pos ⟨rfl, rfl⟩]
    rw [ez, eu, fd_cmp hvn]
    refine lv_if_eq (tgt := 635) hx hb dL_law_610 (by decide) (fun _ => ?_) (fun c_3 => absurd (by decide) c_3)
    refine lv_goto (tgt := 938) hx hb dL_law_635 (by decide) ?_
    exact W.widen (k := 39 + 2 * (t + 1)) (n := 10000 + 18 * (t + 1)) (by omega) (by omega) (nx S3 ad H locs ls hR4 hG (lv_sub hl [2, 3, 4, 5, 6, 7] rfl))
  · have h9 := hq.2 S1 (Or.inl rfl)
    refine W.eq (g2 := F0 m 579 ls [.int 1]) rfl ?_
    refine lv_istore (lv' := [(6, .int 1), (0, .ref b), (1, .ref (ad 0)), (2, .ref (ad 14)), (3, .ref (ad 37)), (4, .ref (ad 38)), (5, .int (nI (8 * t)))]) hx hb dL_law_579 hl (by decide) rfl (fun ls hl => ?_)
    refine lv_aload_n hx hb dL_law_581 rfl (lv_at hl 3 rfl) ?_
    refine r_callV (za := za) (k := 14) (ci := 9) (C := RX9) (T := TX9) (N := 36) (As := []) (rest := []) (tX9_throughput l S1 14  _ h9) ⟨hx, hb, hml, hown, hts⟩ (cwV 0 hts gL_law_X9_throughput rfl rfl rfl (by decide +kernel) ⟨by decide, by decide⟩) hK hG hA (hsh.lt (fn_14 hF)) (cell_9 (hsh.kd (fk_14 hF))) rfl rfl hl.1 rfl (Nat.le_of_ble_eq_true rfl) ⟨by show 39 + 2 * t + 1 ≤ 600096; omega, by show 10000 + 18 * t + 6 ≤ 7301386; omega⟩ dL_law_582 (fun r_9 S3 H locs hp hs3 hG => ?_)
    obtain ⟨u, rfl, hu⟩ := hp
    refine W.eq (g2 := F0 m 585 ls [.double u]) rfl ?_
    refine lv_dstore (lv' := [(7, .double u), (6, .int 1), (0, .ref b), (1, .ref (ad 0)), (2, .ref (ad 14)), (3, .ref (ad 37)), (4, .ref (ad 38)), (5, .int (nI (8 * t)))]) hx hb dL_law_585 hl (by decide) rfl (fun ls hl => ?_)
    obtain ⟨hR1, hR2, hR3, hR4⟩ := hu
    refine lv_aload_n hx hb dL_law_587 rfl (lv_at hl 4 rfl) ?_
    refine r_callV (za := za) (k := 14) (ci := 9) (C := RX9) (T := TX9) (N := 36) (As := []) (rest := []) (tX9_thrown l S3 14 (fun r S9 => r = gX S3 14 32 ∧ S9 = S3) ⟨hs3.lt (hsh.lt (fn_14 hF)), hs3.kd (hsh.kd (fk_14 hF)), rfl, rfl⟩) ⟨hx, hb, hml, hown, hts⟩ (cwV 0 hts gL_law_X9_thrown rfl rfl rfl (by decide +kernel) ⟨by decide, by decide⟩) hK hG hA (hs3.lt (hsh.lt (fn_14 hF))) (cell_9 (hs3.kd (hsh.kd (fk_14 hF)))) rfl rfl hl.1 rfl (Nat.le_of_ble_eq_true rfl) ⟨by show 39 + 2 * t + 1 ≤ 600096; omega, by show 10000 + 18 * t + 6 ≤ 7301386; omega⟩ dL_law_588 (fun r_9 S4 H locs hp hs4 hG => ?_)
    obtain ⟨th, rfl, eth, eS4⟩ := hp
    rw [eS4] at hG
    refine W.eq (g2 := F0 m 591 ls [.int th]) rfl ?_
    refine lv_iload hx hb dL_law_591 (lv_at hl 1 rfl) ?_
    refine lv_icmp_eq (tgt := 598) hx hb dL_law_593 (by decide) (fun c_1 => ?_) (fun c_1 => absurd (eth.trans hR1) c_1)
    refine lv_iload hx hb dL_law_598 (lv_at hl 1 rfl) ?_
    refine lv_if_ne (tgt := 635) hx hb dL_law_600 (by decide) (fun _ => ?_) (fun c_2 => absurd c_2 (by decide))
    refine lv_goto (tgt := 938) hx hb dL_law_635 (by decide) ?_
    exact W.widen (k := 39 + 2 * (t + 1)) (n := 10000 + 18 * (t + 1)) (by omega) (by omega) (nx S3 ad H locs ls hR4 hG (lv_sub hl [2, 3, 4, 5, 6, 7] rfl))
  · exact absurd hq.1 (by decide)
set_option maxHeartbeats 4000000 in
set_option maxRecDepth 100000 in
theorem lc_9 {p : Program} {l : Launch} {e : Env} {s : State} {m : MethodId} {below : List Frame} {meth : Method} {c : Code} {b L : Nat} {xs : Nat → Int32} {D : va_G} {Y : Nat → ClassId} {za zv : Nat → Nat} {t : Nat} (C : LC p l s m meth c b L xs D Y za zv) (hL : L ≤ 384) (ht : 8 * t + 8 ≤ L) (nx : lcG p l e s m below meth c b D Y 938 t (t + 1)) : lcG p l e s m below meth c b D Y 638 t t := by
  obtain ⟨hx, hb, hr, hml, hown, hts, hX, hbl, hlocks, hK, hZ, hst⟩ := C
  have hA : ∀ q : Nat, s.heap.size ≤ q → (fun q : Nat => s.heap.size ≤ q) q := fun _ h => h
  have hbA : ¬ (fun q : Nat => s.heap.size ≤ q) b := Nat.not_le.mpr hbl
  have ht48 : t < 48 := by omega
  intro S ad H locs ls hI hG hl
  obtain ⟨n, E, P, lg, pl, oP, oM, dP, hI⟩ := hI
  have hF := hI.1.1
  have hl : lv_has ls 9 [(0, .ref b), (1, .ref (ad 0)), (2, .ref (ad 14)), (3, .ref (ad 37)), (4, .ref (ad 38)), (5, .int (nI (8 * t)))] := hl
  refine lv_aload_n hx hb dL_law_638 rfl (lv_at hl 1 rfl) ?_
  refine lv_aload_n hx hb dL_law_639 rfl (lv_at hl 0 rfl) ?_
  refine lv_iload hx hb dL_law_640 (lv_at hl 5 rfl) ?_
  refine lv_iconst (v := 1) hx hb dL_law_642 (by decide) ?_
  refine lv_iadd hx hb dL_law_643 ?_
  refine va_sld hx hb hX hbl hbA hG.2.2 (i := nI (8 * t) + 1) (sc_in (j := 1) ht hL (by omega)) dL_law_644 ?_
  refine lv_aload hx hb dL_law_645 (lv_at hl 4 rfl) ?_
  refine h_callS (As := [.ref (ad 0), .int (xs (nI (8 * t) + 1).toNatClampNeg), .ref (ad 38)]) (rest := []) (tL_rate l hst S hF (xs (nI (8 * t) + 1).toNatClampNeg) _ _ (rate_ok hI ht48) (fun E S1 h => h.elim (fun h => Or.inl h.1) (fun h => Or.inr h.1))) rfl ⟨hx, hb, hml, hown, hts⟩ (vx_cwSW 3 hts gL_law_L_rate rfl rfl rfl (by decide +kernel) ⟨by decide, by decide⟩) hK hZ hG hA rfl hl.1 rfl (Nat.le_of_ble_eq_true rfl) ⟨by show 39 + 2 * t + 1 ≤ 600096; omega, by show 10000 + 18 * t + 6 ≤ 7301386; omega⟩ dL_law_647 (fun r_9 S1 H locs hp hsh hG => ?_)
  rcases hp with ⟨rfl, v, S2, hq, hsh2, eS⟩ | ⟨rfl, hq⟩ | ⟨rfl, hq⟩
  · have h9 := hq.2 (kpD S2 v) (Or.inr (Or.inr ⟨_, rfl⟩))
    have hvn := hq.1
    rw [← eS] at h9
    refine W.eq (g2 := F0 m 650 ls [.int 0]) rfl ?_
    refine lv_istore (lv' := [(6, .int 0), (0, .ref b), (1, .ref (ad 0)), (2, .ref (ad 14)), (3, .ref (ad 37)), (4, .ref (ad 38)), (5, .int (nI (8 * t)))]) hx hb dL_law_650 hl (by decide) rfl (fun ls hl => ?_)
    refine lv_aload_n hx hb dL_law_652 rfl (lv_at hl 3 rfl) ?_
    refine lv_aload_n hx hb dL_law_653 rfl (lv_at hl 1 rfl) ?_
    refine lv_iload hx hb dL_law_654 (lv_at hl 6 rfl) ?_
    refine lv_iconst (v := 1) hx hb dL_law_656 (by decide) ?_
    refine lv_iadd hx hb dL_law_657 ?_
    refine va_sld hx hb hX hbl hbA hG.2.2 (i := nI (8 * t) + 1) (sc_in (j := 1) ht hL (by omega)) dL_law_658 ?_
    refine r_callV (za := za) (k := 14) (ci := 9) (C := RX9) (T := TX9) (N := 36) (As := [vI (xs (nI (8 * t) + 1).toNatClampNeg)]) (rest := []) (tX9_rate l S1 14 (xs (nI (8 * t) + 1).toNatClampNeg) _ h9) ⟨hx, hb, hml, hown, hts⟩ (cwV 1 hts gL_law_X9_rate rfl rfl rfl (by decide +kernel) ⟨by decide, by decide⟩) hK hG hA (hsh.lt (fn_14 hF)) (cell_9 (hsh.kd (fk_14 hF))) rfl rfl hl.1 rfl (Nat.le_of_ble_eq_true rfl) ⟨by show 39 + 2 * t + 1 ≤ 600096; omega, by show 10000 + 18 * t + 6 ≤ 7301386; omega⟩ dL_law_659 (fun r_9 S3 H locs hp hs3 hG => ?_)
    obtain ⟨u, rfl, hu⟩ := hp
    refine W.eq (g2 := F0 m 662 ls [.double u]) rfl ?_
    refine lv_dstore (lv' := [(7, .double u), (6, .int 0), (0, .ref b), (1, .ref (ad 0)), (2, .ref (ad 14)), (3, .ref (ad 37)), (4, .ref (ad 38)), (5, .int (nI (8 * t)))]) hx hb dL_law_662 hl (by decide) rfl (fun ls hl => ?_)
    obtain ⟨eu, hR1, hR2, hR3, hR4⟩ := hu
    refine lv_aload_n hx hb dL_law_664 rfl (lv_at hl 4 rfl) ?_
    refine r_callV (za := za) (k := 14) (ci := 9) (C := RX9) (T := TX9) (N := 36) (As := []) (rest := []) (tX9_thrown l S3 14 (fun r S9 => r = gX S3 14 32 ∧ S9 = S3) ⟨hs3.lt (hsh.lt (fn_14 hF)), hs3.kd (hsh.kd (fk_14 hF)), rfl, rfl⟩) ⟨hx, hb, hml, hown, hts⟩ (cwV 0 hts gL_law_X9_thrown rfl rfl rfl (by decide +kernel) ⟨by decide, by decide⟩) hK hG hA (hs3.lt (hsh.lt (fn_14 hF))) (cell_9 (hs3.kd (hsh.kd (fk_14 hF)))) rfl rfl hl.1 rfl (Nat.le_of_ble_eq_true rfl) ⟨by show 39 + 2 * t + 1 ≤ 600096; omega, by show 10000 + 18 * t + 6 ≤ 7301386; omega⟩ dL_law_665 (fun r_9 S4 H locs hp hs4 hG => ?_)
    obtain ⟨th, rfl, eth, eS4⟩ := hp
    rw [eS4] at hG
    refine W.eq (g2 := F0 m 668 ls [.int th]) rfl ?_
    refine lv_iload hx hb dL_law_668 (lv_at hl 1 rfl) ?_
    refine lv_icmp_eq (tgt := 675) hx hb dL_law_670 (by decide) (fun c_1 => ?_) (fun c_1 => absurd (eth.trans hR1) c_1)
    refine lv_iload hx hb dL_law_675 (lv_at hl 1 rfl) ?_
    refine lv_if_ne (tgt := 712) hx hb dL_law_677 (by decide) (fun c_2 => absurd rfl c_2) (fun _ => ?_)
    have hlen : gL S3 38 = 1 := by rw [hs3.2.2, hsh.2.2]; exact fl_38 hF
    refine lv_aload hx hb dL_law_680 (lv_at hl 6 rfl) ?_
    refine lv_iconst (v := 0) hx hb dL_law_682 (by decide) ?_
    refine r_dald hx hb hK hG (hs3.lt (hsh.lt (fn_38 hF))) (hs3.kd (hsh.kd (fk_38 hF))) (i := 0) (by rw [hlen]; exact vp01) dL_law_683 ?_
    refine lv_dload hx hb dL_law_684 (lv_at hl 0 rfl) ?_
    refine lv_dcmp hx hb dL_law_686 ?_
    have ez : gF S3 38 ((0 : Int32).toNatClampNeg) = v := by rw [hR3, eS]; show gF (sF S2 38 0 v) 38 0 = _; rw [f_sF, if_pos ⟨rfl, rfl⟩]
    rw [ez, eu, fd_cmp hvn]
    refine lv_if_eq (tgt := 712) hx hb dL_law_687 (by decide) (fun _ => ?_) (fun c_3 => absurd (by decide) c_3)
    refine lv_goto (tgt := 938) hx hb dL_law_712 (by decide) ?_
    exact W.widen (k := 39 + 2 * (t + 1)) (n := 10000 + 18 * (t + 1)) (by omega) (by omega) (nx S3 ad H locs ls hR4 hG (lv_sub hl [2, 3, 4, 5, 6, 7] rfl))
  · rcases hq with ⟨hE, hq⟩ | ⟨hE, hq⟩
    rotate_left
    · exact absurd hE (by decide)
    have h9 := hq S1 (Or.inl rfl)
    refine W.eq (g2 := F0 m 650 ls [.int 1]) rfl ?_
    refine lv_istore (lv' := [(6, .int 1), (0, .ref b), (1, .ref (ad 0)), (2, .ref (ad 14)), (3, .ref (ad 37)), (4, .ref (ad 38)), (5, .int (nI (8 * t)))]) hx hb dL_law_650 hl (by decide) rfl (fun ls hl => ?_)
    refine lv_aload_n hx hb dL_law_652 rfl (lv_at hl 3 rfl) ?_
    refine lv_aload_n hx hb dL_law_653 rfl (lv_at hl 1 rfl) ?_
    refine lv_iload hx hb dL_law_654 (lv_at hl 6 rfl) ?_
    refine lv_iconst (v := 1) hx hb dL_law_656 (by decide) ?_
    refine lv_iadd hx hb dL_law_657 ?_
    refine va_sld hx hb hX hbl hbA hG.2.2 (i := nI (8 * t) + 1) (sc_in (j := 1) ht hL (by omega)) dL_law_658 ?_
    refine r_callV (za := za) (k := 14) (ci := 9) (C := RX9) (T := TX9) (N := 36) (As := [vI (xs (nI (8 * t) + 1).toNatClampNeg)]) (rest := []) (tX9_rate l S1 14 (xs (nI (8 * t) + 1).toNatClampNeg) _ h9) ⟨hx, hb, hml, hown, hts⟩ (cwV 1 hts gL_law_X9_rate rfl rfl rfl (by decide +kernel) ⟨by decide, by decide⟩) hK hG hA (hsh.lt (fn_14 hF)) (cell_9 (hsh.kd (fk_14 hF))) rfl rfl hl.1 rfl (Nat.le_of_ble_eq_true rfl) ⟨by show 39 + 2 * t + 1 ≤ 600096; omega, by show 10000 + 18 * t + 6 ≤ 7301386; omega⟩ dL_law_659 (fun r_9 S3 H locs hp hs3 hG => ?_)
    obtain ⟨u, rfl, hu⟩ := hp
    refine W.eq (g2 := F0 m 662 ls [.double u]) rfl ?_
    refine lv_dstore (lv' := [(7, .double u), (6, .int 1), (0, .ref b), (1, .ref (ad 0)), (2, .ref (ad 14)), (3, .ref (ad 37)), (4, .ref (ad 38)), (5, .int (nI (8 * t)))]) hx hb dL_law_662 hl (by decide) rfl (fun ls hl => ?_)
    obtain ⟨hR1, hR2, hR3, hR4⟩ := hu
    refine lv_aload_n hx hb dL_law_664 rfl (lv_at hl 4 rfl) ?_
    refine r_callV (za := za) (k := 14) (ci := 9) (C := RX9) (T := TX9) (N := 36) (As := []) (rest := []) (tX9_thrown l S3 14 (fun r S9 => r = gX S3 14 32 ∧ S9 = S3) ⟨hs3.lt (hsh.lt (fn_14 hF)), hs3.kd (hsh.kd (fk_14 hF)), rfl, rfl⟩) ⟨hx, hb, hml, hown, hts⟩ (cwV 0 hts gL_law_X9_thrown rfl rfl rfl (by decide +kernel) ⟨by decide, by decide⟩) hK hG hA (hs3.lt (hsh.lt (fn_14 hF))) (cell_9 (hs3.kd (hsh.kd (fk_14 hF)))) rfl rfl hl.1 rfl (Nat.le_of_ble_eq_true rfl) ⟨by show 39 + 2 * t + 1 ≤ 600096; omega, by show 10000 + 18 * t + 6 ≤ 7301386; omega⟩ dL_law_665 (fun r_9 S4 H locs hp hs4 hG => ?_)
    obtain ⟨th, rfl, eth, eS4⟩ := hp
    rw [eS4] at hG
    refine W.eq (g2 := F0 m 668 ls [.int th]) rfl ?_
    refine lv_iload hx hb dL_law_668 (lv_at hl 1 rfl) ?_
    refine lv_icmp_eq (tgt := 675) hx hb dL_law_670 (by decide) (fun c_1 => ?_) (fun c_1 => absurd (eth.trans hR1) c_1)
    refine lv_iload hx hb dL_law_675 (lv_at hl 1 rfl) ?_
    refine lv_if_ne (tgt := 712) hx hb dL_law_677 (by decide) (fun _ => ?_) (fun c_2 => absurd c_2 (by decide))
    refine lv_goto (tgt := 938) hx hb dL_law_712 (by decide) ?_
    exact W.widen (k := 39 + 2 * (t + 1)) (n := 10000 + 18 * (t + 1)) (by omega) (by omega) (nx S3 ad H locs ls hR4 hG (lv_sub hl [2, 3, 4, 5, 6, 7] rfl))
  · rcases hq with ⟨hE, hq⟩ | ⟨hE, hq⟩
    · exact absurd hE (by decide)
    have h9 := hq S1 (Or.inl rfl)
    refine W.eq (g2 := F0 m 650 ls [.int 2]) rfl ?_
    refine lv_istore (lv' := [(6, .int 2), (0, .ref b), (1, .ref (ad 0)), (2, .ref (ad 14)), (3, .ref (ad 37)), (4, .ref (ad 38)), (5, .int (nI (8 * t)))]) hx hb dL_law_650 hl (by decide) rfl (fun ls hl => ?_)
    refine lv_aload_n hx hb dL_law_652 rfl (lv_at hl 3 rfl) ?_
    refine lv_aload_n hx hb dL_law_653 rfl (lv_at hl 1 rfl) ?_
    refine lv_iload hx hb dL_law_654 (lv_at hl 6 rfl) ?_
    refine lv_iconst (v := 1) hx hb dL_law_656 (by decide) ?_
    refine lv_iadd hx hb dL_law_657 ?_
    refine va_sld hx hb hX hbl hbA hG.2.2 (i := nI (8 * t) + 1) (sc_in (j := 1) ht hL (by omega)) dL_law_658 ?_
    refine r_callV (za := za) (k := 14) (ci := 9) (C := RX9) (T := TX9) (N := 36) (As := [vI (xs (nI (8 * t) + 1).toNatClampNeg)]) (rest := []) (tX9_rate l S1 14 (xs (nI (8 * t) + 1).toNatClampNeg) _ h9) ⟨hx, hb, hml, hown, hts⟩ (cwV 1 hts gL_law_X9_rate rfl rfl rfl (by decide +kernel) ⟨by decide, by decide⟩) hK hG hA (hsh.lt (fn_14 hF)) (cell_9 (hsh.kd (fk_14 hF))) rfl rfl hl.1 rfl (Nat.le_of_ble_eq_true rfl) ⟨by show 39 + 2 * t + 1 ≤ 600096; omega, by show 10000 + 18 * t + 6 ≤ 7301386; omega⟩ dL_law_659 (fun r_9 S3 H locs hp hs3 hG => ?_)
    obtain ⟨u, rfl, hu⟩ := hp
    refine W.eq (g2 := F0 m 662 ls [.double u]) rfl ?_
    refine lv_dstore (lv' := [(7, .double u), (6, .int 2), (0, .ref b), (1, .ref (ad 0)), (2, .ref (ad 14)), (3, .ref (ad 37)), (4, .ref (ad 38)), (5, .int (nI (8 * t)))]) hx hb dL_law_662 hl (by decide) rfl (fun ls hl => ?_)
    obtain ⟨hR1, hR2, hR3, hR4⟩ := hu
    refine lv_aload_n hx hb dL_law_664 rfl (lv_at hl 4 rfl) ?_
    refine r_callV (za := za) (k := 14) (ci := 9) (C := RX9) (T := TX9) (N := 36) (As := []) (rest := []) (tX9_thrown l S3 14 (fun r S9 => r = gX S3 14 32 ∧ S9 = S3) ⟨hs3.lt (hsh.lt (fn_14 hF)), hs3.kd (hsh.kd (fk_14 hF)), rfl, rfl⟩) ⟨hx, hb, hml, hown, hts⟩ (cwV 0 hts gL_law_X9_thrown rfl rfl rfl (by decide +kernel) ⟨by decide, by decide⟩) hK hG hA (hs3.lt (hsh.lt (fn_14 hF))) (cell_9 (hs3.kd (hsh.kd (fk_14 hF)))) rfl rfl hl.1 rfl (Nat.le_of_ble_eq_true rfl) ⟨by show 39 + 2 * t + 1 ≤ 600096; omega, by show 10000 + 18 * t + 6 ≤ 7301386; omega⟩ dL_law_665 (fun r_9 S4 H locs hp hs4 hG => ?_)
    obtain ⟨th, rfl, eth, eS4⟩ := hp
    rw [eS4] at hG
    refine W.eq (g2 := F0 m 668 ls [.int th]) rfl ?_
    refine lv_iload hx hb dL_law_668 (lv_at hl 1 rfl) ?_
    refine lv_icmp_eq (tgt := 675) hx hb dL_law_670 (by decide) (fun c_1 => ?_) (fun c_1 => absurd (eth.trans hR1) c_1)
    refine lv_iload hx hb dL_law_675 (lv_at hl 1 rfl) ?_
    refine lv_if_ne (tgt := 712) hx hb dL_law_677 (by decide) (fun _ => ?_) (fun c_2 => absurd c_2 (by decide))
    refine lv_goto (tgt := 938) hx hb dL_law_712 (by decide) ?_
    exact W.widen (k := 39 + 2 * (t + 1)) (n := 10000 + 18 * (t + 1)) (by omega) (by omega) (nx S3 ad H locs ls hR4 hG (lv_sub hl [2, 3, 4, 5, 6, 7] rfl))
