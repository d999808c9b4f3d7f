set_option maxHeartbeats 4000000 in
set_option maxRecDepth 100000 in
theorem lc_6 {p : Program} {l : Launch} {e : Env} {s : State} {m : MethodId} {below : List Frame} {meth : Method} {c : Code} {b L : Nat} {xs : Nat → Int32} {D : va_G} {Y : Nat → ClassId} {za zv : Nat → Nat} {t : Nat} (C : LC p l s m meth c b L xs D Y za zv) (hL : L ≤ 384) (ht : 8 * t + 8 ≤ L) (nx : lcG p l e s m below meth c b D Y 938 t (t + 1)) : lcG p l e s m below meth c b D Y 425 t t := by
  obtain ⟨hx, hb, hr, hml, hown, hts, hX, hbl, hlocks, hK, hZ, hst⟩ := C
  have hA : ∀ q : Nat, s.heap.size ≤ q → (fun q : Nat => s.heap.size ≤ q) q := fun _ h => h
  have hbA : ¬ (fun q : Nat => s.heap.size ≤ q) b := Nat.not_le.mpr hbl
  have ht48 : t < 48 := by omega
  intro S ad H locs ls hI hG hl
  obtain ⟨n, E, P, lg, pl, oP, oM, dP, hI⟩ := hI
  have hF := hI.1.1
  have hl : lv_has ls 9 [(0, .ref b), (1, .ref (ad 0)), (2, .ref (ad 14)), (3, .ref (ad 37)), (4, .ref (ad 38)), (5, .int (nI (8 * t)))] := hl
  refine lv_aload_n hx hb dL_law_425 rfl (lv_at hl 1 rfl) ?_
  refine lv_aload_n hx hb dL_law_426 rfl (lv_at hl 0 rfl) ?_
  refine lv_iload hx hb dL_law_427 (lv_at hl 5 rfl) ?_
  refine lv_iconst (v := 1) hx hb dL_law_429 (by decide) ?_
  refine lv_iadd hx hb dL_law_430 ?_
  refine va_sld hx hb hX hbl hbA hG.2.2 (i := nI (8 * t) + 1) (sc_in (j := 1) ht hL (by omega)) dL_law_431 ?_
  refine lv_aload_n hx hb dL_law_432 rfl (lv_at hl 0 rfl) ?_
  refine lv_iload hx hb dL_law_433 (lv_at hl 5 rfl) ?_
  refine lv_iconst (v := 2) hx hb dL_law_435 (by decide) ?_
  refine lv_iadd hx hb dL_law_436 ?_
  refine va_sld hx hb hX hbl hbA hG.2.2 (i := nI (8 * t) + 2) (sc_in (j := 2) ht hL (by omega)) dL_law_437 ?_
  refine lv_aload_n hx hb dL_law_438 rfl (lv_at hl 0 rfl) ?_
  refine lv_iload hx hb dL_law_439 (lv_at hl 5 rfl) ?_
  refine lv_iconst (v := 3) hx hb dL_law_441 (by decide) ?_
  refine lv_iadd hx hb dL_law_442 ?_
  refine va_sld hx hb hX hbl hbA hG.2.2 (i := nI (8 * t) + 3) (sc_in (j := 3) ht hL (by omega)) dL_law_443 ?_
  refine lv_aload_n hx hb dL_law_444 rfl (lv_at hl 3 rfl) ?_
  refine h_callS (As := [.ref (ad 0), .int (xs (nI (8 * t) + 1).toNatClampNeg), .int (xs (nI (8 * t) + 2).toNatClampNeg), .int (xs (nI (8 * t) + 3).toNatClampNeg), .ref (ad 37)]) (rest := []) (tL_shown l hst S hF (xs (nI (8 * t) + 1).toNatClampNeg) (xs (nI (8 * t) + 2).toNatClampNeg) (xs (nI (8 * t) + 3).toNatClampNeg) _ _ (shown_ok hI ht48) (fun E S1 h => h.1)) rfl ⟨hx, hb, hml, hown, hts⟩ (vx_cwSW 5 hts gL_law_L_shown rfl rfl rfl (by decide +kernel) ⟨by decide, by decide⟩) hK hZ hG hA rfl hl.1 rfl (Nat.le_of_ble_eq_true rfl) ⟨by show 39 + 2 * t + 1 ≤ 600096; omega, by show 10000 + 18 * t + 6 ≤ 7301386; omega⟩ dL_law_445 (fun r_9 S1 H locs hp hsh hG => ?_)
  rcases hp with ⟨rfl, v, S2, hq, hsh2, eS⟩ | ⟨rfl, hq⟩ | ⟨rfl, hq⟩
  · have h9 := hq (kpI S2 v) (Or.inr (Or.inl ⟨_, rfl⟩))
    rw [← eS] at h9
    refine W.eq (g2 := F0 m 448 ls [.int 0]) rfl ?_
    refine lv_istore (lv' := [(6, .int 0), (0, .ref b), (1, .ref (ad 0)), (2, .ref (ad 14)), (3, .ref (ad 37)), (4, .ref (ad 38)), (5, .int (nI (8 * t)))]) hx hb dL_law_448 hl (by decide) rfl (fun ls hl => ?_)
    refine lv_aload_n hx hb dL_law_450 rfl (lv_at hl 3 rfl) ?_
    refine lv_aload_n hx hb dL_law_451 rfl (lv_at hl 1 rfl) ?_
    refine lv_iload hx hb dL_law_452 (lv_at hl 6 rfl) ?_
    refine lv_iconst (v := 1) hx hb dL_law_454 (by decide) ?_
    refine lv_iadd hx hb dL_law_455 ?_
    refine va_sld hx hb hX hbl hbA hG.2.2 (i := nI (8 * t) + 1) (sc_in (j := 1) ht hL (by omega)) dL_law_456 ?_
    refine lv_aload_n hx hb dL_law_457 rfl (lv_at hl 1 rfl) ?_
    refine lv_iload hx hb dL_law_458 (lv_at hl 6 rfl) ?_
    refine lv_iconst (v := 2) hx hb dL_law_460 (by decide) ?_
    refine lv_iadd hx hb dL_law_461 ?_
    refine va_sld hx hb hX hbl hbA hG.2.2 (i := nI (8 * t) + 2) (sc_in (j := 2) ht hL (by omega)) dL_law_462 ?_
    refine lv_aload_n hx hb dL_law_463 rfl (lv_at hl 1 rfl) ?_
    refine lv_iload hx hb dL_law_464 (lv_at hl 6 rfl) ?_
    refine lv_iconst (v := 3) hx hb dL_law_466 (by decide) ?_
    refine lv_iadd hx hb dL_law_467 ?_
    refine va_sld hx hb hX hbl hbA hG.2.2 (i := nI (8 * t) + 3) (sc_in (j := 3) ht hL (by omega)) dL_law_468 ?_
    refine r_callV (za := za) (k := 14) (ci := 9) (C := RX9) (T := TX9) (N := 36) (As := [vI (xs (nI (8 * t) + 1).toNatClampNeg), vI (xs (nI (8 * t) + 2).toNatClampNeg), vI (xs (nI (8 * t) + 3).toNatClampNeg)]) (rest := []) (tX9_shown l S1 14 (xs (nI (8 * t) + 1).toNatClampNeg) (xs (nI (8 * t) + 2).toNatClampNeg) (xs (nI (8 * t) + 3).toNatClampNeg) _ h9) ⟨hx, hb, hml, hown, hts⟩ (cwV 3 hts gL_law_X9_shown rfl rfl rfl (by decide +kernel) ⟨by decide, by decide⟩) hK hG hA (hsh.lt (fn_14 hF)) (cell_9 (hsh.kd (fk_14 hF))) rfl rfl hl.1 rfl (Nat.le_of_ble_eq_true rfl) ⟨by show 39 + 2 * t + 1 ≤ 600096; omega, by show 10000 + 18 * t + 6 ≤ 7301386; omega⟩ dL_law_469 (fun r_9 S3 H locs hp hs3 hG => ?_)
    obtain ⟨u, rfl, hu⟩ := hp
    refine W.eq (g2 := F0 m 472 ls [.int u]) rfl ?_
    refine lv_istore (lv' := [(7, .int u), (6, .int 0), (0, .ref b), (1, .ref (ad 0)), (2, .ref (ad 14)), (3, .ref (ad 37)), (4, .ref (ad 38)), (5, .int (nI (8 * t)))]) hx hb dL_law_472 hl (by decide) rfl (fun ls hl => ?_)
    obtain ⟨eu, hR1, hR2, hR3, hR4⟩ := hu
    refine lv_aload_n hx hb dL_law_474 rfl (lv_at hl 4 rfl) ?_
    refine r_callV (za := za) (k := 14) (ci := 9) (C := RX9) (T := TX9) (N := 36) (As := []) (rest := []) (tX9_thrown l S3 14 (fun r S9 => r = gX S3 14 32 ∧ S9 = S3) ⟨hs3.lt (hsh.lt (fn_14 hF)), hs3.kd (hsh.kd (fk_14 hF)), rfl, rfl⟩) ⟨hx, hb, hml, hown, hts⟩ (cwV 0 hts gL_law_X9_thrown rfl rfl rfl (by decide +kernel) ⟨by decide, by decide⟩) hK hG hA (hs3.lt (hsh.lt (fn_14 hF))) (cell_9 (hs3.kd (hsh.kd (fk_14 hF)))) rfl rfl hl.1 rfl (Nat.le_of_ble_eq_true rfl) ⟨by show 39 + 2 * t + 1 ≤ 600096; omega, by show 10000 + 18 * t + 6 ≤ 7301386; omega⟩ dL_law_475 (fun r_9 S4 H locs hp hs4 hG => ?_)
    obtain ⟨th, rfl, eth, eS4⟩ := hp
    rw [eS4] at hG
    refine W.eq (g2 := F0 m 478 ls [.int th]) rfl ?_
    refine lv_iload hx hb dL_law_478 (lv_at hl 1 rfl) ?_
    refine lv_icmp_eq (tgt := 485) hx hb dL_law_480 (by decide) (fun c_1 => ?_) (fun c_1 => absurd (eth.trans hR1) c_1)
    refine lv_iload hx hb dL_law_485 (lv_at hl 1 rfl) ?_
    refine lv_if_ne (tgt := 502) hx hb dL_law_487 (by decide) (fun c_2 => absurd rfl c_2) (fun _ => ?_)
    have hlen : gL S3 37 = 1 := by rw [hs3.2.2, hsh.2.2]; exact fl_37 hF
    refine lv_aload_n hx hb dL_law_490 rfl (lv_at hl 5 rfl) ?_
    refine lv_iconst (v := 0) hx hb dL_law_491 (by decide) ?_
    refine r_lald hx hb hK hG (hs3.lt (hsh.lt (fn_37 hF))) (hs3.kd (hsh.kd (fk_37 hF))) (i := 0) (by rw [hlen]; exact vp01) dL_law_492 ?_
    refine lv_iload hx hb dL_law_493 (lv_at hl 0 rfl) ?_
    refine lv_i2l hx hb dL_law_495 rfl ?_
    refine W.lcmp hx hb dL_law_496 ?_
    have ez : gZ S3 37 ((0 : Int32).toNatClampNeg) = Int32.toInt64 u := by rw [eu, hR2, eS]; show gZ (sZ S2 37 0 (Int32.toInt64 v)) 37 0 = _; rw [z_sZ, if_pos ⟨rfl, rfl⟩]
    refine lv_if_eq (tgt := 502) hx hb dL_law_497 (by decide) (fun _ => ?_) (fun c_3 => absurd ((lg_cmp_eq _ _).mpr ez) c_3)
    refine lv_goto (tgt := 938) hx hb dL_law_502 (by decide) ?_
    exact W.widen (k := 39 + 2 * (t + 1)) (n := 10000 + 18 * (t + 1)) (by omega) (by omega) (nx S3 ad H locs ls hR4 hG (lv_sub hl [2, 3, 4, 5, 6, 7] rfl))
  · have h9 := hq.2 S1 (Or.inl rfl)
    refine W.eq (g2 := F0 m 448 ls [.int 1]) rfl ?_
    refine lv_istore (lv' := [(6, .int 1), (0, .ref b), (1, .ref (ad 0)), (2, .ref (ad 14)), (3, .ref (ad 37)), (4, .ref (ad 38)), (5, .int (nI (8 * t)))]) hx hb dL_law_448 hl (by decide) rfl (fun ls hl => ?_)
    refine lv_aload_n hx hb dL_law_450 rfl (lv_at hl 3 rfl) ?_
    refine lv_aload_n hx hb dL_law_451 rfl (lv_at hl 1 rfl) ?_
    refine lv_iload hx hb dL_law_452 (lv_at hl 6 rfl) ?_
    refine lv_iconst (v := 1) hx hb dL_law_454 (by decide) ?_
    refine lv_iadd hx hb dL_law_455 ?_
    refine va_sld hx hb hX hbl hbA hG.2.2 (i := nI (8 * t) + 1) (sc_in (j := 1) ht hL (by omega)) dL_law_456 ?_
    refine lv_aload_n hx hb dL_law_457 rfl (lv_at hl 1 rfl) ?_
    refine lv_iload hx hb dL_law_458 (lv_at hl 6 rfl) ?_
    refine lv_iconst (v := 2) hx hb dL_law_460 (by decide) ?_
    refine lv_iadd hx hb dL_law_461 ?_
    refine va_sld hx hb hX hbl hbA hG.2.2 (i := nI (8 * t) + 2) (sc_in (j := 2) ht hL (by omega)) dL_law_462 ?_
    refine lv_aload_n hx hb dL_law_463 rfl (lv_at hl 1 rfl) ?_
    refine lv_iload hx hb dL_law_464 (lv_at hl 6 rfl) ?_
    refine lv_iconst (v := 3) hx hb dL_law_466 (by decide) ?_
    refine lv_iadd hx hb dL_law_467 ?_
    refine va_sld hx hb hX hbl hbA hG.2.2 (i := nI (8 * t) + 3) (sc_in (j := 3) ht hL (by omega)) dL_law_468 ?_
    refine r_callV (za := za) (k := 14) (ci := 9) (C := RX9) (T := TX9) (N := 36) (As := [vI (xs (nI (8 * t) + 1).toNatClampNeg), vI (xs (nI (8 * t) + 2).toNatClampNeg), vI (xs (nI (8 * t) + 3).toNatClampNeg)]) (rest := []) (tX9_shown l S1 14 (xs (nI (8 * t) + 1).toNatClampNeg) (xs (nI (8 * t) + 2).toNatClampNeg) (xs (nI (8 * t) + 3).toNatClampNeg) _ h9) ⟨hx, hb, hml, hown, hts⟩ (cwV 3 hts gL_law_X9_shown rfl rfl rfl (by decide +kernel) ⟨by decide, by decide⟩) hK hG hA (hsh.lt (fn_14 hF)) (cell_9 (hsh.kd (fk_14 hF))) rfl rfl hl.1 rfl (Nat.le_of_ble_eq_true rfl) ⟨by show 39 + 2 * t + 1 ≤ 600096; omega, by show 10000 + 18 * t + 6 ≤ 7301386; omega⟩ dL_law_469 (fun r_9 S3 H locs hp hs3 hG => ?_)
    obtain ⟨u, rfl, hu⟩ := hp
    refine W.eq (g2 := F0 m 472 ls [.int u]) rfl ?_
    refine lv_istore (lv' := [(7, .int u), (6, .int 1), (0, .ref b), (1, .ref (ad 0)), (2, .ref (ad 14)), (3, .ref (ad 37)), (4, .ref (ad 38)), (5, .int (nI (8 * t)))]) hx hb dL_law_472 hl (by decide) rfl (fun ls hl => ?_)
    obtain ⟨hR1, hR2, hR3, hR4⟩ := hu
    refine lv_aload_n hx hb dL_law_474 rfl (lv_at hl 4 rfl) ?_
    refine r_callV (za := za) (k := 14) (ci := 9) (C := RX9) (T := TX9) (N := 36) (As := []) (rest := []) (tX9_thrown l S3 14 (fun r S9 => r = gX S3 14 32 ∧ S9 = S3) ⟨hs3.lt (hsh.lt (fn_14 hF)), hs3.kd (hsh.kd (fk_14 hF)), rfl, rfl⟩) ⟨hx, hb, hml, hown, hts⟩ (cwV 0 hts gL_law_X9_thrown rfl rfl rfl (by decide +kernel) ⟨by decide, by decide⟩) hK hG hA (hs3.lt (hsh.lt (fn_14 hF))) (cell_9 (hs3.kd (hsh.kd (fk_14 hF)))) rfl rfl hl.1 rfl (Nat.le_of_ble_eq_true rfl) ⟨by show 39 + 2 * t + 1 ≤ 600096; omega, by show 10000 + 18 * t + 6 ≤ 7301386; omega⟩ dL_law_475 (fun r_9 S4 H locs hp hs4 hG => ?_)
    obtain ⟨th, rfl, eth, eS4⟩ := hp
    rw [eS4] at hG
    refine W.eq (g2 := F0 m 478 ls [.int th]) rfl ?_
    refine lv_iload hx hb dL_law_478 (lv_at hl 1 rfl) ?_
    refine lv_icmp_eq (tgt := 485) hx hb dL_law_480 (by decide) (fun c_1 => ?_) (fun c_1 => absurd (eth.trans hR1) c_1)
    refine lv_iload hx hb dL_law_485 (lv_at hl 1 rfl) ?_
    refine lv_if_ne (tgt := 502) hx hb dL_law_487 (by decide) (fun _ => ?_) (fun c_2 => absurd c_2 (by decide))
    refine lv_goto (tgt := 938) hx hb dL_law_502 (by decide) ?_
    exact W.widen (k := 39 + 2 * (t + 1)) (n := 10000 + 18 * (t + 1)) (by omega) (by omega) (nx S3 ad H locs ls hR4 hG (lv_sub hl [2, 3, 4, 5, 6, 7] rfl))
  · exact absurd hq.1 (by decide)
set_option maxHeartbeats 4000000 in
set_option maxRecDepth 100000 in
theorem lc_7 {p : Program} {l : Launch} {e : Env} {s : State} {m : MethodId} {below : List Frame} {meth : Method} {c : Code} {b L : Nat} {xs : Nat → Int32} {D : va_G} {Y : Nat → ClassId} {za zv : Nat → Nat} {t : Nat} (C : LC p l s m meth c b L xs D Y za zv) (hL : L ≤ 384) (ht : 8 * t + 8 ≤ L) (nx : lcG p l e s m below meth c b D Y 938 t (t + 1)) : lcG p l e s m below meth c b D Y 505 t t := by
  obtain ⟨hx, hb, hr, hml, hown, hts, hX, hbl, hlocks, hK, hZ, hst⟩ := C
  have hA : ∀ q : Nat, s.heap.size ≤ q → (fun q : Nat => s.heap.size ≤ q) q := fun _ h => h
  have hbA : ¬ (fun q : Nat => s.heap.size ≤ q) b := Nat.not_le.mpr hbl
  have ht48 : t < 48 := by omega
  intro S ad H locs ls hI hG hl
  obtain ⟨n, E, P, lg, pl, oP, oM, dP, hI⟩ := hI
  have hF := hI.1.1
  have hl : lv_has ls 9 [(0, .ref b), (1, .ref (ad 0)), (2, .ref (ad 14)), (3, .ref (ad 37)), (4, .ref (ad 38)), (5, .int (nI (8 * t)))] := hl
  refine lv_aload_n hx hb dL_law_505 rfl (lv_at hl 1 rfl) ?_
  refine lv_aload_n hx hb dL_law_506 rfl (lv_at hl 0 rfl) ?_
  refine lv_iload hx hb dL_law_507 (lv_at hl 5 rfl) ?_
  refine lv_iconst (v := 1) hx hb dL_law_509 (by decide) ?_
  refine lv_iadd hx hb dL_law_510 ?_
  refine va_sld hx hb hX hbl hbA hG.2.2 (i := nI (8 * t) + 1) (sc_in (j := 1) ht hL (by omega)) dL_law_511 ?_
  refine lv_aload_n hx hb dL_law_512 rfl (lv_at hl 0 rfl) ?_
  refine lv_iload hx hb dL_law_513 (lv_at hl 5 rfl) ?_
  refine lv_iconst (v := 2) hx hb dL_law_515 (by decide) ?_
  refine lv_iadd hx hb dL_law_516 ?_
  refine va_sld hx hb hX hbl hbA hG.2.2 (i := nI (8 * t) + 2) (sc_in (j := 2) ht hL (by omega)) dL_law_517 ?_
  refine lv_aload_n hx hb dL_law_518 rfl (lv_at hl 3 rfl) ?_
  refine h_callS (As := [.ref (ad 0), .int (xs (nI (8 * t) + 1).toNatClampNeg), .int (xs (nI (8 * t) + 2).toNatClampNeg), .ref (ad 37)]) (rest := []) (tL_diagnostic l hst S hF (xs (nI (8 * t) + 1).toNatClampNeg) (xs (nI (8 * t) + 2).toNatClampNeg) _ _ (diagnostic_ok hI ht48) (fun E S1 h => h.1)) rfl ⟨hx, hb, hml, hown, hts⟩ (vx_cwSW 4 hts gL_law_L_diagnostic rfl rfl rfl (by decide +kernel) ⟨by decide, by decide⟩) hK hZ hG hA rfl hl.1 rfl (Nat.le_of_ble_eq_true rfl) ⟨by show 39 + 2 * t + 1 ≤ 600096; omega, by show 10000 + 18 * t + 6 ≤ 7301386; omega⟩ dL_law_519 (fun r_9 S1 H locs hp hsh hG => ?_)
  rcases hp with ⟨rfl, v, S2, hq, hsh2, eS⟩ | ⟨rfl, hq⟩ | ⟨rfl, hq⟩
  · have h9 := hq (kpI S2 v) (Or.inr (Or.inl ⟨_, rfl⟩))
    rw [← eS] at h9
    refine W.eq (g2 := F0 m 522 ls [.int 0]) rfl ?_
    refine lv_istore (lv' := [(6, .int 0), (0, .ref b), (1, .ref (ad 0)), (2, .ref (ad 14)), (3, .ref (ad 37)), (4, .ref (ad 38)), (5, .int (nI (8 * t)))]) hx hb dL_law_522 hl (by decide) rfl (fun ls hl => ?_)
    refine lv_aload_n hx hb dL_law_524 rfl (lv_at hl 3 rfl) ?_
    refine lv_aload_n hx hb dL_law_525 rfl (lv_at hl 1 rfl) ?_
    refine lv_iload hx hb dL_law_526 (lv_at hl 6 rfl) ?_
    refine lv_iconst (v := 1) hx hb dL_law_528 (by decide) ?_
    refine lv_iadd hx hb dL_law_529 ?_
    refine va_sld hx hb hX hbl hbA hG.2.2 (i := nI (8 * t) + 1) (sc_in (j := 1) ht hL (by omega)) dL_law_530 ?_
    refine lv_aload_n hx hb dL_law_531 rfl (lv_at hl 1 rfl) ?_
    refine lv_iload hx hb dL_law_532 (lv_at hl 6 rfl) ?_
    refine lv_iconst (v := 2) hx hb dL_law_534 (by decide) ?_
    refine lv_iadd hx hb dL_law_535 ?_
    refine va_sld hx hb hX hbl hbA hG.2.2 (i := nI (8 * t) + 2) (sc_in (j := 2) ht hL (by omega)) dL_law_536 ?_
    refine r_callV (za := za) (k := 14) (ci := 9) (C := RX9) (T := TX9) (N := 36) (As := [vI (xs (nI (8 * t) + 1).toNatClampNeg), vI (xs (nI (8 * t) + 2).toNatClampNeg)]) (rest := []) (tX9_diagnostic l S1 14 (xs (nI (8 * t) + 1).toNatClampNeg) (xs (nI (8 * t) + 2).toNatClampNeg) _ h9) ⟨hx, hb, hml, hown, hts⟩ (cwV 2 hts gL_law_X9_diagnostic rfl rfl rfl (by decide +kernel) ⟨by decide, by decide⟩) hK hG hA (hsh.lt (fn_14 hF)) (cell_9 (hsh.kd (fk_14 hF))) rfl rfl hl.1 rfl (Nat.le_of_ble_eq_true rfl) ⟨by show 39 + 2 * t + 1 ≤ 600096; omega, by show 10000 + 18 * t + 6 ≤ 7301386; omega⟩ dL_law_537 (fun r_9 S3 H locs hp hs3 hG => ?_)
    obtain ⟨u, rfl, hu⟩ := hp
    refine W.eq (g2 := F0 m 540 ls [.int u]) rfl ?_
    refine lv_istore (lv' := [(7, .int u), (6, .int 0), (0, .ref b), (1, .ref (ad 0)), (2, .ref (ad 14)), (3, .ref (ad 37)), (4, .ref (ad 38)), (5, .int (nI (8 * t)))]) hx hb dL_law_540 hl (by decide) rfl (fun ls hl => ?_)
    obtain ⟨eu, hR1, hR2, hR3, hR4⟩ := hu
    refine lv_aload_n hx hb dL_law_542 rfl (lv_at hl 4 rfl) ?_
    refine r_callV (za := za) (k := 14) (ci := 9) (C := RX9) (T := TX9) (N := 36) (As := []) (rest := []) (tX9_thrown l S3 14 (fun r S9 => r = gX S3 14 32 ∧ S9 = S3) ⟨hs3.lt (hsh.lt (fn_14 hF)), hs3.kd (hsh.kd (fk_14 hF)), rfl, rfl⟩) ⟨hx, hb, hml, hown, hts⟩ (cwV 0 hts gL_law_X9_thrown rfl rfl rfl (by decide +kernel) ⟨by decide, by decide⟩) hK hG hA (hs3.lt (hsh.lt (fn_14 hF))) (cell_9 (hs3.kd (hsh.kd (fk_14 hF)))) rfl rfl hl.1 rfl (Nat.le_of_ble_eq_true rfl) ⟨by show 39 + 2 * t + 1 ≤ 600096; omega, by show 10000 + 18 * t + 6 ≤ 7301386; omega⟩ dL_law_543 (fun r_9 S4 H locs hp hs4 hG => ?_)
    obtain ⟨th, rfl, eth, eS4⟩ := hp
    rw [eS4] at hG
    refine W.eq (g2 := F0 m 546 ls [.int th]) rfl ?_
    refine lv_iload hx hb dL_law_546 (lv_at hl 1 rfl) ?_
    refine lv_icmp_eq (tgt := 553) hx hb dL_law_548 (by decide) (fun c_1 => ?_) (fun c_1 => absurd (eth.trans hR1) c_1)
    refine lv_iload hx hb dL_law_553 (lv_at hl 1 rfl) ?_
    refine lv_if_ne (tgt := 570) hx hb dL_law_555 (by decide) (fun c_2 => absurd rfl c_2) (fun _ => ?_)
    have hlen : gL S3 37 = 1 := by rw [hs3.2.2, hsh.2.2]; exact fl_37 hF
    refine lv_aload_n hx hb dL_law_558 rfl (lv_at hl 5 rfl) ?_
    refine lv_iconst (v := 0) hx hb dL_law_559 (by decide) ?_
    refine r_lald hx hb hK hG (hs3.lt (hsh.lt (fn_37 hF))) (hs3.kd (hsh.kd (fk_37 hF))) (i := 0) (by rw [hlen]; exact vp01) dL_law_560 ?_
    refine lv_iload hx hb dL_law_561 (lv_at hl 0 rfl) ?_
    refine lv_i2l hx hb dL_law_563 rfl ?_
    refine W.lcmp hx hb dL_law_564 ?_
    have ez : gZ S3 37 ((0 : Int32).toNatClampNeg) = Int32.toInt64 u := by rw [eu, hR2, eS]; show gZ (sZ S2 37 0 (Int32.toInt64 v)) 37 0 = _; rw [z_sZ, if_pos ⟨rfl, rfl⟩]
    refine lv_if_eq (tgt := 570) hx hb dL_law_565 (by decide) (fun _ => ?_) (fun c_3 => absurd ((lg_cmp_eq _ _).mpr ez) c_3)
    refine lv_goto (tgt := 938) hx hb dL_law_570 (by decide) ?_
    exact W.widen (k := 39 + 2 * (t + 1)) (n := 10000 + 18 * (t + 1)) (by omega) (by omega) (nx S3 ad H locs ls hR4 hG (lv_sub hl [2, 3, 4, 5, 6, 7] rfl))
  · have h9 := hq.2 S1 (Or.inl rfl)
    refine W.eq (g2 := F0 m 522 ls [.int 1]) rfl ?_
    refine lv_istore (lv' := [(6, .int 1), (0, .ref b), (1, .ref (ad 0)), (2, .ref (ad 14)), (3, .ref (ad 37)), (4, .ref (ad 38)), (5, .int (nI (8 * t)))]) hx hb dL_law_522 hl (by decide) rfl (fun ls hl => ?_)
    refine lv_aload_n hx hb dL_law_524 rfl (lv_at hl 3 rfl) ?_
    refine lv_aload_n hx hb dL_law_525 rfl (lv_at hl 1 rfl) ?_
    refine lv_iload hx hb dL_law_526 (lv_at hl 6 rfl) ?_
    refine lv_iconst (v := 1) hx hb dL_law_528 (by decide) ?_
    refine lv_iadd hx hb dL_law_529 ?_
    refine va_sld hx hb hX hbl hbA hG.2.2 (i := nI (8 * t) + 1) (sc_in (j := 1) ht hL (by omega)) dL_law_530 ?_
    refine lv_aload_n hx hb dL_law_531 rfl (lv_at hl 1 rfl) ?_
    refine lv_iload hx hb dL_law_532 (lv_at hl 6 rfl) ?_
    refine lv_iconst (v := 2) hx hb dL_law_534 (by decide) ?_
    refine lv_iadd hx hb dL_law_535 ?_
    refine va_sld hx hb hX hbl hbA hG.2.2 (i := nI (8 * t) + 2) (sc_in (j := 2) ht hL (by omega)) dL_law_536 ?_
    refine r_callV (za := za) (k := 14) (ci := 9) (C := RX9) (T := TX9) (N := 36) (As := [vI (xs (nI (8 * t) + 1).toNatClampNeg), vI (xs (nI (8 * t) + 2).toNatClampNeg)]) (rest := []) (tX9_diagnostic l S1 14 (xs (nI (8 * t) + 1).toNatClampNeg) (xs (nI (8 * t) + 2).toNatClampNeg) _ h9) ⟨hx, hb, hml, hown, hts⟩ (cwV 2 hts gL_law_X9_diagnostic rfl rfl rfl (by decide +kernel) ⟨by decide, by decide⟩) hK hG hA (hsh.lt (fn_14 hF)) (cell_9 (hsh.kd (fk_14 hF))) rfl rfl hl.1 rfl (Nat.le_of_ble_eq_true rfl) ⟨by show 39 + 2 * t + 1 ≤ 600096; omega, by show 10000 + 18 * t + 6 ≤ 7301386; omega⟩ dL_law_537 (fun r_9 S3 H locs hp hs3 hG => ?_)
    obtain ⟨u, rfl, hu⟩ := hp
    refine W.eq (g2 := F0 m 540 ls [.int u]) rfl ?_
    refine lv_istore (lv' := [(7, .int u), (6, .int 1), (0, .ref b), (1, .ref (ad 0)), (2, .ref (ad 14)), (3, .ref (ad 37)), (4, .ref (ad 38)), (5, .int (nI (8 * t)))]) hx hb dL_law_540 hl (by decide) rfl (fun ls hl => ?_)
    obtain ⟨hR1, hR2, hR3, hR4⟩ := hu
    refine lv_aload_n hx hb dL_law_542 rfl (lv_at hl 4 rfl) ?_
    refine r_callV (za := za) (k := 14) (ci := 9) (C := RX9) (T := TX9) (N := 36) (As := []) (rest := []) (tX9_thrown l S3 14 (fun r S9 => r = gX S3 14 32 ∧ S9 = S3) ⟨hs3.lt (hsh.lt (fn_14 hF)), hs3.kd (hsh.kd (fk_14 hF)), rfl, rfl⟩) ⟨hx, hb, hml, hown, hts⟩ (cwV 0 hts gL_law_X9_thrown rfl rfl rfl (by decide +kernel) ⟨by decide, by decide⟩) hK hG hA (hs3.lt (hsh.lt (fn_14 hF))) (cell_9 (hs3.kd (hsh.kd (fk_14 hF)))) rfl rfl hl.1 rfl (Nat.le_of_ble_eq_true rfl) ⟨by show 39 + 2 * t + 1 ≤ 600096; omega, by show 10000 + 18 * t + 6 ≤ 7301386; omega⟩ dL_law_543 (fun r_9 S4 H locs hp hs4 hG => ?_)
    obtain ⟨th, rfl, eth, eS4⟩ := hp
    rw [eS4] at hG
    refine W.eq (g2 := F0 m 546 ls [.int th]) rfl ?_
    refine lv_iload hx hb dL_law_546 (lv_at hl 1 rfl) ?_
    refine lv_icmp_eq (tgt := 553) hx hb dL_law_548 (by decide) (fun c_1 => ?_) (fun c_1 => absurd (eth.trans hR1) c_1)
    refine lv_iload hx hb dL_law_553 (lv_at hl 1 rfl) ?_
    refine lv_if_ne (tgt := 570) hx hb dL_law_555 (by decide) (fun _ => ?_) (fun c_2 => absurd c_2 (by decide))
    refine lv_goto (tgt := 938) hx hb dL_law_570 (by decide) ?_
    exact W.widen (k := 39 + 2 * (t + 1)) (n := 10000 + 18 * (t + 1)) (by omega) (by omega) (nx S3 ad H locs ls hR4 hG (lv_sub hl [2, 3, 4, 5, 6, 7] rfl))
  · exact absurd hq.1 (by decide)
set_option maxHeartbeats 4000000 in
set_option maxRecDepth 100000 in
theorem lc_10 {p : Program} {l : Launch} {e : Env} {s : State} {m : MethodId} {below : List Frame} {meth : Method} {c : Code} {b L : Nat} {xs : Nat → Int32} {D : va_G} {Y : Nat → ClassId} {za zv : Nat → Nat} {t : Nat} (C : LC p l s m meth c b L xs D Y za zv) (hL : L ≤ 384) (ht : 8 * t + 8 ≤ L) (nx : lcG p l e s m below meth c b D Y 938 t (t + 1)) : lcG p l e s m below meth c b D Y 715 t t := by
  obtain ⟨hx, hb, hr, hml, hown, hts, hX, hbl, hlocks, hK, hZ, hst⟩ := C
  have hA : ∀ q : Nat, s.heap.size ≤ q → (fun q : Nat => s.heap.size ≤ q) q := fun _ h => h
  have hbA : ¬ (fun q : Nat => s.heap.size ≤ q) b := Nat.not_le.mpr hbl
  have ht48 : t < 48 := by omega
  intro S ad H locs ls hI hG hl
  obtain ⟨n, E, P, lg, pl, oP, oM, dP, hI⟩ := hI
  have hF := hI.1.1
  have hl : lv_has ls 9 [(0, .ref b), (1, .ref (ad 0)), (2, .ref (ad 14)), (3, .ref (ad 37)), (4, .ref (ad 38)), (5, .int (nI (8 * t)))] := hl
  refine lv_aload_n hx hb dL_law_715 rfl (lv_at hl 1 rfl) ?_
  refine lv_aload_n hx hb dL_law_716 rfl (lv_at hl 0 rfl) ?_
  refine lv_iload hx hb dL_law_717 (lv_at hl 5 rfl) ?_
  refine lv_iconst (v := 1) hx hb dL_law_719 (by decide) ?_
  refine lv_iadd hx hb dL_law_720 ?_
  refine va_sld hx hb hX hbl hbA hG.2.2 (i := nI (8 * t) + 1) (sc_in (j := 1) ht hL (by omega)) dL_law_721 ?_
  refine lv_aload_n hx hb dL_law_722 rfl (lv_at hl 3 rfl) ?_
  refine h_callS (As := [.ref (ad 0), .int (xs (nI (8 * t) + 1).toNatClampNeg), .ref (ad 37)]) (rest := []) (tL_percentile l hst S hF (xs (nI (8 * t) + 1).toNatClampNeg) _ _ (percentile_ok hI ht48) (fun E S1 h => h.elim (fun h => Or.inl h.1) (fun h => Or.inr h.1))) rfl ⟨hx, hb, hml, hown, hts⟩ (vx_cwSW 3 hts gL_law_L_percentile rfl rfl rfl (by decide +kernel) ⟨by decide, by decide⟩) hK hZ hG hA rfl hl.1 rfl (Nat.le_of_ble_eq_true rfl) ⟨by show 39 + 2 * t + 1 ≤ 600096; omega, by show 10000 + 18 * t + 6 ≤ 7301386; omega⟩ dL_law_723 (fun r_9 S1 H locs hp hsh hG => ?_)
  rcases hp with ⟨rfl, v, S2, hq, hsh2, eS⟩ | ⟨rfl, hq⟩ | ⟨rfl, hq⟩
  · have h9 := hq (kpI S2 v) (Or.inr (Or.inl ⟨_, rfl⟩))
    rw [← eS] at h9
    refine W.eq (g2 := F0 m 726 ls [.int 0]) rfl ?_
    refine lv_istore (lv' := [(6, .int 0), (0, .ref b), (1, .ref (ad 0)), (2, .ref (ad 14)), (3, .ref (ad 37)), (4, .ref (ad 38)), (5, .int (nI (8 * t)))]) hx hb dL_law_726 hl (by decide) rfl (fun ls hl => ?_)
    refine lv_aload_n hx hb dL_law_728 rfl (lv_at hl 3 rfl) ?_
    refine lv_aload_n hx hb dL_law_729 rfl (lv_at hl 1 rfl) ?_
    refine lv_iload hx hb dL_law_730 (lv_at hl 6 rfl) ?_
    refine lv_iconst (v := 1) hx hb dL_law_732 (by decide) ?_
    refine lv_iadd hx hb dL_law_733 ?_
    refine va_sld hx hb hX hbl hbA hG.2.2 (i := nI (8 * t) + 1) (sc_in (j := 1) ht hL (by omega)) dL_law_734 ?_
    refine r_callV (za := za) (k := 14) (ci := 9) (C := RX9) (T := TX9) (N := 36) (As := [vI (xs (nI (8 * t) + 1).toNatClampNeg)]) (rest := []) (tX9_percentile l S1 14 (xs (nI (8 * t) + 1).toNatClampNeg) _ h9) ⟨hx, hb, hml, hown, hts⟩ (cwV 1 hts gL_law_X9_percentile rfl rfl rfl (by decide +kernel) ⟨by decide, by decide⟩) hK hG hA (hsh.lt (fn_14 hF)) (cell_9 (hsh.kd (fk_14 hF))) rfl rfl hl.1 rfl (Nat.le_of_ble_eq_true rfl) ⟨by show 39 + 2 * t + 1 ≤ 600096; omega, by show 10000 + 18 * t + 6 ≤ 7301386; omega⟩ dL_law_735 (fun r_9 S3 H locs hp hs3 hG => ?_)
    obtain ⟨u, rfl, hu⟩ := hp
    refine W.eq (g2 := F0 m 738 ls [.int u]) rfl ?_
    refine lv_istore (lv' := [(7, .int u), (6, .int 0), (0, .ref b), (1, .ref (ad 0)), (2, .ref (ad 14)), (3, .ref (ad 37)), (4, .ref (ad 38)), (5, .int (nI (8 * t)))]) hx hb dL_law_738 hl (by decide) rfl (fun ls hl => ?_)
    obtain ⟨eu, hR1, hR2, hR3, hR4⟩ := hu
    refine lv_aload_n hx hb dL_law_740 rfl (lv_at hl 4 rfl) ?_
    refine r_callV (za := za) (k := 14) (ci := 9) (C := RX9) (T := TX9) (N := 36) (As := []) (rest := []) (tX9_thrown l S3 14 (fun r S9 => r = gX S3 14 32 ∧ S9 = S3) ⟨hs3.lt (hsh.lt (fn_14 hF)), hs3.kd (hsh.kd (fk_14 hF)), rfl, rfl⟩) ⟨hx, hb, hml, hown, hts⟩ (cwV 0 hts gL_law_X9_thrown rfl rfl rfl (by decide +kernel) ⟨by decide, by decide⟩) hK hG hA (hs3.lt (hsh.lt (fn_14 hF))) (cell_9 (hs3.kd (hsh.kd (fk_14 hF)))) rfl rfl hl.1 rfl (Nat.le_of_ble_eq_true rfl) ⟨by show 39 + 2 * t + 1 ≤ 600096; omega, by show 10000 + 18 * t + 6 ≤ 7301386; omega⟩ dL_law_741 (fun r_9 S4 H locs hp hs4 hG => ?_)
    obtain ⟨th, rfl, eth, eS4⟩ := hp
    rw [eS4] at hG
    refine W.eq (g2 := F0 m 744 ls [.int th]) rfl ?_
    refine lv_iload hx hb dL_law_744 (lv_at hl 1 rfl) ?_
    refine lv_icmp_eq (tgt := 751) hx hb dL_law_746 (by decide) (fun c_1 => ?_) (fun c_1 => absurd (eth.trans hR1) c_1)
    refine lv_iload hx hb dL_law_751 (lv_at hl 1 rfl) ?_
    refine lv_if_ne (tgt := 768) hx hb dL_law_753 (by decide) (fun c_2 => absurd rfl c_2) (fun _ => ?_)
    have hlen : gL S3 37 = 1 := by rw [hs3.2.2, hsh.2.2]; exact fl_37 hF
    refine lv_aload_n hx hb dL_law_756 rfl (lv_at hl 5 rfl) ?_
    refine lv_iconst (v := 0) hx hb dL_law_757 (by decide) ?_
    refine r_lald hx hb hK hG (hs3.lt (hsh.lt (fn_37 hF))) (hs3.kd (hsh.kd (fk_37 hF))) (i := 0) (by rw [hlen]; exact vp01) dL_law_758 ?_
    refine lv_iload hx hb dL_law_759 (lv_at hl 0 rfl) ?_
    refine lv_i2l hx hb dL_law_761 rfl ?_
    refine W.lcmp hx hb dL_law_762 ?_
    have ez : gZ S3 37 ((0 : Int32).toNatClampNeg) = Int32.toInt64 u := by rw [eu, hR2, eS]; show gZ (sZ S2 37 0 (Int32.toInt64 v)) 37 0 = _; rw [z_sZ, if_pos ⟨rfl, rfl⟩]
    refine lv_if_eq (tgt := 768) hx hb dL_law_763 (by decide) (fun _ => ?_) (fun c_3 => absurd ((lg_cmp_eq _ _).mpr ez) c_3)
    refine lv_goto (tgt := 938) hx hb dL_law_768 (by decide) ?_
    exact W.widen (k := 39 + 2 * (t + 1)) (n := 10000 + 18 * (t + 1)) (by omega) (by omega) (nx S3 ad H locs ls hR4 hG (lv_sub hl [2, 3, 4, 5, 6, 7] rfl))
  · rcases hq with ⟨hE, hq⟩ | ⟨hE, hq⟩
    rotate_left
    · exact absurd hE (by decide)
    have h9 := hq S1 (Or.inl rfl)
    refine W.eq (g2 := F0 m 726 ls [.int 1]) rfl ?_
    refine lv_istore (lv' := [(6, .int 1), (0, .ref b), (1, .ref (ad 0)), (2, .ref (ad 14)), (3, .ref (ad 37)), (4, .ref (ad 38)), (5, .int (nI (8 * t)))]) hx hb dL_law_726 hl (by decide) rfl (fun ls hl => ?_)
    refine lv_aload_n hx hb dL_law_728 rfl (lv_at hl 3 rfl) ?_
    refine lv_aload_n hx hb dL_law_729 rfl (lv_at hl 1 rfl) ?_
    refine lv_iload hx hb dL_law_730 (lv_at hl 6 rfl) ?_
    refine lv_iconst (v := 1) hx hb dL_law_732 (by decide) ?_
    refine lv_iadd hx hb dL_law_733 ?_
    refine va_sld hx hb hX hbl hbA hG.2.2 (i := nI (8 * t) + 1) (sc_in (j := 1) ht hL (by omega)) dL_law_734 ?_
    refine r_callV (za := za) (k := 14) (ci := 9) (C := RX9) (T := TX9) (N := 36) (As := [vI (xs (nI (8 * t) + 1).toNatClampNeg)]) (rest := []) (tX9_percentile l S1 14 (xs (nI (8 * t) + 1).toNatClampNeg) _ h9) ⟨hx, hb, hml, hown, hts⟩ (cwV 1 hts gL_law_X9_percentile rfl rfl rfl (by decide +kernel) ⟨by decide, by decide⟩) hK hG hA (hsh.lt (fn_14 hF)) (cell_9 (hsh.kd (fk_14 hF))) rfl rfl hl.1 rfl (Nat.le_of_ble_eq_true rfl) ⟨by show 39 + 2 * t + 1 ≤ 600096; omega, by show 10000 + 18 * t + 6 ≤ 7301386; omega⟩ dL_law_735 (fun r_9 S3 H locs hp hs3 hG => ?_)
    obtain ⟨u, rfl, hu⟩ := hp
    refine W.eq (g2 := F0 m 738 ls [.int u]) rfl ?_
    refine lv_istore (lv' := [(7, .int u), (6, .int 1), (0, .ref b), (1, .ref (ad 0)), (2, .ref (ad 14)), (3, .ref (ad 37)), (4, .ref (ad 38)), (5, .int (nI (8 * t)))]) hx hb dL_law_738 hl (by decide) rfl (fun ls hl => ?_)
    obtain ⟨hR1, hR2, hR3, hR4⟩ := hu
    refine lv_aload_n hx hb dL_law_740 rfl (lv_at hl 4 rfl) ?_
    refine r_callV (za := za) (k := 14) (ci := 9) (C := RX9) (T := TX9) (N := 36) (As := []) (rest := []) (tX9_thrown l S3 14 (fun r S9 => r = gX S3 14 32 ∧ S9 = S3) ⟨hs3.lt (hsh.lt (fn_14 hF)), hs3.kd (hsh.kd (fk_14 hF)), rfl, rfl⟩) ⟨hx, hb, hml, hown, hts⟩ (cwV 0 hts gL_law_X9_thrown rfl rfl rfl (by decide +kernel) ⟨by decide, by decide⟩) hK hG hA (hs3.lt (hsh.lt (fn_14 hF))) (cell_9 (hs3.kd (hsh.kd (fk_14 hF)))) rfl rfl hl.1 rfl (Nat.le_of_ble_eq_true rfl) ⟨by show 39 + 2 * t + 1 ≤ 600096; omega, by show 10000 + 18 * t + 6 ≤ 7301386; omega⟩ dL_law_741 (fun r_9 S4 H locs hp hs4 hG => ?_)
    obtain ⟨th, rfl, eth, eS4⟩ := hp
    rw [eS4] at hG
    refine W.eq (g2 := F0 m 744 ls [.int th]) rfl ?_
    refine lv_iload hx hb dL_law_744 (lv_at hl 1 rfl) ?_
    refine lv_icmp_eq (tgt := 751) hx hb dL_law_746 (by decide) (fun c_1 => ?_) (fun c_1 => absurd (eth.trans hR1) c_1)
    refine lv_iload hx hb dL_law_751 (lv_at hl 1 rfl) ?_
    refine lv_if_ne (tgt := 768) hx hb dL_law_753 (by decide) (fun _ => ?_) (fun c_2 => absurd c_2 (by decide))
    refine lv_goto (tgt := 938) hx hb dL_law_768 (by decide) ?_
    exact W.widen (k := 39 + 2 * (t + 1)) (n := 10000 + 18 * (t + 1)) (by omega) (by omega) (nx S3 ad H locs ls hR4 hG (lv_sub hl [2, 3, 4, 5, 6, 7] rfl))
  · rcases hq with ⟨hE, hq⟩ | ⟨hE, hq⟩
    · exact absurd hE (by decide)
    have h9 := hq S1 (Or.inl rfl)
    refine W.eq (g2 := F0 m 726 ls [.int 2]) rfl ?_
    refine lv_istore (lv' := [(6, .int 2), (0, .ref b), (1, .ref (ad 0)), (2, .ref (ad 14)), (3, .ref (ad 37)), (4, .ref (ad 38)), (5, .int (nI (8 * t)))]) hx hb dL_law_726 hl (by decide) rfl (fun ls hl => ?_)
    refine lv_aload_n hx hb dL_law_728 rfl (lv_at hl 3 rfl) ?_
    refine lv_aload_n hx hb dL_law_729 rfl (lv_at hl 1 rfl) ?_
    refine lv_iload hx hb dL_law_730 (lv_at hl 6 rfl) ?_
    refine lv_iconst (v := 1) hx hb dL_law_732 (by decide) ?_
    refine lv_iadd hx hb dL_law_733 ?_
    refine va_sld hx hb hX hbl hbA hG.2.2 (i := nI (8 * t) + 1) (sc_in (j := 1) ht hL (by omega)) dL_law_734 ?_
    refine r_callV (za := za) (k := 14) (ci := 9) (C := RX9) (T := TX9) (N := 36) (As := [vI (xs (nI (8 * t) + 1).toNatClampNeg)]) (rest := []) (tX9_percentile l S1 14 (xs (nI (8 * t) + 1).toNatClampNeg) _ h9) ⟨hx, hb, hml, hown, hts⟩ (cwV 1 hts gL_law_X9_percentile rfl rfl rfl (by decide +kernel) ⟨by decide, by decide⟩) hK hG hA (hsh.lt (fn_14 hF)) (cell_9 (hsh.kd (fk_14 hF))) rfl rfl hl.1 rfl (Nat.le_of_ble_eq_true rfl) ⟨by show 39 + 2 * t + 1 ≤ 600096; omega, by show 10000 + 18 * t + 6 ≤ 7301386; omega⟩ dL_law_735 (fun r_9 S3 H locs hp hs3 hG => ?_)
    obtain ⟨u, rfl, hu⟩ := hp
    refine W.eq (g2 := F0 m 738 ls [.int u]) rfl ?_
    refine lv_istore (lv' := [(7, .int u), (6, .int 2), (0, .ref b), (1, .ref (ad 0)), (2, .ref (ad 14)), (3, .ref (ad 37)), (4, .ref (ad 38)), (5, .int (nI (8 * t)))]) hx hb dL_law_738 hl (by decide) rfl (fun ls hl => ?_)
    obtain ⟨hR1, hR2, hR3, hR4⟩ := hu
    refine lv_aload_n hx hb dL_law_740 rfl (lv_at hl 4 rfl) ?_
    refine r_callV (za := za) (k := 14) (ci := 9) (C := RX9) (T := TX9) (N := 36) (As := []) (rest := []) (tX9_thrown l S3 14 (fun r S9 => r = gX S3 14 32 ∧ S9 = S3) ⟨hs3.lt (hsh.lt (fn_14 hF)), hs3.kd (hsh.kd (fk_14 hF)), rfl, rfl⟩) ⟨hx, hb, hml, hown, hts⟩ (cwV 0 hts gL_law_X9_thrown rfl rfl rfl (by decide +kernel) ⟨by decide, by decide⟩) hK hG hA (hs3.lt (hsh.lt (fn_14 hF))) (cell_9 (hs3.kd (hsh.kd (fk_14 hF)))) rfl rfl hl.1 rfl (Nat.le_of_ble_eq_true rfl) ⟨by show 39 + 2 * t + 1 ≤ 600096; omega, by show 10000 + 18 * t + 6 ≤ 7301386; omega⟩ dL_law_741 (fun r_9 S4 H locs hp hs4 hG => ?_)
    obtain ⟨th, rfl, eth, eS4⟩ := hp
    rw [eS4] at hG
    refine W.eq (g2 := F0 m 744 ls [.int th]) rfl ?_
    refine lv_iload hx hb dL_law_744 (lv_at hl 1 rfl) ?_
    refine lv_icmp_eq (tgt := 751) hx hb dL_law_746 (by decide) (fun c_1 => ?_) (fun c_1 => absurd (eth.trans hR1) c_1)
    refine lv_iload hx hb dL_law_751 (lv_at hl 1 rfl) ?_
    refine lv_if_ne (tgt := 768) hx hb dL_law_753 (by decide) (fun _ => ?_) (fun c_2 => absurd c_2 (by decide))
    refine lv_goto (tgt := 938) hx hb dL_law_768 (by decide) ?_
    exact W.widen (k := 39 + 2 * (t + 1)) (n := 10000 + 18 * (t + 1)) (by omega) (by omega) (nx S3 ad H locs ls hR4 hG (lv_sub hl [2, 3, 4, 5, 6, 7] rfl))
