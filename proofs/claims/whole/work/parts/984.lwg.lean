set_option maxHeartbeats 4000000 in
set_option maxRecDepth 100000 in
theorem lc_11 {p : Program} {l : Launch} {e : Env} {s : State} {m : MethodId} {below : List Frame} {meth : Method} {c : Code} {b L : Nat} {xs : Nat → Int32} {D : va_G} {Y : Nat → ClassId} {za zv : Nat → Nat} {t : Nat} (C : LC p l s m meth c b L xs D Y za zv) (hL : L ≤ 384) (ht : 8 * t + 8 ≤ L) (nx : lcG p l e s m below meth c b D Y 938 t (t + 1)) : lcG p l e s m below meth c b D Y 771 t t := by
  obtain ⟨hx, hb, hr, hml, hown, hts, hX, hbl, hlocks, hK, hZ, hst⟩ := C
  have hA : ∀ q : Nat, s.heap.size ≤ q → (fun q : Nat => s.heap.size ≤ q) q := fun _ h => h
  have hbA : ¬ (fun q : Nat => s.heap.size ≤ q) b := Nat.not_le.mpr hbl
  have ht48 : t < 48 := by omega
  intro S ad H locs ls hI hG hl
  obtain ⟨n, E, P, lg, pl, oP, oM, dP, hI⟩ := hI
  have hF := hI.1.1
  have hl : lv_has ls 9 [(0, .ref b), (1, .ref (ad 0)), (2, .ref (ad 14)), (3, .ref (ad 37)), (4, .ref (ad 38)), (5, .int (nI (8 * t)))] := hl
  refine lv_aload_n hx hb dL_law_771 rfl (lv_at hl 1 rfl) ?_
  refine lv_aload_n hx hb dL_law_772 rfl (lv_at hl 0 rfl) ?_
  refine lv_iload hx hb dL_law_773 (lv_at hl 5 rfl) ?_
  refine lv_iconst (v := 1) hx hb dL_law_775 (by decide) ?_
  refine lv_iadd hx hb dL_law_776 ?_
  refine va_sld hx hb hX hbl hbA hG.2.2 (i := nI (8 * t) + 1) (sc_in (j := 1) ht hL (by omega)) dL_law_777 ?_
  refine lv_aload_n hx hb dL_law_778 rfl (lv_at hl 3 rfl) ?_
  refine h_callS (As := [.ref (ad 0), .int (xs (nI (8 * t) + 1).toNatClampNeg), .ref (ad 37)]) (rest := []) (tL_bucket l hst S hF (xs (nI (8 * t) + 1).toNatClampNeg) _ _ (bucket_ok hI ht48) (fun E S1 h => h.1)) rfl ⟨hx, hb, hml, hown, hts⟩ (vx_cwSW 3 hts gL_law_L_bucket rfl rfl rfl (by decide +kernel) ⟨by decide, by decide⟩) hK hZ hG hA rfl hl.1 rfl (Nat.le_of_ble_eq_true rfl) ⟨by show 39 + 2 * t + 1 ≤ 600096; omega, by show 10000 + 18 * t + 6 ≤ 7301386; omega⟩ dL_law_779 (fun r_9 S1 H locs hp hsh hG => ?_)
  rcases hp with ⟨rfl, v, S2, hq, hsh2, eS⟩ | ⟨rfl, hq⟩ | ⟨rfl, hq⟩
  · have h9 := hq (kpI S2 v) (Or.inr (Or.inl ⟨_, rfl⟩))
    rw [← eS] at h9
    refine W.eq (g2 := F0 m 782 ls [.int 0]) rfl ?_
    refine lv_istore (lv' := [(6, .int 0), (0, .ref b), (1, .ref (ad 0)), (2, .ref (ad 14)), (3, .ref (ad 37)), (4, .ref (ad 38)), (5, .int (nI (8 * t)))]) hx hb dL_law_782 hl (by decide) rfl (fun ls hl => ?_)
    refine lv_aload_n hx hb dL_law_784 rfl (lv_at hl 3 rfl) ?_
    refine lv_aload_n hx hb dL_law_785 rfl (lv_at hl 1 rfl) ?_
    refine lv_iload hx hb dL_law_786 (lv_at hl 6 rfl) ?_
    refine lv_iconst (v := 1) hx hb dL_law_788 (by decide) ?_
    refine lv_iadd hx hb dL_law_789 ?_
    refine va_sld hx hb hX hbl hbA hG.2.2 (i := nI (8 * t) + 1) (sc_in (j := 1) ht hL (by omega)) dL_law_790 ?_
    refine r_callV (za := za) (k := 14) (ci := 9) (C := RX9) (T := TX9) (N := 36) (As := [vI (xs (nI (8 * t) + 1).toNatClampNeg)]) (rest := []) (tX9_bucket l S1 14 (xs (nI (8 * t) + 1).toNatClampNeg) _ h9) ⟨hx, hb, hml, hown, hts⟩ (cwV 1 hts gL_law_X9_bucket rfl rfl rfl (by decide +kernel) ⟨by decide, by decide⟩) hK hG hA (hsh.lt (fn_14 hF)) (cell_9 (hsh.kd (fk_14 hF))) rfl rfl hl.1 rfl (Nat.le_of_ble_eq_true rfl) ⟨by show 39 + 2 * t + 1 ≤ 600096; omega, by show 10000 + 18 * t + 6 ≤ 7301386; omega⟩ dL_law_791 (fun r_9 S3 H locs hp hs3 hG => ?_)
    obtain ⟨u, rfl, hu⟩ := hp
    refine W.eq (g2 := F0 m 794 ls [.int u]) rfl ?_
    refine lv_istore (lv' := [(7, .int u), (6, .int 0), (0, .ref b), (1, .ref (ad 0)), (2, .ref (ad 14)), (3, .ref (ad 37)), (4, .ref (ad 38)), (5, .int (nI (8 * t)))]) hx hb dL_law_794 hl (by decide) rfl (fun ls hl => ?_)
    obtain ⟨eu, hR1, hR2, hR3, hR4⟩ := hu
    refine lv_aload_n hx hb dL_law_796 rfl (lv_at hl 4 rfl) ?_
    refine r_callV (za := za) (k := 14) (ci := 9) (C := RX9) (T := TX9) (N := 36) (As := []) (rest := []) (tX9_thrown l S3 14 (fun r S9 => r = gX S3 14 32 ∧ S9 = S3) ⟨hs3.lt (hsh.lt (fn_14 hF)), hs3.kd (hsh.kd (fk_14 hF)), rfl, rfl⟩) ⟨hx, hb, hml, hown, hts⟩ (cwV 0 hts gL_law_X9_thrown rfl rfl rfl (by decide +kernel) ⟨by decide, by decide⟩) hK hG hA (hs3.lt (hsh.lt (fn_14 hF))) (cell_9 (hs3.kd (hsh.kd (fk_14 hF)))) rfl rfl hl.1 rfl (Nat.le_of_ble_eq_true rfl) ⟨by show 39 + 2 * t + 1 ≤ 600096; omega, by show 10000 + 18 * t + 6 ≤ 7301386; omega⟩ dL_law_797 (fun r_9 S4 H locs hp hs4 hG => ?_)
    obtain ⟨th, rfl, eth, eS4⟩ := hp
    rw [eS4] at hG
    refine W.eq (g2 := F0 m 800 ls [.int th]) rfl ?_
    refine lv_iload hx hb dL_law_800 (lv_at hl 1 rfl) ?_
    refine lv_icmp_eq (tgt := 807) hx hb dL_law_802 (by decide) (fun c_1 => ?_) (fun c_1 => absurd (eth.trans hR1) c_1)
    refine lv_iload hx hb dL_law_807 (lv_at hl 1 rfl) ?_
    refine lv_if_ne (tgt := 824) hx hb dL_law_809 (by decide) (fun c_2 => absurd rfl c_2) (fun _ => ?_)
    have hlen : gL S3 37 = 1 := by rw [hs3.2.2, hsh.2.2]; exact fl_37 hF
    refine lv_aload_n hx hb dL_law_812 rfl (lv_at hl 5 rfl) ?_
    refine lv_iconst (v := 0) hx hb dL_law_813 (by decide) ?_
    refine r_lald hx hb hK hG (hs3.lt (hsh.lt (fn_37 hF))) (hs3.kd (hsh.kd (fk_37 hF))) (i := 0) (by rw [hlen]; exact vp01) dL_law_814 ?_
    refine lv_iload hx hb dL_law_815 (lv_at hl 0 rfl) ?_
    refine lv_i2l hx hb dL_law_817 rfl ?_
    refine W.lcmp hx hb dL_law_818 ?_
    have ez : gZ S3 37 ((0 : Int32).toNatClampNeg) = Int32.toInt64 u := by rw [eu, hR2, eS]; show gZ (sZ S2 37 0 (Int32.toInt64 v)) 37 0 = _; rw [z_sZ, if_pos ⟨rfl, rfl⟩]
    refine lv_if_eq (tgt := 824) hx hb dL_law_819 (by decide) (fun _ => ?_) (fun c_3 => absurd ((lg_cmp_eq _ _).mpr ez) c_3)
    refine lv_goto (tgt := 938) hx hb dL_law_824 (by decide) ?_
    exact W.widen (k := 39 + 2 * (t + 1)) (n := 10000 + 18 * (t + 1)) (by omega) (by omega) (nx S3 ad H locs ls hR4 hG (lv_sub hl [2, 3, 4, 5, 6, 7] rfl))
  · have h9 := hq.2 S1 (Or.inl rfl)
    refine W.eq (g2 := F0 m 782 ls [.int 1]) rfl ?_
    refine lv_istore (lv' := [(6, .int 1), (0, .ref b), (1, .ref (ad 0)), (2, .ref (ad 14)), (3, .ref (ad 37)), (4, .ref (ad 38)), (5, .int (nI (8 * t)))]) hx hb dL_law_782 hl (by decide) rfl (fun ls hl => ?_)
    refine lv_aload_n hx hb dL_law_784 rfl (lv_at hl 3 rfl) ?_
    refine lv_aload_n hx hb dL_law_785 rfl (lv_at hl 1 rfl) ?_
    refine lv_iload hx hb dL_law_786 (lv_at hl 6 rfl) ?_
    refine lv_iconst (v := 1) hx hb dL_law_788 (by decide) ?_
    refine lv_iadd hx hb dL_law_789 ?_
    refine va_sld hx hb hX hbl hbA hG.2.2 (i := nI (8 * t) + 1) (sc_in (j := 1) ht hL (by omega)) dL_law_790 ?_
    refine r_callV (za := za) (k := 14) (ci := 9) (C := RX9) (T := TX9) (N := 36) (As := [vI (xs (nI (8 * t) + 1).toNatClampNeg)]) (rest := []) (tX9_bucket l S1 14 (xs (nI (8 * t) + 1).toNatClampNeg) _ h9) ⟨hx, hb, hml, hown, hts⟩ (cwV 1 hts gL_law_X9_bucket rfl rfl rfl (by decide +kernel) ⟨by decide, by decide⟩) hK hG hA (hsh.lt (fn_14 hF)) (cell_9 (hsh.kd (fk_14 hF))) rfl rfl hl.1 rfl (Nat.le_of_ble_eq_true rfl) ⟨by show 39 + 2 * t + 1 ≤ 600096; omega, by show 10000 + 18 * t + 6 ≤ 7301386; omega⟩ dL_law_791 (fun r_9 S3 H locs hp hs3 hG => ?_)
    obtain ⟨u, rfl, hu⟩ := hp
    refine W.eq (g2 := F0 m 794 ls [.int u]) rfl ?_
    refine lv_istore (lv' := [(7, .int u), (6, .int 1), (0, .ref b), (1, .ref (ad 0)), (2, .ref (ad 14)), (3, .ref (ad 37)), (4, .ref (ad 38)), (5, .int (nI (8 * t)))]) hx hb dL_law_794 hl (by decide) rfl (fun ls hl => ?_)
    obtain ⟨hR1, hR2, hR3, hR4⟩ := hu
    refine lv_aload_n hx hb dL_law_796 rfl (lv_at hl 4 rfl) ?_
    refine r_callV (za := za) (k := 14) (ci := 9) (C := RX9) (T := TX9) (N := 36) (As := []) (rest := []) (tX9_thrown l S3 14 (fun r S9 => r = gX S3 14 32 ∧ S9 = S3) ⟨hs3.lt (hsh.lt (fn_14 hF)), hs3.kd (hsh.kd (fk_14 hF)), rfl, rfl⟩) ⟨hx, hb, hml, hown, hts⟩ (cwV 0 hts gL_law_X9_thrown rfl rfl rfl (by decide +kernel) ⟨by decide, by decide⟩) hK hG hA (hs3.lt (hsh.lt (fn_14 hF))) (cell_9 (hs3.kd (hsh.kd (fk_14 hF)))) rfl rfl hl.1 rfl (Nat.le_of_ble_eq_true rfl) ⟨by show 39 + 2 * t + 1 ≤ 600096; omega, by show 10000 + 18 * t + 6 ≤ 7301386; omega⟩ dL_law_797 (fun r_9 S4 H locs hp hs4 hG => ?_)
    obtain ⟨th, rfl, eth, eS4⟩ := hp
    rw [eS4] at hG
    refine W.eq (g2 := F0 m 800 ls [.int th]) rfl ?_
    refine lv_iload hx hb dL_law_800 (lv_at hl 1 rfl) ?_
    refine lv_icmp_eq (tgt := 807) hx hb dL_law_802 (by decide) (fun c_1 => ?_) (fun c_1 => absurd (eth.trans hR1) c_1)
    refine lv_iload hx hb dL_law_807 (lv_at hl 1 rfl) ?_
    refine lv_if_ne (tgt := 824) hx hb dL_law_809 (by decide) (fun _ => ?_) (fun c_2 => absurd c_2 (by decide))
    refine lv_goto (tgt := 938) hx hb dL_law_824 (by decide) ?_
    exact W.widen (k := 39 + 2 * (t + 1)) (n := 10000 + 18 * (t + 1)) (by omega) (by omega) (nx S3 ad H locs ls hR4 hG (lv_sub hl [2, 3, 4, 5, 6, 7] rfl))
  · exact absurd hq.1 (by decide)
set_option maxHeartbeats 4000000 in
set_option maxRecDepth 100000 in
theorem lc_12 {p : Program} {l : Launch} {e : Env} {s : State} {m : MethodId} {below : List Frame} {meth : Method} {c : Code} {b L : Nat} {xs : Nat → Int32} {D : va_G} {Y : Nat → ClassId} {za zv : Nat → Nat} {t : Nat} (C : LC p l s m meth c b L xs D Y za zv) (hL : L ≤ 384) (ht : 8 * t + 8 ≤ L) (nx : lcG p l e s m below meth c b D Y 938 t (t + 1)) : lcG p l e s m below meth c b D Y 827 t t := by
  obtain ⟨hx, hb, hr, hml, hown, hts, hX, hbl, hlocks, hK, hZ, hst⟩ := C
  have hA : ∀ q : Nat, s.heap.size ≤ q → (fun q : Nat => s.heap.size ≤ q) q := fun _ h => h
  have hbA : ¬ (fun q : Nat => s.heap.size ≤ q) b := Nat.not_le.mpr hbl
  have ht48 : t < 48 := by omega
  intro S ad H locs ls hI hG hl
  obtain ⟨n, E, P, lg, pl, oP, oM, dP, hI⟩ := hI
  have hF := hI.1.1
  have hl : lv_has ls 9 [(0, .ref b), (1, .ref (ad 0)), (2, .ref (ad 14)), (3, .ref (ad 37)), (4, .ref (ad 38)), (5, .int (nI (8 * t)))] := hl
  refine lv_aload_n hx hb dL_law_827 rfl (lv_at hl 1 rfl) ?_
  refine lv_aload_n hx hb dL_law_828 rfl (lv_at hl 0 rfl) ?_
  refine lv_iload hx hb dL_law_829 (lv_at hl 5 rfl) ?_
  refine lv_iconst (v := 1) hx hb dL_law_831 (by decide) ?_
  refine lv_iadd hx hb dL_law_832 ?_
  refine va_sld hx hb hX hbl hbA hG.2.2 (i := nI (8 * t) + 1) (sc_in (j := 1) ht hL (by omega)) dL_law_833 ?_
  refine lv_aload_n hx hb dL_law_834 rfl (lv_at hl 3 rfl) ?_
  refine h_callS (As := [.ref (ad 0), .int (xs (nI (8 * t) + 1).toNatClampNeg), .ref (ad 37)]) (rest := []) (tL_ofCause l hst S hF (xs (nI (8 * t) + 1).toNatClampNeg) _ _ (ofCause_ok hI ht48) (fun E S1 h => h.1)) rfl ⟨hx, hb, hml, hown, hts⟩ (vx_cwSW 3 hts gL_law_L_ofCause rfl rfl rfl (by decide +kernel) ⟨by decide, by decide⟩) hK hZ hG hA rfl hl.1 rfl (Nat.le_of_ble_eq_true rfl) ⟨by show 39 + 2 * t + 1 ≤ 600096; omega, by show 10000 + 18 * t + 6 ≤ 7301386; omega⟩ dL_law_835 (fun r_9 S1 H locs hp hsh hG => ?_)
  rcases hp with ⟨rfl, v, S2, hq, hsh2, eS⟩ | ⟨rfl, hq⟩ | ⟨rfl, hq⟩
  · have h9 := hq (kpL S2 v) (Or.inr (Or.inl ⟨_, rfl⟩))
    rw [← eS] at h9
    refine W.eq (g2 := F0 m 838 ls [.int 0]) rfl ?_
    refine lv_istore (lv' := [(6, .int 0), (0, .ref b), (1, .ref (ad 0)), (2, .ref (ad 14)), (3, .ref (ad 37)), (4, .ref (ad 38)), (5, .int (nI (8 * t)))]) hx hb dL_law_838 hl (by decide) rfl (fun ls hl => ?_)
    refine lv_aload_n hx hb dL_law_840 rfl (lv_at hl 3 rfl) ?_
    refine lv_aload_n hx hb dL_law_841 rfl (lv_at hl 1 rfl) ?_
    refine lv_iload hx hb dL_law_842 (lv_at hl 6 rfl) ?_
    refine lv_iconst (v := 1) hx hb dL_law_844 (by decide) ?_
    refine lv_iadd hx hb dL_law_845 ?_
    refine va_sld hx hb hX hbl hbA hG.2.2 (i := nI (8 * t) + 1) (sc_in (j := 1) ht hL (by omega)) dL_law_846 ?_
    refine r_callV (za := za) (k := 14) (ci := 9) (C := RX9) (T := TX9) (N := 36) (As := [vI (xs (nI (8 * t) + 1).toNatClampNeg)]) (rest := []) (tX9_ofCause l S1 14 (xs (nI (8 * t) + 1).toNatClampNeg) _ h9) ⟨hx, hb, hml, hown, hts⟩ (cwV 1 hts gL_law_X9_ofCause rfl rfl rfl (by decide +kernel) ⟨by decide, by decide⟩) hK hG hA (hsh.lt (fn_14 hF)) (cell_9 (hsh.kd (fk_14 hF))) rfl rfl hl.1 rfl (Nat.le_of_ble_eq_true rfl) ⟨by show 39 + 2 * t + 1 ≤ 600096; omega, by show 10000 + 18 * t + 6 ≤ 7301386; omega⟩ dL_law_847 (fun r_9 S3 H locs hp hs3 hG => ?_)
    obtain ⟨u, rfl, hu⟩ := hp
    refine W.eq (g2 := F0 m 850 ls [.long u]) rfl ?_
    refine lv_lstore (lv' := [(7, .long u), (6, .int 0), (0, .ref b), (1, .ref (ad 0)), (2, .ref (ad 14)), (3, .ref (ad 37)), (4, .ref (ad 38)), (5, .int (nI (8 * t)))]) hx hb dL_law_850 hl (by decide) rfl (fun ls hl => ?_)
    obtain ⟨eu, hR1, hR2, hR3, hR4⟩ := hu
    refine lv_aload_n hx hb dL_law_852 rfl (lv_at hl 4 rfl) ?_
    refine r_callV (za := za) (k := 14) (ci := 9) (C := RX9) (T := TX9) (N := 36) (As := []) (rest := []) (tX9_thrown l S3 14 (fun r S9 => r = gX S3 14 32 ∧ S9 = S3) ⟨hs3.lt (hsh.lt (fn_14 hF)), hs3.kd (hsh.kd (fk_14 hF)), rfl, rfl⟩) ⟨hx, hb, hml, hown, hts⟩ (cwV 0 hts gL_law_X9_thrown rfl rfl rfl (by decide +kernel) ⟨by decide, by decide⟩) hK hG hA (hs3.lt (hsh.lt (fn_14 hF))) (cell_9 (hs3.kd (hsh.kd (fk_14 hF)))) rfl rfl hl.1 rfl (Nat.le_of_ble_eq_true rfl) ⟨by show 39 + 2 * t + 1 ≤ 600096; omega, by show 10000 + 18 * t + 6 ≤ 7301386; omega⟩ dL_law_853 (fun r_9 S4 H locs hp hs4 hG => ?_)
    obtain ⟨th, rfl, eth, eS4⟩ := hp
    rw [eS4] at hG
    refine W.eq (g2 := F0 m 856 ls [.int th]) rfl ?_
    refine lv_iload hx hb dL_law_856 (lv_at hl 1 rfl) ?_
    refine lv_icmp_eq (tgt := 863) hx hb dL_law_858 (by decide) (fun c_1 => ?_) (fun c_1 => absurd (eth.trans hR1) c_1)
    refine lv_iload hx hb dL_law_863 (lv_at hl 1 rfl) ?_
    refine lv_if_ne (tgt := 879) hx hb dL_law_865 (by decide) (fun c_2 => absurd rfl c_2) (fun _ => ?_)
    have hlen : gL S3 37 = 1 := by rw [hs3.2.2, hsh.2.2]; exact fl_37 hF
    refine lv_aload_n hx hb dL_law_868 rfl (lv_at hl 5 rfl) ?_
    refine lv_iconst (v := 0) hx hb dL_law_869 (by decide) ?_
    refine r_lald hx hb hK hG (hs3.lt (hsh.lt (fn_37 hF))) (hs3.kd (hsh.kd (fk_37 hF))) (i := 0) (by rw [hlen]; exact vp01) dL_law_870 ?_
    refine lv_lload hx hb dL_law_871 (lv_at hl 0 rfl) ?_
    refine W.lcmp hx hb dL_law_873 ?_
    have ez : gZ S3 37 ((0 : Int32).toNatClampNeg) = u := by rw [eu, hR2, eS]; show gZ (sZ S2 37 0 v) 37 0 = _; rw [z_sZ, if_pos ⟨rfl, rfl⟩]
    refine lv_if_eq (tgt := 879) hx hb dL_law_874 (by decide) (fun _ => ?_) (fun c_3 => absurd ((lg_cmp_eq _ _).mpr ez) c_3)
    refine lv_goto (tgt := 938) hx hb dL_law_879 (by decide) ?_
    exact W.widen (k := 39 + 2 * (t + 1)) (n := 10000 + 18 * (t + 1)) (by omega) (by omega) (nx S3 ad H locs ls hR4 hG (lv_sub hl [2, 3, 4, 5, 6, 7] rfl))
  · have h9 := hq.2 S1 (Or.inl rfl)
    refine W.eq (g2 := F0 m 838 ls [.int 1]) rfl ?_
    refine lv_istore (lv' := [(6, .int 1), (0, .ref b), (1, .ref (ad 0)), (2, .ref (ad 14)), (3, .ref (ad 37)), (4, .ref (ad 38)), (5, .int (nI (8 * t)))]) hx hb dL_law_838 hl (by decide) rfl (fun ls hl => ?_)
    refine lv_aload_n hx hb dL_law_840 rfl (lv_at hl 3 rfl) ?_
    refine lv_aload_n hx hb dL_law_841 rfl (lv_at hl 1 rfl) ?_
    refine lv_iload hx hb dL_law_842 (lv_at hl 6 rfl) ?_
    refine lv_iconst (v := 1) hx hb dL_law_844 (by decide) ?_
    refine lv_iadd hx hb dL_law_845 ?_
    refine va_sld hx hb hX hbl hbA hG.2.2 (i := nI (8 * t) + 1) (sc_in (j := 1) ht hL (by omega)) dL_law_846 ?_
    refine r_callV (za := za) (k := 14) (ci := 9) (C := RX9) (T := TX9) (N := 36) (As := [vI (xs (nI (8 * t) + 1).toNatClampNeg)]) (rest := []) (tX9_ofCause l S1 14 (xs (nI (8 * t) + 1).toNatClampNeg) _ h9) ⟨hx, hb, hml, hown, hts⟩ (cwV 1 hts gL_law_X9_ofCause rfl rfl rfl (by decide +kernel) ⟨by decide, by decide⟩) hK hG hA (hsh.lt (fn_14 hF)) (cell_9 (hsh.kd (fk_14 hF))) rfl rfl hl.1 rfl (Nat.le_of_ble_eq_true rfl) ⟨by show 39 + 2 * t + 1 ≤ 600096; omega, by show 10000 + 18 * t + 6 ≤ 7301386; omega⟩ dL_law_847 (fun r_9 S3 H locs hp hs3 hG => ?_)
    obtain ⟨u, rfl, hu⟩ := hp
    refine W.eq (g2 := F0 m 850 ls [.long u]) rfl ?_
    refine lv_lstore (lv' := [(7, .long u), (6, .int 1), (0, .ref b), (1, .ref (ad 0)), (2, .ref (ad 14)), (3, .ref (ad 37)), (4, .ref (ad 38)), (5, .int (nI (8 * t)))]) hx hb dL_law_850 hl (by decide) rfl (fun ls hl => ?_)
    obtain ⟨hR1, hR2, hR3, hR4⟩ := hu
    refine lv_aload_n hx hb dL_law_852 rfl (lv_at hl 4 rfl) ?_
    refine r_callV (za := za) (k := 14) (ci := 9) (C := RX9) (T := TX9) (N := 36) (As := []) (rest := []) (tX9_thrown l S3 14 (fun r S9 => r = gX S3 14 32 ∧ S9 = S3) ⟨hs3.lt (hsh.lt (fn_14 hF)), hs3.kd (hsh.kd (fk_14 hF)), rfl, rfl⟩) ⟨hx, hb, hml, hown, hts⟩ (cwV 0 hts gL_law_X9_thrown rfl rfl rfl (by decide +kernel) ⟨by decide, by decide⟩) hK hG hA (hs3.lt (hsh.lt (fn_14 hF))) (cell_9 (hs3.kd (hsh.kd (fk_14 hF)))) rfl rfl hl.1 rfl (Nat.le_of_ble_eq_true rfl) ⟨by show 39 + 2 * t + 1 ≤ 600096; omega, by show 10000 + 18 * t + 6 ≤ 7301386; omega⟩ dL_law_853 (fun r_9 S4 H locs hp hs4 hG => ?_)
    obtain ⟨th, rfl, eth, eS4⟩ := hp
    rw [eS4] at hG
    refine W.eq (g2 := F0 m 856 ls [.int th]) rfl ?_
    refine lv_iload hx hb dL_law_856 (lv_at hl 1 rfl) ?_
    refine lv_icmp_eq (tgt := 863) hx hb dL_law_858 (by decide) (fun c_1 => ?_) (fun c_1 => absurd (eth.trans hR1) c_1)
    refine lv_iload hx hb dL_law_863 (lv_at hl 1 rfl) ?_
    refine lv_if_ne (tgt := 879) hx hb dL_law_865 (by decide) (fun _ => ?_) (fun c_2 => absurd c_2 (by decide))
    refine lv_goto (tgt := 938) hx hb dL_law_879 (by decide) ?_
    exact W.widen (k := 39 + 2 * (t + 1)) (n := 10000 + 18 * (t + 1)) (by omega) (by omega) (nx S3 ad H locs ls hR4 hG (lv_sub hl [2, 3, 4, 5, 6, 7] rfl))
  · exact absurd hq.1 (by decide)
set_option maxHeartbeats 4000000 in
set_option maxRecDepth 100000 in
theorem lc_13 {p : Program} {l : Launch} {e : Env} {s : State} {m : MethodId} {below : List Frame} {meth : Method} {c : Code} {b L : Nat} {xs : Nat → Int32} {D : va_G} {Y : Nat → ClassId} {za zv : Nat → Nat} {t : Nat} (C : LC p l s m meth c b L xs D Y za zv) (hL : L ≤ 384) (ht : 8 * t + 8 ≤ L) (nx : lcG p l e s m below meth c b D Y 938 t (t + 1)) : lcG p l e s m below meth c b D Y 882 t t := by
  obtain ⟨hx, hb, hr, hml, hown, hts, hX, hbl, hlocks, hK, hZ, hst⟩ := C
  have hA : ∀ q : Nat, s.heap.size ≤ q → (fun q : Nat => s.heap.size ≤ q) q := fun _ h => h
  have hbA : ¬ (fun q : Nat => s.heap.size ≤ q) b := Nat.not_le.mpr hbl
  have ht48 : t < 48 := by omega
  intro S ad H locs ls hI hG hl
  obtain ⟨n, E, P, lg, pl, oP, oM, dP, hI⟩ := hI
  have hF := hI.1.1
  have hl : lv_has ls 9 [(0, .ref b), (1, .ref (ad 0)), (2, .ref (ad 14)), (3, .ref (ad 37)), (4, .ref (ad 38)), (5, .int (nI (8 * t)))] := hl
  refine lv_aload_n hx hb dL_law_882 rfl (lv_at hl 1 rfl) ?_
  refine lv_aload_n hx hb dL_law_883 rfl (lv_at hl 0 rfl) ?_
  refine lv_iload hx hb dL_law_884 (lv_at hl 5 rfl) ?_
  refine lv_iconst (v := 1) hx hb dL_law_886 (by decide) ?_
  refine lv_iadd hx hb dL_law_887 ?_
  refine va_sld hx hb hX hbl hbA hG.2.2 (i := nI (8 * t) + 1) (sc_in (j := 1) ht hL (by omega)) dL_law_888 ?_
  refine lv_aload_n hx hb dL_law_889 rfl (lv_at hl 3 rfl) ?_
  refine h_callS (As := [.ref (ad 0), .int (xs (nI (8 * t) + 1).toNatClampNeg), .ref (ad 37)]) (rest := []) (tL_count l hst S hF (xs (nI (8 * t) + 1).toNatClampNeg) _ _ (count_ok hI ht48) (fun E S1 h => h.1)) rfl ⟨hx, hb, hml, hown, hts⟩ (vx_cwSW 3 hts gL_law_L_count rfl rfl rfl (by decide +kernel) ⟨by decide, by decide⟩) hK hZ hG hA rfl hl.1 rfl (Nat.le_of_ble_eq_true rfl) ⟨by show 39 + 2 * t + 1 ≤ 600096; omega, by show 10000 + 18 * t + 6 ≤ 7301386; omega⟩ dL_law_890 (fun r_9 S1 H locs hp hsh hG => ?_)
  rcases hp with ⟨rfl, v, S2, hq, hsh2, eS⟩ | ⟨rfl, hq⟩ | ⟨rfl, hq⟩
  · have h9 := hq (kpI S2 v) (Or.inr (Or.inl ⟨_, rfl⟩))
    rw [← eS] at h9
    refine W.eq (g2 := F0 m 893 ls [.int 0]) rfl ?_
    refine lv_istore (lv' := [(6, .int 0), (0, .ref b), (1, .ref (ad 0)), (2, .ref (ad 14)), (3, .ref (ad 37)), (4, .ref (ad 38)), (5, .int (nI (8 * t)))]) hx hb dL_law_893 hl (by decide) rfl (fun ls hl => ?_)
    refine lv_aload_n hx hb dL_law_895 rfl (lv_at hl 3 rfl) ?_
    refine lv_aload_n hx hb dL_law_896 rfl (lv_at hl 1 rfl) ?_
    refine lv_iload hx hb dL_law_897 (lv_at hl 6 rfl) ?_
    refine lv_iconst (v := 1) hx hb dL_law_899 (by decide) ?_
    refine lv_iadd hx hb dL_law_900 ?_
    refine va_sld hx hb hX hbl hbA hG.2.2 (i := nI (8 * t) + 1) (sc_in (j := 1) ht hL (by omega)) dL_law_901 ?_
    refine r_callV (za := za) (k := 14) (ci := 9) (C := RX9) (T := TX9) (N := 36) (As := [vI (xs (nI (8 * t) + 1).toNatClampNeg)]) (rest := []) (tX9_count l S1 14 (xs (nI (8 * t) + 1).toNatClampNeg) _ h9) ⟨hx, hb, hml, hown, hts⟩ (cwV 1 hts gL_law_X9_count rfl rfl rfl (by decide +kernel) ⟨by decide, by decide⟩) hK hG hA (hsh.lt (fn_14 hF)) (cell_9 (hsh.kd (fk_14 hF))) rfl rfl hl.1 rfl (Nat.le_of_ble_eq_true rfl) ⟨by show 39 + 2 * t + 1 ≤ 600096; omega, by show 10000 + 18 * t + 6 ≤ 7301386; omega⟩ dL_law_902 (fun r_9 S3 H locs hp hs3 hG => ?_)
    obtain ⟨u, rfl, hu⟩ := hp
    refine W.eq (g2 := F0 m 905 ls [.int u]) rfl ?_
    refine lv_istore (lv' := [(7, .int u), (6, .int 0), (0, .ref b), (1, .ref (ad 0)), (2, .ref (ad 14)), (3, .ref (ad 37)), (4, .ref (ad 38)), (5, .int (nI (8 * t)))]) hx hb dL_law_905 hl (by decide) rfl (fun ls hl => ?_)
    obtain ⟨eu, hR1, hR2, hR3, hR4⟩ := hu
    refine lv_aload_n hx hb dL_law_907 rfl (lv_at hl 4 rfl) ?_
    refine r_callV (za := za) (k := 14) (ci := 9) (C := RX9) (T := TX9) (N := 36) (As := []) (rest := []) (tX9_thrown l S3 14 (fun r S9 => r = gX S3 14 32 ∧ S9 = S3) ⟨hs3.lt (hsh.lt (fn_14 hF)), hs3.kd (hsh.kd (fk_14 hF)), rfl, rfl⟩) ⟨hx, hb, hml, hown, hts⟩ (cwV 0 hts gL_law_X9_thrown rfl rfl rfl (by decide +kernel) ⟨by decide, by decide⟩) hK hG hA (hs3.lt (hsh.lt (fn_14 hF))) (cell_9 (hs3.kd (hsh.kd (fk_14 hF)))) rfl rfl hl.1 rfl (Nat.le_of_ble_eq_true rfl) ⟨by show 39 + 2 * t + 1 ≤ 600096; omega, by show 10000 + 18 * t + 6 ≤ 7301386; omega⟩ dL_law_908 (fun r_9 S4 H locs hp hs4 hG => ?_)
    obtain ⟨th, rfl, eth, eS4⟩ := hp
    rw [eS4] at hG
    refine W.eq (g2 := F0 m 911 ls [.int th]) rfl ?_
    refine lv_iload hx hb dL_law_911 (lv_at hl 1 rfl) ?_
    refine lv_icmp_eq (tgt := 918) hx hb dL_law_913 (by decide) (fun c_1 => ?_) (fun c_1 => absurd (eth.trans hR1) c_1)
    refine lv_iload hx hb dL_law_918 (lv_at hl 1 rfl) ?_
    refine lv_if_ne (tgt := 935) hx hb dL_law_920 (by decide) (fun c_2 => absurd rfl c_2) (fun _ => ?_)
    have hlen : gL S3 37 = 1 := by rw [hs3.2.2, hsh.2.2]; exact fl_37 hF
    refine lv_aload_n hx hb dL_law_923 rfl (lv_at hl 5 rfl) ?_
    refine lv_iconst (v := 0) hx hb dL_law_924 (by decide) ?_
    refine r_lald hx hb hK hG (hs3.lt (hsh.lt (fn_37 hF))) (hs3.kd (hsh.kd (fk_37 hF))) (i := 0) (by rw [hlen]; exact vp01) dL_law_925 ?_
    refine lv_iload hx hb dL_law_926 (lv_at hl 0 rfl) ?_
    refine lv_i2l hx hb dL_law_928 rfl ?_
    refine W.lcmp hx hb dL_law_929 ?_
    have ez : gZ S3 37 ((0 : Int32).toNatClampNeg) = Int32.toInt64 u := by rw [eu, hR2, eS]; show gZ (sZ S2 37 0 (Int32.toInt64 v)) 37 0 = _; rw [z_sZ, if_pos ⟨rfl, rfl⟩]
    refine lv_if_eq (tgt := 935) hx hb dL_law_930 (by decide) (fun _ => ?_) (fun c_3 => absurd ((lg_cmp_eq _ _).mpr ez) c_3)
    refine lv_goto (tgt := 938) hx hb dL_law_935 (by decide) ?_
    exact W.widen (k := 39 + 2 * (t + 1)) (n := 10000 + 18 * (t + 1)) (by omega) (by omega) (nx S3 ad H locs ls hR4 hG (lv_sub hl [2, 3, 4, 5, 6, 7] rfl))
  · have h9 := hq.2 S1 (Or.inl rfl)
    refine W.eq (g2 := F0 m 893 ls [.int 1]) rfl ?_
    refine lv_istore (lv' := [(6, .int 1), (0, .ref b), (1, .ref (ad 0)), (2, .ref (ad 14)), (3, .ref (ad 37)), (4, .ref (ad 38)), (5, .int (nI (8 * t)))]) hx hb dL_law_893 hl (by decide) rfl (fun ls hl => ?_)
    refine lv_aload_n hx hb dL_law_895 rfl (lv_at hl 3 rfl) ?_
    refine lv_aload_n hx hb dL_law_896 rfl (lv_at hl 1 rfl) ?_
    refine lv_iload hx hb dL_law_897 (lv_at hl 6 rfl) ?_
    refine lv_iconst (v := 1) hx hb dL_law_899 (by decide) ?_
    refine lv_iadd hx hb dL_law_900 ?_
    refine va_sld hx hb hX hbl hbA hG.2.2 (i := nI (8 * t) + 1) (sc_in (j := 1) ht hL (by omega)) dL_law_901 ?_
    refine r_callV (za := za) (k := 14) (ci := 9) (C := RX9) (T := TX9) (N := 36) (As := [vI (xs (nI (8 * t) + 1).toNatClampNeg)]) (rest := []) (tX9_count l S1 14 (xs (nI (8 * t) + 1).toNatClampNeg) _ h9) ⟨hx, hb, hml, hown, hts⟩ (cwV 1 hts gL_law_X9_count rfl rfl rfl (by decide +kernel) ⟨by decide, by decide⟩) hK hG hA (hsh.lt (fn_14 hF)) (cell_9 (hsh.kd (fk_14 hF))) rfl rfl hl.1 rfl (Nat.le_of_ble_eq_true rfl) ⟨by show 39 + 2 * t + 1 ≤ 600096; omega, by show 10000 + 18 * t + 6 ≤ 7301386; omega⟩ dL_law_902 (fun r_9 S3 H locs hp hs3 hG => ?_)
    obtain ⟨u, rfl, hu⟩ := hp
    refine W.eq (g2 := F0 m 905 ls [.int u]) rfl ?_
    refine lv_istore (lv' := [(7, .int u), (6, .int 1), (0, .ref b), (1, .ref (ad 0)), (2, .ref (ad 14)), (3, .ref (ad 37)), (4, .ref (ad 38)), (5, .int (nI (8 * t)))]) hx hb dL_law_905 hl (by decide) rfl (fun ls hl => ?_)
    obtain ⟨hR1, hR2, hR3, hR4⟩ := hu
    refine lv_aload_n hx hb dL_law_907 rfl (lv_at hl 4 rfl) ?_
    refine r_callV (za := za) (k := 14) (ci := 9) (C := RX9) (T := TX9) (N := 36) (As := []) (rest := []) (tX9_thrown l S3 14 (fun r S9 => r = gX S3 14 32 ∧ S9 = S3) ⟨hs3.lt (hsh.lt (fn_14 hF)), hs3.kd (hsh.kd (fk_14 hF)), rfl, rfl⟩) ⟨hx, hb, hml, hown, hts⟩ (cwV 0 hts gL_law_X9_thrown rfl rfl rfl (by decide +kernel) ⟨by decide, by decide⟩) hK hG hA (hs3.lt (hsh.lt (fn_14 hF))) (cell_9 (hs3.kd (hsh.kd (fk_14 hF)))) rfl rfl hl.1 rfl (Nat.le_of_ble_eq_true rfl) ⟨by show 39 + 2 * t + 1 ≤ 600096; omega, by show 10000 + 18 * t + 6 ≤ 7301386; omega⟩ dL_law_908 (fun r_9 S4 H locs hp hs4 hG => ?_)
    obtain ⟨th, rfl, eth, eS4⟩ := hp
    rw [eS4] at hG
    refine W.eq (g2 := F0 m 911 ls [.int th]) rfl ?_
    refine lv_iload hx hb dL_law_911 (lv_at hl 1 rfl) ?_
    refine lv_icmp_eq (tgt := 918) hx hb dL_law_913 (by decide) (fun c_1 => ?_) (fun c_1 => absurd (eth.trans hR1) c_1)
    refine lv_iload hx hb dL_law_918 (lv_at hl 1 rfl) ?_
    refine lv_if_ne (tgt := 935) hx hb dL_law_920 (by decide) (fun _ => ?_) (fun c_2 => absurd c_2 (by decide))
    refine lv_goto (tgt := 938) hx hb dL_law_935 (by decide) ?_
    exact W.widen (k := 39 + 2 * (t + 1)) (n := 10000 + 18 * (t + 1)) (by omega) (by omega) (nx S3 ad H locs ls hR4 hG (lv_sub hl [2, 3, 4, 5, 6, 7] rfl))
  · exact absurd hq.1 (by decide)
