set_option maxHeartbeats 4000000 in
set_option maxRecDepth 100000 in
theorem lc_1 {p : Program} {l : Launch} {e : Env} {s : State} {m : MethodId} {below : List Frame} {meth : Method} {c : Code} {b L : Nat} {xs : Nat → Int32} {D : va_G} {Y : Nat → ClassId} {za zv : Nat → Nat} {t : Nat} (C : LC p l s m meth c b L xs D Y za zv) (hL : L ≤ 384) (ht : 8 * t + 8 ≤ L) (nx : lcG p l e s m below meth c b D Y 938 t (t + 1)) : lcG p l e s m below meth c b D Y 143 t t := by
  obtain ⟨hx, hb, hr, hml, hown, hts, hX, hbl, hlocks, hK, hZ, hst⟩ := C
  have hA : ∀ q : Nat, s.heap.size ≤ q → (fun q : Nat => s.heap.size ≤ q) q := fun _ h => h
  have hbA : ¬ (fun q : Nat => s.heap.size ≤ q) b := Nat.not_le.mpr hbl
  have ht48 : t < 48 := by omega
  intro S ad H locs ls hI hG hl
  obtain ⟨n, E, P, lg, pl, oP, oM, dP, hI⟩ := hI
  have hF := hI.1.1
  have hl : lv_has ls 9 [(0, .ref b), (1, .ref (ad 0)), (2, .ref (ad 14)), (3, .ref (ad 37)), (4, .ref (ad 38)), (5, .int (nI (8 * t)))] := hl
  refine lv_aload_n hx hb dL_law_143 rfl (lv_at hl 1 rfl) ?_
  refine lv_aload_n hx hb dL_law_144 rfl (lv_at hl 0 rfl) ?_
  refine lv_iload hx hb dL_law_145 (lv_at hl 5 rfl) ?_
  refine lv_iconst (v := 1) hx hb dL_law_147 (by decide) ?_
  refine lv_iadd hx hb dL_law_148 ?_
  refine va_sld hx hb hX hbl hbA hG.2.2 (i := nI (8 * t) + 1) (sc_in (j := 1) ht hL (by omega)) dL_law_149 ?_
  refine lv_aload_n hx hb dL_law_150 rfl (lv_at hl 3 rfl) ?_
  refine h_callS (As := [.ref (ad 0), .int (xs (nI (8 * t) + 1).toNatClampNeg), .ref (ad 37)]) (rest := []) (tL_drop l hst S hF (xs (nI (8 * t) + 1).toNatClampNeg) _ _ (drop_ok hI ht48) (fun E S1 h => h.1)) rfl ⟨hx, hb, hml, hown, hts⟩ (vx_cwSW 3 hts gL_law_L_drop rfl rfl rfl (by decide +kernel) ⟨by decide, by decide⟩) hK hZ hG hA rfl hl.1 rfl (Nat.le_of_ble_eq_true rfl) ⟨by show 39 + 2 * t + 1 ≤ 600096; omega, by show 10000 + 18 * t + 6 ≤ 7301386; omega⟩ dL_law_151 (fun r_9 S1 H locs hp hsh hG => ?_)
  rcases hp with ⟨rfl, v, S2, hq, hsh2, eS⟩ | ⟨rfl, hq⟩ | ⟨rfl, hq⟩
  · have h9 := hq (kpI S2 v) (Or.inr (Or.inl ⟨_, rfl⟩))
    rw [← eS] at h9
    refine W.eq (g2 := F0 m 154 ls [.int 0]) rfl ?_
    refine lv_istore (lv' := [(6, .int 0), (0, .ref b), (1, .ref (ad 0)), (2, .ref (ad 14)), (3, .ref (ad 37)), (4, .ref (ad 38)), (5, .int (nI (8 * t)))]) hx hb dL_law_154 hl (by decide) rfl (fun ls hl => ?_)
    refine lv_aload_n hx hb dL_law_156 rfl (lv_at hl 3 rfl) ?_
    refine lv_aload_n hx hb dL_law_157 rfl (lv_at hl 1 rfl) ?_
    refine lv_iload hx hb dL_law_158 (lv_at hl 6 rfl) ?_
    refine lv_iconst (v := 1) hx hb dL_law_160 (by decide) ?_
    refine lv_iadd hx hb dL_law_161 ?_
    refine va_sld hx hb hX hbl hbA hG.2.2 (i := nI (8 * t) + 1) (sc_in (j := 1) ht hL (by omega)) dL_law_162 ?_
    refine r_callV (za := za) (k := 14) (ci := 9) (C := RX9) (T := TX9) (N := 36) (As := [vI (xs (nI (8 * t) + 1).toNatClampNeg)]) (rest := []) (tX9_drop l S1 14 (xs (nI (8 * t) + 1).toNatClampNeg) _ h9) ⟨hx, hb, hml, hown, hts⟩ (cwV 1 hts gL_law_X9_drop rfl rfl rfl (by decide +kernel) ⟨by decide, by decide⟩) hK hG hA (hsh.lt (fn_14 hF)) (cell_9 (hsh.kd (fk_14 hF))) rfl rfl hl.1 rfl (Nat.le_of_ble_eq_true rfl) ⟨by show 39 + 2 * t + 1 ≤ 600096; omega, by show 10000 + 18 * t + 6 ≤ 7301386; omega⟩ dL_law_163 (fun r_9 S3 H locs hp hs3 hG => ?_)
    obtain ⟨u, rfl, hu⟩ := hp
    refine W.eq (g2 := F0 m 166 ls [.int u]) rfl ?_
    refine lv_istore (lv' := [(7, .int u), (6, .int 0), (0, .ref b), (1, .ref (ad 0)), (2, .ref (ad 14)), (3, .ref (ad 37)), (4, .ref (ad 38)), (5, .int (nI (8 * t)))]) hx hb dL_law_166 hl (by decide) rfl (fun ls hl => ?_)
    obtain ⟨eu, hR1, hR2, hR3, hR4⟩ := hu
    refine lv_aload_n hx hb dL_law_168 rfl (lv_at hl 4 rfl) ?_
    refine r_callV (za := za) (k := 14) (ci := 9) (C := RX9) (T := TX9) (N := 36) (As := []) (rest := []) (tX9_thrown l S3 14 (fun r S9 => r = gX S3 14 32 ∧ S9 = S3) ⟨hs3.lt (hsh.lt (fn_14 hF)), hs3.kd (hsh.kd (fk_14 hF)), rfl, rfl⟩) ⟨hx, hb, hml, hown, hts⟩ (cwV 0 hts gL_law_X9_thrown rfl rfl rfl (by decide +kernel) ⟨by decide, by decide⟩) hK hG hA (hs3.lt (hsh.lt (fn_14 hF))) (cell_9 (hs3.kd (hsh.kd (fk_14 hF)))) rfl rfl hl.1 rfl (Nat.le_of_ble_eq_true rfl) ⟨by show 39 + 2 * t + 1 ≤ 600096; omega, by show 10000 + 18 * t + 6 ≤ 7301386; omega⟩ dL_law_169 (fun r_9 S4 H locs hp hs4 hG => ?_)
    obtain ⟨th, rfl, eth, eS4⟩ := hp
    rw [eS4] at hG
    refine W.eq (g2 := F0 m 172 ls [.int th]) rfl ?_
    refine lv_iload hx hb dL_law_172 (lv_at hl 1 rfl) ?_
    refine lv_icmp_eq (tgt := 179) hx hb dL_law_174 (by decide) (fun c_1 => ?_) (fun c_1 => absurd (eth.trans hR1) c_1)
    refine lv_iload hx hb dL_law_179 (lv_at hl 1 rfl) ?_
    refine lv_if_ne (tgt := 196) hx hb dL_law_181 (by decide) (fun c_2 => absurd rfl c_2) (fun _ => ?_)
    have hlen : gL S3 37 = 1 := by rw [hs3.2.2, hsh.2.2]; exact fl_37 hF
    refine lv_aload_n hx hb dL_law_184 rfl (lv_at hl 5 rfl) ?_
    refine lv_iconst (v := 0) hx hb dL_law_185 (by decide) ?_
    refine r_lald hx hb hK hG (hs3.lt (hsh.lt (fn_37 hF))) (hs3.kd (hsh.kd (fk_37 hF))) (i := 0) (by rw [hlen]; exact vp01) dL_law_186 ?_
    refine lv_iload hx hb dL_law_187 (lv_at hl 0 rfl) ?_
    refine lv_i2l hx hb dL_law_189 rfl ?_
    refine W.lcmp hx hb dL_law_190 ?_
    have ez : gZ S3 37 ((0 : Int32).toNatClampNeg) = Int32.toInt64 u := by rw [eu, hR2, eS]; show gZ (sZ S2 37 0 (Int32.toInt64 v)) 37 0 = _; rw [z_sZ, if_pos ⟨rfl, rfl⟩]
    refine lv_if_eq (tgt := 196) hx hb dL_law_191 (by decide) (fun _ => ?_) (fun c_3 => absurd ((lg_cmp_eq _ _).mpr ez) c_3)
    refine lv_goto (tgt := 938) hx hb dL_law_196 (by decide) ?_
    exact W.widen (k := 39 + 2 * (t + 1)) (n := 10000 + 18 * (t + 1)) (by omega) (by omega) (nx S3 ad H locs ls hR4 hG (lv_sub hl [2, 3, 4, 5, 6, 7] rfl))
  · have h9 := hq.2 S1 (Or.inl rfl)
    refine W.eq (g2 := F0 m 154 ls [.int 1]) rfl ?_
    refine lv_istore (lv' := [(6, .int 1), (0, .ref b), (1, .ref (ad 0)), (2, .ref (ad 14)), (3, .ref (ad 37)), (4, .ref (ad 38)), (5, .int (nI (8 * t)))]) hx hb dL_law_154 hl (by decide) rfl (fun ls hl => ?_)
    refine lv_aload_n hx hb dL_law_156 rfl (lv_at hl 3 rfl) ?_
    refine lv_aload_n hx hb dL_law_157 rfl (lv_at hl 1 rfl) ?_
    refine lv_iload hx hb dL_law_158 (lv_at hl 6 rfl) ?_
    refine lv_iconst (v := 1) hx hb dL_law_160 (by decide) ?_
    refine lv_iadd hx hb dL_law_161 ?_
    refine va_sld hx hb hX hbl hbA hG.2.2 (i := nI (8 * t) + 1) (sc_in (j := 1) ht hL (by omega)) dL_law_162 ?_
    refine r_callV (za := za) (k := 14) (ci := 9) (C := RX9) (T := TX9) (N := 36) (As := [vI (xs (nI (8 * t) + 1).toNatClampNeg)]) (rest := []) (tX9_drop l S1 14 (xs (nI (8 * t) + 1).toNatClampNeg) _ h9) ⟨hx, hb, hml, hown, hts⟩ (cwV 1 hts gL_law_X9_drop rfl rfl rfl (by decide +kernel) ⟨by decide, by decide⟩) hK hG hA (hsh.lt (fn_14 hF)) (cell_9 (hsh.kd (fk_14 hF))) rfl rfl hl.1 rfl (Nat.le_of_ble_eq_true rfl) ⟨by show 39 + 2 * t + 1 ≤ 600096; omega, by show 10000 + 18 * t + 6 ≤ 7301386; omega⟩ dL_law_163 (fun r_9 S3 H locs hp hs3 hG => ?_)
    obtain ⟨u, rfl, hu⟩ := hp
    refine W.eq (g2 := F0 m 166 ls [.int u]) rfl ?_
    refine lv_istore (lv' := [(7, .int u), (6, .int 1), (0, .ref b), (1, .ref (ad 0)), (2, .ref (ad 14)), (3, .ref (ad 37)), (4, .ref (ad 38)), (5, .int (nI (8 * t)))]) hx hb dL_law_166 hl (by decide) rfl (fun ls hl => ?_)
    obtain ⟨hR1, hR2, hR3, hR4⟩ := hu
    refine lv_aload_n hx hb dL_law_168 rfl (lv_at hl 4 rfl) ?_
    refine r_callV (za := za) (k := 14) (ci := 9) (C := RX9) (T := TX9) (N := 36) (As := []) (rest := []) (tX9_thrown l S3 14 (fun r S9 => r = gX S3 14 32 ∧ S9 = S3) ⟨hs3.lt (hsh.lt (fn_14 hF)), hs3.kd (hsh.kd (fk_14 hF)), rfl, rfl⟩) ⟨hx, hb, hml, hown, hts⟩ (cwV 0 hts gL_law_X9_thrown rfl rfl rfl (by decide +kernel) ⟨by decide, by decide⟩) hK hG hA (hs3.lt (hsh.lt (fn_14 hF))) (cell_9 (hs3.kd (hsh.kd (fk_14 hF)))) rfl rfl hl.1 rfl (Nat.le_of_ble_eq_true rfl) ⟨by show 39 + 2 * t + 1 ≤ 600096; omega, by show 10000 + 18 * t + 6 ≤ 7301386; omega⟩ dL_law_169 (fun r_9 S4 H locs hp hs4 hG => ?_)
    obtain ⟨th, rfl, eth, eS4⟩ := hp
    rw [eS4] at hG
    refine W.eq (g2 := F0 m 172 ls [.int th]) rfl ?_
    refine lv_iload hx hb dL_law_172 (lv_at hl 1 rfl) ?_
    refine lv_icmp_eq (tgt := 179) hx hb dL_law_174 (by decide) (fun c_1 => ?_) (fun c_1 => absurd (eth.trans hR1) c_1)
    refine lv_iload hx hb dL_law_179 (lv_at hl 1 rfl) ?_
    refine lv_if_ne (tgt := 196) hx hb dL_law_181 (by decide) (fun _ => ?_) (fun c_2 => absurd c_2 (by decide))
    refine lv_goto (tgt := 938) hx hb dL_law_196 (by decide) ?_
    exact W.widen (k := 39 + 2 * (t + 1)) (n := 10000 + 18 * (t + 1)) (by omega) (by omega) (nx S3 ad H locs ls hR4 hG (lv_sub hl [2, 3, 4, 5, 6, 7] rfl))
  · exact absurd hq.1 (by decide)
set_option maxHeartbeats 4000000 in
set_option maxRecDepth 100000 in
theorem lc_2 {p : Program} {l : Launch} {e : Env} {s : State} {m : MethodId} {below : List Frame} {meth : Method} {c : Code} {b L : Nat} {xs : Nat → Int32} {D : va_G} {Y : Nat → ClassId} {za zv : Nat → Nat} {t : Nat} (C : LC p l s m meth c b L xs D Y za zv) (hL : L ≤ 384) (ht : 8 * t + 8 ≤ L) (nx : lcG p l e s m below meth c b D Y 938 t (t + 1)) : lcG p l e s m below meth c b D Y 199 t t := by
  obtain ⟨hx, hb, hr, hml, hown, hts, hX, hbl, hlocks, hK, hZ, hst⟩ := C
  have hA : ∀ q : Nat, s.heap.size ≤ q → (fun q : Nat => s.heap.size ≤ q) q := fun _ h => h
  have hbA : ¬ (fun q : Nat => s.heap.size ≤ q) b := Nat.not_le.mpr hbl
  have ht48 : t < 48 := by omega
  intro S ad H locs ls hI hG hl
  obtain ⟨n, E, P, lg, pl, oP, oM, dP, hI⟩ := hI
  have hF := hI.1.1
  have hl : lv_has ls 9 [(0, .ref b), (1, .ref (ad 0)), (2, .ref (ad 14)), (3, .ref (ad 37)), (4, .ref (ad 38)), (5, .int (nI (8 * t)))] := hl
  refine lv_aload_n hx hb dL_law_199 rfl (lv_at hl 1 rfl) ?_
  refine lv_aload_n hx hb dL_law_200 rfl (lv_at hl 0 rfl) ?_
  refine lv_iload hx hb dL_law_201 (lv_at hl 5 rfl) ?_
  refine lv_iconst (v := 1) hx hb dL_law_203 (by decide) ?_
  refine lv_iadd hx hb dL_law_204 ?_
  refine va_sld hx hb hX hbl hbA hG.2.2 (i := nI (8 * t) + 1) (sc_in (j := 1) ht hL (by omega)) dL_law_205 ?_
  refine lv_aload_n hx hb dL_law_206 rfl (lv_at hl 0 rfl) ?_
  refine lv_iload hx hb dL_law_207 (lv_at hl 5 rfl) ?_
  refine lv_iconst (v := 2) hx hb dL_law_209 (by decide) ?_
  refine lv_iadd hx hb dL_law_210 ?_
  refine va_sld hx hb hX hbl hbA hG.2.2 (i := nI (8 * t) + 2) (sc_in (j := 2) ht hL (by omega)) dL_law_211 ?_
  refine lv_aload_n hx hb dL_law_212 rfl (lv_at hl 0 rfl) ?_
  refine lv_iload hx hb dL_law_213 (lv_at hl 5 rfl) ?_
  refine lv_iconst (v := 3) hx hb dL_law_215 (by decide) ?_
  refine lv_iadd hx hb dL_law_216 ?_
  refine va_sld hx hb hX hbl hbA hG.2.2 (i := nI (8 * t) + 3) (sc_in (j := 3) ht hL (by omega)) dL_law_217 ?_
  refine lv_aload_n hx hb dL_law_218 rfl (lv_at hl 0 rfl) ?_
  refine lv_iload hx hb dL_law_219 (lv_at hl 5 rfl) ?_
  refine lv_iconst (v := 4) hx hb dL_law_221 (by decide) ?_
  refine lv_iadd hx hb dL_law_222 ?_
  refine va_sld hx hb hX hbl hbA hG.2.2 (i := nI (8 * t) + 4) (sc_in (j := 4) ht hL (by omega)) dL_law_223 ?_
  refine lv_aload_n hx hb dL_law_224 rfl (lv_at hl 0 rfl) ?_
  refine lv_iload hx hb dL_law_225 (lv_at hl 5 rfl) ?_
  refine lv_iconst (v := 5) hx hb dL_law_227 (by decide) ?_
  refine lv_iadd hx hb dL_law_228 ?_
  refine va_sld hx hb hX hbl hbA hG.2.2 (i := nI (8 * t) + 5) (sc_in (j := 5) ht hL (by omega)) dL_law_229 ?_
  refine lv_aload_n hx hb dL_law_230 rfl (lv_at hl 0 rfl) ?_
  refine lv_iload hx hb dL_law_231 (lv_at hl 5 rfl) ?_
  refine lv_bipush (v := 6) hx hb dL_law_233 (by decide) ?_
  refine lv_iadd hx hb dL_law_235 ?_
  refine va_sld hx hb hX hbl hbA hG.2.2 (i := nI (8 * t) + 6) (sc_in (j := 6) ht hL (by omega)) dL_law_236 ?_
  refine lv_aload_n hx hb dL_law_237 rfl (lv_at hl 0 rfl) ?_
  refine lv_iload hx hb dL_law_238 (lv_at hl 5 rfl) ?_
  refine lv_bipush (v := 7) hx hb dL_law_240 (by decide) ?_
  refine lv_iadd hx hb dL_law_242 ?_
  refine va_sld hx hb hX hbl hbA hG.2.2 (i := nI (8 * t) + 7) (sc_in (j := 7) ht hL (by omega)) dL_law_243 ?_
  refine lv_aload_n hx hb dL_law_244 rfl (lv_at hl 3 rfl) ?_
  refine h_callS (As := [.ref (ad 0), .int (xs (nI (8 * t) + 1).toNatClampNeg), .int (xs (nI (8 * t) + 2).toNatClampNeg), .int (xs (nI (8 * t) + 3).toNatClampNeg), .int (xs (nI (8 * t) + 4).toNatClampNeg), .int (xs (nI (8 * t) + 5).toNatClampNeg), .int (xs (nI (8 * t) + 6).toNatClampNeg), .int (xs (nI (8 * t) + 7).toNatClampNeg), .ref (ad 37)]) (rest := []) (tL_write l hst S hF (xs (nI (8 * t) + 1).toNatClampNeg) (xs (nI (8 * t) + 2).toNatClampNeg) (xs (nI (8 * t) + 3).toNatClampNeg) (xs (nI (8 * t) + 4).toNatClampNeg) (xs (nI (8 * t) + 5).toNatClampNeg) (xs (nI (8 * t) + 6).toNatClampNeg) (xs (nI (8 * t) + 7).toNatClampNeg) _ _ (write_ok hI ht48) (fun E S1 h => h.1)) rfl ⟨hx, hb, hml, hown, hts⟩ (vx_cwSW 9 hts gL_law_L_write rfl rfl rfl (by decide +kernel) ⟨by decide, by decide⟩) hK hZ hG hA rfl hl.1 rfl (Nat.le_of_ble_eq_true rfl) ⟨by show 39 + 2 * t + 1 ≤ 600096; omega, by show 10000 + 18 * t + 6 ≤ 7301386; omega⟩ dL_law_245 (fun r_9 S1 H locs hp hsh hG => ?_)
  rcases hp with ⟨rfl, v, S2, hq, hsh2, eS⟩ | ⟨rfl, hq⟩ | ⟨rfl, hq⟩
  · have h9 := hq (kpI S2 v) (Or.inr (Or.inl ⟨_, rfl⟩))
    rw [← eS] at h9
    refine W.eq (g2 := F0 m 248 ls [.int 0]) rfl ?_
    refine lv_istore (lv' := [(6, .int 0), (0, .ref b), (1, .ref (ad 0)), (2, .ref (ad 14)), (3, .ref (ad 37)), (4, .ref (ad 38)), (5, .int (nI (8 * t)))]) hx hb dL_law_248 hl (by decide) rfl (fun ls hl => ?_)
    refine lv_aload_n hx hb dL_law_250 rfl (lv_at hl 3 rfl) ?_
    refine lv_aload_n hx hb dL_law_251 rfl (lv_at hl 1 rfl) ?_
    refine lv_iload hx hb dL_law_252 (lv_at hl 6 rfl) ?_
    refine lv_iconst (v := 1) hx hb dL_law_254 (by decide) ?_
    refine lv_iadd hx hb dL_law_255 ?_
    refine va_sld hx hb hX hbl hbA hG.2.2 (i := nI (8 * t) + 1) (sc_in (j := 1) ht hL (by omega)) dL_law_256 ?_
    refine lv_aload_n hx hb dL_law_257 rfl (lv_at hl 1 rfl) ?_
    refine lv_iload hx hb dL_law_258 (lv_at hl 6 rfl) ?_
    refine lv_iconst (v := 2) hx hb dL_law_260 (by decide) ?_
    refine lv_iadd hx hb dL_law_261 ?_
    refine va_sld hx hb hX hbl hbA hG.2.2 (i := nI (8 * t) + 2) (sc_in (j := 2) ht hL (by omega)) dL_law_262 ?_
    refine lv_aload_n hx hb dL_law_263 rfl (lv_at hl 1 rfl) ?_
    refine lv_iload hx hb dL_law_264 (lv_at hl 6 rfl) ?_
    refine lv_iconst (v := 3) hx hb dL_law_266 (by decide) ?_
    refine lv_iadd hx hb dL_law_267 ?_
    refine va_sld hx hb hX hbl hbA hG.2.2 (i := nI (8 * t) + 3) (sc_in (j := 3) ht hL (by omega)) dL_law_268 ?_
    refine lv_aload_n hx hb dL_law_269 rfl (lv_at hl 1 rfl) ?_
    refine lv_iload hx hb dL_law_270 (lv_at hl 6 rfl) ?_
    refine lv_iconst (v := 4) hx hb dL_law_272 (by decide) ?_
    refine lv_iadd hx hb dL_law_273 ?_
    refine va_sld hx hb hX hbl hbA hG.2.2 (i := nI (8 * t) + 4) (sc_in (j := 4) ht hL (by omega)) dL_law_274 ?_
    refine lv_aload_n hx hb dL_law_275 rfl (lv_at hl 1 rfl) ?_
    refine lv_iload hx hb dL_law_276 (lv_at hl 6 rfl) ?_
    refine lv_iconst (v := 5) hx hb dL_law_278 (by decide) ?_
    refine lv_iadd hx hb dL_law_279 ?_
    refine va_sld hx hb hX hbl hbA hG.2.2 (i := nI (8 * t) + 5) (sc_in (j := 5) ht hL (by omega)) dL_law_280 ?_
    refine lv_aload_n hx hb dL_law_281 rfl (lv_at hl 1 rfl) ?_
    refine lv_iload hx hb dL_law_282 (lv_at hl 6 rfl) ?_
    refine lv_bipush (v := 6) hx hb dL_law_284 (by decide) ?_
    refine lv_iadd hx hb dL_law_286 ?_
    refine va_sld hx hb hX hbl hbA hG.2.2 (i := nI (8 * t) + 6) (sc_in (j := 6) ht hL (by omega)) dL_law_287 ?_
    refine lv_aload_n hx hb dL_law_288 rfl (lv_at hl 1 rfl) ?_
    refine lv_iload hx hb dL_law_289 (lv_at hl 6 rfl) ?_
    refine lv_bipush (v := 7) hx hb dL_law_291 (by decide) ?_
    refine lv_iadd hx hb dL_law_293 ?_
    refine va_sld hx hb hX hbl hbA hG.2.2 (i := nI (8 * t) + 7) (sc_in (j := 7) ht hL (by omega)) dL_law_294 ?_
    refine r_callV (za := za) (k := 14) (ci := 9) (C := RX9) (T := TX9) (N := 36) (As := [vI (xs (nI (8 * t) + 1).toNatClampNeg), vI (xs (nI (8 * t) + 2).toNatClampNeg), vI (xs (nI (8 * t) + 3).toNatClampNeg), vI (xs (nI (8 * t) + 4).toNatClampNeg), vI (xs (nI (8 * t) + 5).toNatClampNeg), vI (xs (nI (8 * t) + 6).toNatClampNeg), vI (xs (nI (8 * t) + 7).toNatClampNeg)]) (rest := []) (tX9_write l S1 14 (xs (nI (8 * t) + 1).toNatClampNeg) (xs (nI (8 * t) + 2).toNatClampNeg) (xs (nI (8 * t) + 3).toNatClampNeg) (xs (nI (8 * t) + 4).toNatClampNeg) (xs (nI (8 * t) + 5).toNatClampNeg) (xs (nI (8 * t) + 6).toNatClampNeg) (xs (nI (8 * t) + 7).toNatClampNeg) _ h9) ⟨hx, hb, hml, hown, hts⟩ (cwV 7 hts gL_law_X9_write rfl rfl rfl (by decide +kernel) ⟨by decide, by decide⟩) hK hG hA (hsh.lt (fn_14 hF)) (cell_9 (hsh.kd (fk_14 hF))) rfl rfl hl.1 rfl (Nat.le_of_ble_eq_true rfl) ⟨by show 39 + 2 * t + 1 ≤ 600096; omega, by show 10000 + 18 * t + 6 ≤ 7301386; omega⟩ dL_law_295 (fun r_9 S3 H locs hp hs3 hG => ?_)
    obtain ⟨u, rfl, hu⟩ := hp
    refine W.eq (g2 := F0 m 298 ls [.int u]) rfl ?_
    refine lv_istore (lv' := [(7, .int u), (6, .int 0), (0, .ref b), (1, .ref (ad 0)), (2, .ref (ad 14)), (3, .ref (ad 37)), (4, .ref (ad 38)), (5, .int (nI (8 * t)))]) hx hb dL_law_298 hl (by decide) rfl (fun ls hl => ?_)
    obtain ⟨eu, hR1, hR2, hR3, hR4⟩ := hu
    refine lv_aload_n hx hb dL_law_300 rfl (lv_at hl 4 rfl) ?_
    refine r_callV (za := za) (k := 14) (ci := 9) (C := RX9) (T := TX9) (N := 36) (As := []) (rest := []) (tX9_thrown l S3 14 (fun r S9 => r = gX S3 14 32 ∧ S9 = S3) ⟨hs3.lt (hsh.lt (fn_14 hF)), hs3.kd (hsh.kd (fk_14 hF)), rfl, rfl⟩) ⟨hx, hb, hml, hown, hts⟩ (cwV 0 hts gL_law_X9_thrown rfl rfl rfl (by decide +kernel) ⟨by decide, by decide⟩) hK hG hA (hs3.lt (hsh.lt (fn_14 hF))) (cell_9 (hs3.kd (hsh.kd (fk_14 hF)))) rfl rfl hl.1 rfl (Nat.le_of_ble_eq_true rfl) ⟨by show 39 + 2 * t + 1 ≤ 600096; omega, by show 10000 + 18 * t + 6 ≤ 7301386; omega⟩ dL_law_301 (fun r_9 S4 H locs hp hs4 hG => ?_)
    obtain ⟨th, rfl, eth, eS4⟩ := hp
    rw [eS4] at hG
    refine W.eq (g2 := F0 m 304 ls [.int th]) rfl ?_
    refine lv_iload hx hb dL_law_304 (lv_at hl 1 rfl) ?_
    refine lv_icmp_eq (tgt := 311) hx hb dL_law_306 (by decide) (fun c_1 => ?_) (fun c_1 => absurd (eth.trans hR1) c_1)
    refine lv_iload hx hb dL_law_311 (lv_at hl 1 rfl) ?_
    refine lv_if_ne (tgt := 328) hx hb dL_law_313 (by decide) (fun c_2 => absurd rfl c_2) (fun _ => ?_)
    have hlen : gL S3 37 = 1 := by rw [hs3.2.2, hsh.2.2]; exact fl_37 hF
    refine lv_aload_n hx hb dL_law_316 rfl (lv_at hl 5 rfl) ?_
    refine lv_iconst (v := 0) hx hb dL_law_317 (by decide) ?_
    refine r_lald hx hb hK hG (hs3.lt (hsh.lt (fn_37 hF))) (hs3.kd (hsh.kd (fk_37 hF))) (i := 0) (by rw [hlen]; exact vp01) dL_law_318 ?_
    refine lv_iload hx hb dL_law_319 (lv_at hl 0 rfl) ?_
    refine lv_i2l hx hb dL_law_321 rfl ?_
    refine W.lcmp hx hb dL_law_322 ?_
    have ez : gZ S3 37 ((0 : Int32).toNatClampNeg) = Int32.toInt64 u := by rw [eu, hR2, eS]; show gZ (sZ S2 37 0 (Int32.toInt64 v)) 37 0 = _; rw [z_sZ, if_pos ⟨rfl, rfl⟩]
    refine lv_if_eq (tgt := 328) hx hb dL_law_323 (by decide) (fun _ => ?_) (fun c_3 => absurd ((lg_cmp_eq _ _).mpr ez) c_3)
    refine lv_goto (tgt := 938) hx hb dL_law_328 (by decide) ?_
    exact W.widen (k := 39 + 2 * (t + 1)) (n := 10000 + 18 * (t + 1)) (by omega) (by omega) (nx S3 ad H locs ls hR4 hG (lv_sub hl [2, 3, 4, 5, 6, 7] rfl))
  · have h9 := hq.2 S1 (Or.inl rfl)
    refine W.eq (g2 := F0 m 248 ls [.int 1]) rfl ?_
    refine lv_istore (lv' := [(6, .int 1), (0, .ref b), (1, .ref (ad 0)), (2, .ref (ad 14)), (3, .ref (ad 37)), (4, .ref (ad 38)), (5, .int (nI (8 * t)))]) hx hb dL_law_248 hl (by decide) rfl (fun ls hl => ?_)
    refine lv_aload_n hx hb dL_law_250 rfl (lv_at hl 3 rfl) ?_
    refine lv_aload_n hx hb dL_law_251 rfl (lv_at hl 1 rfl) ?_
    refine lv_iload hx hb dL_law_252 (lv_at hl 6 rfl) ?_
    refine lv_iconst (v := 1) hx hb dL_law_254 (by decide) ?_
    refine lv_iadd hx hb dL_law_255 ?_
    refine va_sld hx hb hX hbl hbA hG.2.2 (i := nI (8 * t) + 1) (sc_in (j := 1) ht hL (by omega)) dL_law_256 ?_
    refine lv_aload_n hx hb dL_law_257 rfl (lv_at hl 1 rfl) ?_
    refine lv_iload hx hb dL_law_258 (lv_at hl 6 rfl) ?_
    refine lv_iconst (v := 2) hx hb dL_law_260 (by decide) ?_
    refine lv_iadd hx hb dL_law_261 ?_
    refine va_sld hx hb hX hbl hbA hG.2.2 (i := nI (8 * t) + 2) (sc_in (j := 2) ht hL (by omega)) dL_law_262 ?_
    refine lv_aload_n hx hb dL_law_263 rfl (lv_at hl 1 rfl) ?_
    refine lv_iload hx hb dL_law_264 (lv_at hl 6 rfl) ?_
    refine lv_iconst (v := 3) hx hb dL_law_266 (by decide) ?_
    refine lv_iadd hx hb dL_law_267 ?_
    refine va_sld hx hb hX hbl hbA hG.2.2 (i := nI (8 * t) + 3) (sc_in (j := 3) ht hL (by omega)) dL_law_268 ?_
    refine lv_aload_n hx hb dL_law_269 rfl (lv_at hl 1 rfl) ?_
    refine lv_iload hx hb dL_law_270 (lv_at hl 6 rfl) ?_
    refine lv_iconst (v := 4) hx hb dL_law_272 (by decide) ?_
    refine lv_iadd hx hb dL_law_273 ?_
    refine va_sld hx hb hX hbl hbA hG.2.2 (i := nI (8 * t) + 4) (sc_in (j := 4) ht hL (by omega)) dL_law_274 ?_
    refine lv_aload_n hx hb dL_law_275 rfl (lv_at hl 1 rfl) ?_
    refine lv_iload hx hb dL_law_276 (lv_at hl 6 rfl) ?_
    refine lv_iconst (v := 5) hx hb dL_law_278 (by decide) ?_
    refine lv_iadd hx hb dL_law_279 ?_
    refine va_sld hx hb hX hbl hbA hG.2.2 (i := nI (8 * t) + 5) (sc_in (j := 5) ht hL (by omega)) dL_law_280 ?_
    refine lv_aload_n hx hb dL_law_281 rfl (lv_at hl 1 rfl) ?_
    refine lv_iload hx hb dL_law_282 (lv_at hl 6 rfl) ?_
    refine lv_bipush (v := 6) hx hb dL_law_284 (by decide) ?_
    refine lv_iadd hx hb dL_law_286 ?_
    refine va_sld hx hb hX hbl hbA hG.2.2 (i := nI (8 * t) + 6) (sc_in (j := 6) ht hL (by omega)) dL_law_287 ?_
    refine lv_aload_n hx hb dL_law_288 rfl (lv_at hl 1 rfl) ?_
    refine lv_iload hx hb dL_law_289 (lv_at hl 6 rfl) ?_
    refine lv_bipush (v := 7) hx hb dL_law_291 (by decide) ?_
    refine lv_iadd hx hb dL_law_293 ?_
    refine va_sld hx hb hX hbl hbA hG.2.2 (i := nI (8 * t) + 7) (sc_in (j := 7) ht hL (by omega)) dL_law_294 ?_
    refine r_callV (za := za) (k := 14) (ci := 9) (C := RX9) (T := TX9) (N := 36) (As := [vI (xs (nI (8 * t) + 1).toNatClampNeg), vI (xs (nI (8 * t) + 2).toNatClampNeg), vI (xs (nI (8 * t) + 3).toNatClampNeg), vI (xs (nI (8 * t) + 4).toNatClampNeg), vI (xs (nI (8 * t) + 5).toNatClampNeg), vI (xs (nI (8 * t) + 6).toNatClampNeg), vI (xs (nI (8 * t) + 7).toNatClampNeg)]) (rest := []) (tX9_write l S1 14 (xs (nI (8 * t) + 1).toNatClampNeg) (xs (nI (8 * t) + 2).toNatClampNeg) (xs (nI (8 * t) + 3).toNatClampNeg) (xs (nI (8 * t) + 4).toNatClampNeg) (xs (nI (8 * t) + 5).toNatClampNeg) (xs (nI (8 * t) + 6).toNatClampNeg) (xs (nI (8 * t) + 7).toNatClampNeg) _ h9) ⟨hx, hb, hml, hown, hts⟩ (cwV 7 hts gL_law_X9_write rfl rfl rfl (by decide +kernel) ⟨by decide, by decide⟩) hK hG hA (hsh.lt (fn_14 hF)) (cell_9 (hsh.kd (fk_14 hF))) rfl rfl hl.1 rfl (Nat.le_of_ble_eq_true rfl) ⟨by show 39 + 2 * t + 1 ≤ 600096; omega, by show 10000 + 18 * t + 6 ≤ 7301386; omega⟩ dL_law_295 (fun r_9 S3 H locs hp hs3 hG => ?_)
    obtain ⟨u, rfl, hu⟩ := hp
    refine W.eq (g2 := F0 m 298 ls [.int u]) rfl ?_
    refine lv_istore (lv' := [(7, .int u), (6, .int 1), (0, .ref b), (1, .ref (ad 0)), (2, .ref (ad 14)), (3, .ref (ad 37)), (4, .ref (ad 38)), (5, .int (nI (8 * t)))]) hx hb dL_law_298 hl (by decide) rfl (fun ls hl => ?_)
    obtain ⟨hR1, hR2, hR3, hR4⟩ := hu
    refine lv_aload_n hx hb dL_law_300 rfl (lv_at hl 4 rfl) ?_
    refine r_callV (za := za) (k := 14) (ci := 9) (C := RX9) (T := TX9) (N := 36) (As := []) (rest := []) (tX9_thrown l S3 14 (fun r S9 => r = gX S3 14 32 ∧ S9 = S3) ⟨hs3.lt (hsh.lt (fn_14 hF)), hs3.kd (hsh.kd (fk_14 hF)), rfl, rfl⟩) ⟨hx, hb, hml, hown, hts⟩ (cwV 0 hts gL_law_X9_thrown rfl rfl rfl (by decide +kernel) ⟨by decide, by decide⟩) hK hG hA (hs3.lt (hsh.lt (fn_14 hF))) (cell_9 (hs3.kd (hsh.kd (fk_14 hF)))) rfl rfl hl.1 rfl (Nat.le_of_ble_eq_true rfl) ⟨by show 39 + 2 * t + 1 ≤ 600096; omega, by show 10000 + 18 * t + 6 ≤ 7301386; omega⟩ dL_law_301 (fun r_9 S4 H locs hp hs4 hG => ?_)
    obtain ⟨th, rfl, eth, eS4⟩ := hp
    rw [eS4] at hG
    refine W.eq (g2 := F0 m 304 ls [.int th]) rfl ?_
    refine lv_iload hx hb dL_law_304 (lv_at hl 1 rfl) ?_
    refine lv_icmp_eq (tgt := 311) hx hb dL_law_306 (by decide) (fun c_1 => ?_) (fun c_1 => absurd (eth.trans hR1) c_1)
    refine lv_iload hx hb dL_law_311 (lv_at hl 1 rfl) ?_
    refine lv_if_ne (tgt := 328) hx hb dL_law_313 (by decide) (fun _ => ?_) (fun c_2 => absurd c_2 (by decide))
    refine lv_goto (tgt := 938) hx hb dL_law_328 (by decide) ?_
    exact W.widen (k := 39 + 2 * (t + 1)) (n := 10000 + 18 * (t + 1)) (by omega) (by omega) (nx S3 ad H locs ls hR4 hG (lv_sub hl [2, 3, 4, 5, 6, 7] rfl))
  · exact absurd hq.1 (by decide)
set_option maxHeartbeats 4000000 in
set_option maxRecDepth 100000 in
theorem lc_5 {p : Program} {l : Launch} {e : Env} {s : State} {m : MethodId} {below : List Frame} {meth : Method} {c : Code} {b L : Nat} {xs : Nat → Int32} {D : va_G} {Y : Nat → ClassId} {za zv : Nat → Nat} {t : Nat} (C : LC p l s m meth c b L xs D Y za zv) (hL : L ≤ 384) (ht : 8 * t + 8 ≤ L) (nx : lcG p l e s m below meth c b D Y 938 t (t + 1)) : lcG p l e s m below meth c b D Y 357 t t := by
  obtain ⟨hx, hb, hr, hml, hown, hts, hX, hbl, hlocks, hK, hZ, hst⟩ := C
  have hA : ∀ q : Nat, s.heap.size ≤ q → (fun q : Nat => s.heap.size ≤ q) q := fun _ h => h
  have hbA : ¬ (fun q : Nat => s.heap.size ≤ q) b := Nat.not_le.mpr hbl
  have ht48 : t < 48 := by omega
  intro S ad H locs ls hI hG hl
  obtain ⟨n, E, P, lg, pl, oP, oM, dP, hI⟩ := hI
  have hF := hI.1.1
  have hl : lv_has ls 9 [(0, .ref b), (1, .ref (ad 0)), (2, .ref (ad 14)), (3, .ref (ad 37)), (4, .ref (ad 38)), (5, .int (nI (8 * t)))] := hl
  refine lv_aload_n hx hb dL_law_357 rfl (lv_at hl 1 rfl) ?_
  refine lv_aload_n hx hb dL_law_358 rfl (lv_at hl 0 rfl) ?_
  refine lv_iload hx hb dL_law_359 (lv_at hl 5 rfl) ?_
  refine lv_iconst (v := 1) hx hb dL_law_361 (by decide) ?_
  refine lv_iadd hx hb dL_law_362 ?_
  refine va_sld hx hb hX hbl hbA hG.2.2 (i := nI (8 * t) + 1) (sc_in (j := 1) ht hL (by omega)) dL_law_363 ?_
  refine lv_aload_n hx hb dL_law_364 rfl (lv_at hl 0 rfl) ?_
  refine lv_iload hx hb dL_law_365 (lv_at hl 5 rfl) ?_
  refine lv_iconst (v := 2) hx hb dL_law_367 (by decide) ?_
  refine lv_iadd hx hb dL_law_368 ?_
  refine va_sld hx hb hX hbl hbA hG.2.2 (i := nI (8 * t) + 2) (sc_in (j := 2) ht hL (by omega)) dL_law_369 ?_
  refine lv_aload_n hx hb dL_law_370 rfl (lv_at hl 3 rfl) ?_
  refine h_callS (As := [.ref (ad 0), .int (xs (nI (8 * t) + 1).toNatClampNeg), .int (xs (nI (8 * t) + 2).toNatClampNeg), .ref (ad 37)]) (rest := []) (tL_event l hst S hF (xs (nI (8 * t) + 1).toNatClampNeg) (xs (nI (8 * t) + 2).toNatClampNeg) _ _ (event_ok hI ht48) (fun E S1 h => h.1)) rfl ⟨hx, hb, hml, hown, hts⟩ (vx_cwSW 4 hts gL_law_L_event rfl rfl rfl (by decide +kernel) ⟨by decide, by decide⟩) hK hZ hG hA rfl hl.1 rfl (Nat.le_of_ble_eq_true rfl) ⟨by show 39 + 2 * t + 1 ≤ 600096; omega, by show 10000 + 18 * t + 6 ≤ 7301386; omega⟩ dL_law_371 (fun r_9 S1 H locs hp hsh hG => ?_)
  rcases hp with ⟨rfl, v, S2, hq, hsh2, eS⟩ | ⟨rfl, hq⟩ | ⟨rfl, hq⟩
  · have h9 := hq (kpI S2 v) (Or.inr (Or.inl ⟨_, rfl⟩))
    rw [← eS] at h9
    refine W.eq (g2 := F0 m 374 ls [.int 0]) rfl ?_
    refine lv_istore (lv' := [(6, .int 0), (0, .ref b), (1, .ref (ad 0)), (2, .ref (ad 14)), (3, .ref (ad 37)), (4, .ref (ad 38)), (5, .int (nI (8 * t)))]) hx hb dL_law_374 hl (by decide) rfl (fun ls hl => ?_)
    refine lv_aload_n hx hb dL_law_376 rfl (lv_at hl 3 rfl) ?_
    refine lv_aload_n hx hb dL_law_377 rfl (lv_at hl 1 rfl) ?_
    refine lv_iload hx hb dL_law_378 (lv_at hl 6 rfl) ?_
    refine lv_iconst (v := 1) hx hb dL_law_380 (by decide) ?_
    refine lv_iadd hx hb dL_law_381 ?_
    refine va_sld hx hb hX hbl hbA hG.2.2 (i := nI (8 * t) + 1) (sc_in (j := 1) ht hL (by omega)) dL_law_382 ?_
    refine lv_aload_n hx hb dL_law_383 rfl (lv_at hl 1 rfl) ?_
    refine lv_iload hx hb dL_law_384 (lv_at hl 6 rfl) ?_
    refine lv_iconst (v := 2) hx hb dL_law_386 (by decide) ?_
    refine lv_iadd hx hb dL_law_387 ?_
    refine va_sld hx hb hX hbl hbA hG.2.2 (i := nI (8 * t) + 2) (sc_in (j := 2) ht hL (by omega)) dL_law_388 ?_
    refine r_callV (za := za) (k := 14) (ci := 9) (C := RX9) (T := TX9) (N := 36) (As := [vI (xs (nI (8 * t) + 1).toNatClampNeg), vI (xs (nI (8 * t) + 2).toNatClampNeg)]) (rest := []) (tX9_event l S1 14 (xs (nI (8 * t) + 1).toNatClampNeg) (xs (nI (8 * t) + 2).toNatClampNeg) _ h9) ⟨hx, hb, hml, hown, hts⟩ (cwV 2 hts gL_law_X9_event rfl rfl rfl (by decide +kernel) ⟨by decide, by decide⟩) hK hG hA (hsh.lt (fn_14 hF)) (cell_9 (hsh.kd (fk_14 hF))) rfl rfl hl.1 rfl (Nat.le_of_ble_eq_true rfl) ⟨by show 39 + 2 * t + 1 ≤ 600096; omega, by show 10000 + 18 * t + 6 ≤ 7301386; omega⟩ dL_law_389 (fun r_9 S3 H locs hp hs3 hG => ?_)
    obtain ⟨u, rfl, hu⟩ := hp
    refine W.eq (g2 := F0 m 392 ls [.int u]) rfl ?_
    refine lv_istore (lv' := [(7, .int u), (6, .int 0), (0, .ref b), (1, .ref (ad 0)), (2, .ref (ad 14)), (3, .ref (ad 37)), (4, .ref (ad 38)), (5, .int (nI (8 * t)))]) hx hb dL_law_392 hl (by decide) rfl (fun ls hl => ?_)
    obtain ⟨eu, hR1, hR2, hR3, hR4⟩ := hu
    refine lv_aload_n hx hb dL_law_394 rfl (lv_at hl 4 rfl) ?_
    refine r_callV (za := za) (k := 14) (ci := 9) (C := RX9) (T := TX9) (N := 36) (As := []) (rest := []) (tX9_thrown l S3 14 (fun r S9 => r = gX S3 14 32 ∧ S9 = S3) ⟨hs3.lt (hsh.lt (fn_14 hF)), hs3.kd (hsh.kd (fk_14 hF)), rfl, rfl⟩) ⟨hx, hb, hml, hown, hts⟩ (cwV 0 hts gL_law_X9_thrown rfl rfl rfl (by decide +kernel) ⟨by decide, by decide⟩) hK hG hA (hs3.lt (hsh.lt (fn_14 hF))) (cell_9 (hs3.kd (hsh.kd (fk_14 hF)))) rfl rfl hl.1 rfl (Nat.le_of_ble_eq_true rfl) ⟨by show 39 + 2 * t + 1 ≤ 600096; omega, by show 10000 + 18 * t + 6 ≤ 7301386; omega⟩ dL_law_395 (fun r_9 S4 H locs hp hs4 hG => ?_)
    obtain ⟨th, rfl, eth, eS4⟩ := hp
    rw [eS4] at hG
    refine W.eq (g2 := F0 m 398 ls [.int th]) rfl ?_
    refine lv_iload hx hb dL_law_398 (lv_at hl 1 rfl) ?_
    refine lv_icmp_eq (tgt := 405) hx hb dL_law_400 (by decide) (fun c_1 => ?_) (fun c_1 => absurd (eth.trans hR1) c_1)
    refine lv_iload hx hb dL_law_405 (lv_at hl 1 rfl) ?_
    refine lv_if_ne (tgt := 422) hx hb dL_law_407 (by decide) (fun c_2 => absurd rfl c_2) (fun _ => ?_)
    have hlen : gL S3 37 = 1 := by rw [hs3.2.2, hsh.2.2]; exact fl_37 hF
    refine lv_aload_n hx hb dL_law_410 rfl (lv_at hl 5 rfl) ?_
    refine lv_iconst (v := 0) hx hb dL_law_411 (by decide) ?_
    refine r_lald hx hb hK hG (hs3.lt (hsh.lt (fn_37 hF))) (hs3.kd (hsh.kd (fk_37 hF))) (i := 0) (by rw [hlen]; exact vp01) dL_law_412 ?_
    refine lv_iload hx hb dL_law_413 (lv_at hl 0 rfl) ?_
    refine lv_i2l hx hb dL_law_415 rfl ?_
    refine W.lcmp hx hb dL_law_416 ?_
    have ez : gZ S3 37 ((0 : Int32).toNatClampNeg) = Int32.toInt64 u := by rw [eu, hR2, eS]; show gZ (sZ S2 37 0 (Int32.toInt64 v)) 37 0 = _; rw [z_sZ, if_pos ⟨rfl, rfl⟩]
    refine lv_if_eq (tgt := 422) hx hb dL_law_417 (by decide) (fun _ => ?_) (fun c_3 => absurd ((lg_cmp_eq _ _).mpr ez) c_3)
    refine lv_goto (tgt := 938) hx hb dL_law_422 (by decide) ?_
    exact W.widen (k := 39 + 2 * (t + 1)) (n := 10000 + 18 * (t + 1)) (by omega) (by omega) (nx S3 ad H locs ls hR4 hG (lv_sub hl [2, 3, 4, 5, 6, 7] rfl))
  · have h9 := hq.2 S1 (Or.inl rfl)
    refine W.eq (g2 := F0 m 374 ls [.int 1]) rfl ?_
    refine lv_istore (lv' := [(6, .int 1), (0, .ref b), (1, .ref (ad 0)), (2, .ref (ad 14)), (3, .ref (ad 37)), (4, .ref (ad 38)), (5, .int (nI (8 * t)))]) hx hb dL_law_374 hl (by decide) rfl (fun ls hl => ?_)
    refine lv_aload_n hx hb dL_law_376 rfl (lv_at hl 3 rfl) ?_
    refine lv_aload_n hx hb dL_law_377 rfl (lv_at hl 1 rfl) ?_
    refine lv_iload hx hb dL_law_378 (lv_at hl 6 rfl) ?_
    refine lv_iconst (v := 1) hx hb dL_law_380 (by decide) ?_
    refine lv_iadd hx hb dL_law_381 ?_
    refine va_sld hx hb hX hbl hbA hG.2.2 (i := nI (8 * t) + 1) (sc_in (j := 1) ht hL (by omega)) dL_law_382 ?_
    refine lv_aload_n hx hb dL_law_383 rfl (lv_at hl 1 rfl) ?_
    refine lv_iload hx hb dL_law_384 (lv_at hl 6 rfl) ?_
    refine lv_iconst (v := 2) hx hb dL_law_386 (by decide) ?_
    refine lv_iadd hx hb dL_law_387 ?_
    refine va_sld hx hb hX hbl hbA hG.2.2 (i := nI (8 * t) + 2) (sc_in (j := 2) ht hL (by omega)) dL_law_388 ?_
    refine r_callV (za := za) (k := 14) (ci := 9) (C := RX9) (T := TX9) (N := 36) (As := [vI (xs (nI (8 * t) + 1).toNatClampNeg), vI (xs (nI (8 * t) + 2).toNatClampNeg)]) (rest := []) (tX9_event l S1 14 (xs (nI (8 * t) + 1).toNatClampNeg) (xs (nI (8 * t) + 2).toNatClampNeg) _ h9) ⟨hx, hb, hml, hown, hts⟩ (cwV 2 hts gL_law_X9_event rfl rfl rfl (by decide +kernel) ⟨by decide, by decide⟩) hK hG hA (hsh.lt (fn_14 hF)) (cell_9 (hsh.kd (fk_14 hF))) rfl rfl hl.1 rfl (Nat.le_of_ble_eq_true rfl) ⟨by show 39 + 2 * t + 1 ≤ 600096; omega, by show 10000 + 18 * t + 6 ≤ 7301386; omega⟩ dL_law_389 (fun r_9 S3 H locs hp hs3 hG => ?_)
    obtain ⟨u, rfl, hu⟩ := hp
    refine W.eq (g2 := F0 m 392 ls [.int u]) rfl ?_
    refine lv_istore (lv' := [(7, .int u), (6, .int 1), (0, .ref b), (1, .ref (ad 0)), (2, .ref (ad 14)), (3, .ref (ad 37)), (4, .ref (ad 38)), (5, .int (nI (8 * t)))]) hx hb dL_law_392 hl (by decide) rfl (fun ls hl => ?_)
    obtain ⟨hR1, hR2, hR3, hR4⟩ := hu
    refine lv_aload_n hx hb dL_law_394 rfl (lv_at hl 4 rfl) ?_
    refine r_callV (za := za) (k := 14) (ci := 9) (C := RX9) (T := TX9) (N := 36) (As := []) (rest := []) (tX9_thrown l S3 14 (fun r S9 => r = gX S3 14 32 ∧ S9 = S3) ⟨hs3.lt (hsh.lt (fn_14 hF)), hs3.kd (hsh.kd (fk_14 hF)), rfl, rfl⟩) ⟨hx, hb, hml, hown, hts⟩ (cwV 0 hts gL_law_X9_thrown rfl rfl rfl (by decide +kernel) ⟨by decide, by decide⟩) hK hG hA (hs3.lt (hsh.lt (fn_14 hF))) (cell_9 (hs3.kd (hsh.kd (fk_14 hF)))) rfl rfl hl.1 rfl (Nat.le_of_ble_eq_true rfl) ⟨by show 39 + 2 * t + 1 ≤ 600096; omega, by show 10000 + 18 * t + 6 ≤ 7301386; omega⟩ dL_law_395 (fun r_9 S4 H locs hp hs4 hG => ?_)
    obtain ⟨th, rfl, eth, eS4⟩ := hp
    rw [eS4] at hG
    refine W.eq (g2 := F0 m 398 ls [.int th]) rfl ?_
    refine lv_iload hx hb dL_law_398 (lv_at hl 1 rfl) ?_
    refine lv_icmp_eq (tgt := 405) hx hb dL_law_400 (by decide) (fun c_1 => ?_) (fun c_1 => absurd (eth.trans hR1) c_1)
    refine lv_iload hx hb dL_law_405 (lv_at hl 1 rfl) ?_
    refine lv_if_ne (tgt := 422) hx hb dL_law_407 (by decide) (fun _ => ?_) (fun c_2 => absurd c_2 (by decide))
    refine lv_goto (tgt := 938) hx hb dL_law_422 (by decide) ?_
    exact W.widen (k := 39 + 2 * (t + 1)) (n := 10000 + 18 * (t + 1)) (by omega) (by omega) (nx S3 ad H locs ls hR4 hG (lv_sub hl [2, 3, 4, 5, 6, 7] rfl))
  · exact absurd hq.1 (by decide)
