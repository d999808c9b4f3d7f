/-! THE LAW'S LOOP, case by case (laid by gen980.py). -/
/-- what stands all along the law -/
def LC (p : Program) (l : Launch) (s : State) (m : MethodId) (meth : Method) (c : Code) (b L : Nat) (xs : Nat → Int32) (D : va_G) (Y : Nat → ClassId) (za zv : Nat → Nat) : Prop :=
  p.tables.exec = Jvm.exec ∧ c.code = cL_law ∧ meth.sig.returnType = ret ∧ c.maxLocals = 9 ∧ s.vm.findClass RL = some m.cls ∧ (∀ w ∈ lw_tbl, w.before #[Value.ref b] s = true) ∧ va_X b L xs s s.heap ∧ b < s.heap.size ∧ meth.locks = false ∧ va_K D vwCl (tyl Y) s ∧ gZs za zv (fun q : Nat => s.heap.size ≤ q) s s.heap ∧ l.stackTraces = false
/-- the loop's locals -/
def lcL (ad : Nat → Nat) (b : Nat) (i : Int32) : List (Nat × Value) := [(0, .ref b), (1, .ref (ad 0)), (2, .ref (ad 14)), (3, .ref (ad 37)), (4, .ref (ad 38)), (5, .int i)]
/-- at pc of the loop, after t calls, n of them with its room: the law ends with true -/
def lcG (p : Program) (l : Launch) (e : Env) (s : State) (m : MethodId) (below : List Frame) (meth : Method) (c : Code) (b : Nat) (D : va_G) (Y : Nat → ClassId) (pc t n : Nat) : Prop :=
  ∀ (S : GS) (ad : Nat → Nat) (H : Heap) (locs : List Loc) (ls : Array Slot), Inv S n → gS D Y ad (fun q : Nat => s.heap.size ≤ q) s.heap S H locs → lv_has ls 9 (lcL ad b (nI (8 * t))) → W p l e room_1 s m #[Value.ref b] below meth c H locs (39 + 2 * n) (10000 + 18 * n) (lw_Z below #[Value.ref b] s) (F0 m pc ls [])
theorem sc_in {t L j : Nat} (h : 8 * t + 8 ≤ L) (hL : L ≤ 384) (hj : j < 8) : vp_in (nI (8 * t) + nI j) L := by
  rw [nj_add]
  exact nj_in (by omega) (by omega)
set_option maxHeartbeats 4000000 in
set_option maxRecDepth 100000 in
theorem lc_0 {p : Program} {l : Launch} {e : Env} {s : State} {m : MethodId} {below : List Frame} {meth : Method} {c : Code} {b L : Nat} {xs : Nat → Int32} {D : va_G} {Y : Nat → ClassId} {za zv : Nat → Nat} {t : Nat} (C : LC p l s m meth c b L xs D Y za zv) (hL : L ≤ 384) (ht : 8 * t + 8 ≤ L) (nx : lcG p l e s m below meth c b D Y 938 t (t + 1)) : lcG p l e s m below meth c b D Y 116 t t := by
  obtain ⟨hx, hb, hr, hml, hown, hts, hX, hbl, hlocks, hK, hZ, hst⟩ := C
  have hA : ∀ q : Nat, s.heap.size ≤ q → (fun q : Nat => s.heap.size ≤ q) q := fun _ h => h
  have hbA : ¬ (fun q : Nat => s.heap.size ≤ q) b := Nat.not_le.mpr hbl
  have ht48 : t < 48 := by omega
  intro S ad H locs ls hI hG hl
  obtain ⟨n, E, P, lg, pl, oP, oM, dP, hI⟩ := hI
  have hF := hI.1.1
  have hl : lv_has ls 9 [(0, .ref b), (1, .ref (ad 0)), (2, .ref (ad 14)), (3, .ref (ad 37)), (4, .ref (ad 38)), (5, .int (nI (8 * t)))] := hl
  refine lv_aload_n hx hb dL_law_116 rfl (lv_at hl 1 rfl) ?_
  refine lv_aload_n hx hb dL_law_117 rfl (lv_at hl 0 rfl) ?_
  refine lv_iload hx hb dL_law_118 (lv_at hl 5 rfl) ?_
  refine lv_iconst (v := 1) hx hb dL_law_120 (by decide) ?_
  refine lv_iadd hx hb dL_law_121 ?_
  refine va_sld hx hb hX hbl hbA hG.2.2 (i := nI (8 * t) + 1) (sc_in (j := 1) ht hL (by omega)) dL_law_122 ?_
  refine lv_i2c hx hb dL_law_123 rfl ?_
  refine r_callV (za := za) (k := 0) (ci := 8) (C := RX8) (T := TX8) (N := 12) (As := [vI (UInt32.toInt32 ((Int32.toUInt32 (xs (nI (8 * t) + 1).toNatClampNeg)) % 65536))]) (rest := []) (tX8_type l S 0 (UInt32.toInt32 ((Int32.toUInt32 (xs (nI (8 * t) + 1).toNatClampNeg)) % 65536)) _ (type_ok hI ht48)) ⟨hx, hb, hml, hown, hts⟩ (cwV 1 hts gL_law_X8_type rfl rfl rfl (by decide +kernel) ⟨by decide, by decide⟩) hK hG hA (fn_0 hF) (cell_8 (fk_0 hF)) rfl rfl hl.1 rfl (Nat.le_of_ble_eq_true rfl) ⟨by show 39 + 2 * t ≤ 600096; omega, by show 10000 + 18 * t ≤ 7301386; omega⟩ dL_law_124 (fun r_9 S1 H locs hp hsh hG => ?_)
  obtain ⟨v, rfl, h9⟩ := hp
  have h9 := h9 hsh
  have f14 := hsh.lt (fn_14 hF)
  have k14 := hsh.kd (fk_14 hF)
  refine W.eq (g2 := F0 m 127 ls [.int v]) rfl ?_
  refine lv_aload_n hx hb dL_law_127 rfl (lv_at hl 2 rfl) ?_
  refine lv_aload_n hx hb dL_law_128 rfl (lv_at hl 0 rfl) ?_
  refine lv_iload hx hb dL_law_129 (lv_at hl 5 rfl) ?_
  refine lv_iconst (v := 1) hx hb dL_law_131 (by decide) ?_
  refine lv_iadd hx hb dL_law_132 ?_
  refine va_sld hx hb hX hbl hbA hG.2.2 (i := nI (8 * t) + 1) (sc_in (j := 1) ht hL (by omega)) dL_law_133 ?_
  refine lv_i2c hx hb dL_law_134 rfl ?_
  refine r_callV (za := za) (k := 14) (ci := 9) (C := RX9) (T := TX9) (N := 36) (As := [vI (UInt32.toInt32 ((Int32.toUInt32 (xs (nI (8 * t) + 1).toNatClampNeg)) % 65536))]) (rest := [.int v]) (tX9_type l S1 14 (UInt32.toInt32 ((Int32.toUInt32 (xs (nI (8 * t) + 1).toNatClampNeg)) % 65536)) _ h9) ⟨hx, hb, hml, hown, hts⟩ (cwV 1 hts gL_law_X9_type rfl rfl rfl (by decide +kernel) ⟨by decide, by decide⟩) hK hG hA f14 (cell_9 k14) rfl rfl hl.1 rfl (Nat.le_of_ble_eq_true rfl) ⟨by show 39 + 2 * t ≤ 600096; omega, by show 10000 + 18 * t ≤ 7301386; omega⟩ dL_law_135 (fun r_9 S3 H locs hp hs3 hG => ?_)
  obtain ⟨u, rfl, hu⟩ := hp
  obtain ⟨eu, hI3⟩ := hu hs3
  refine W.eq (g2 := F0 m 138 ls [.int u, .int v]) rfl ?_
  refine lv_icmp_eq (tgt := 938) hx hb dL_law_138 (by decide) (fun _ => ?_) (fun c_1 => absurd eu c_1)
  exact W.widen (k := 39 + 2 * (t + 1)) (n := 10000 + 18 * (t + 1)) (by omega) (by omega) (nx S3 ad H locs ls hI3 hG (lv_sub hl [0, 1, 2, 3, 4, 5] rfl))
set_option maxHeartbeats 4000000 in
set_option maxRecDepth 100000 in
theorem lc_4 {p : Program} {l : Launch} {e : Env} {s : State} {m : MethodId} {below : List Frame} {meth : Method} {c : Code} {b L : Nat} {xs : Nat → Int32} {D : va_G} {Y : Nat → ClassId} {za zv : Nat → Nat} {t : Nat} (C : LC p l s m meth c b L xs D Y za zv) (hL : L ≤ 384) (ht : 8 * t + 8 ≤ L) (nx : lcG p l e s m below meth c b D Y 938 t (t + 1)) : lcG p l e s m below meth c b D Y 344 t t := by
  obtain ⟨hx, hb, hr, hml, hown, hts, hX, hbl, hlocks, hK, hZ, hst⟩ := C
  have hA : ∀ q : Nat, s.heap.size ≤ q → (fun q : Nat => s.heap.size ≤ q) q := fun _ h => h
  have hbA : ¬ (fun q : Nat => s.heap.size ≤ q) b := Nat.not_le.mpr hbl
  have ht48 : t < 48 := by omega
  intro S ad H locs ls hI hG hl
  obtain ⟨n, E, P, lg, pl, oP, oM, dP, hI⟩ := hI
  have hF := hI.1.1
  have hl : lv_has ls 9 [(0, .ref b), (1, .ref (ad 0)), (2, .ref (ad 14)), (3, .ref (ad 37)), (4, .ref (ad 38)), (5, .int (nI (8 * t)))] := hl
  refine lv_aload_n hx hb dL_law_344 rfl (lv_at hl 1 rfl) ?_
  refine r_callV (za := za) (k := 0) (ci := 8) (C := RX8) (T := TX8) (N := 12) (As := []) (rest := []) (tX8_finish l S 0  _ (finish_ok hI ht48)) ⟨hx, hb, hml, hown, hts⟩ (cwV 0 hts gL_law_X8_finish rfl rfl rfl (by decide +kernel) ⟨by decide, by decide⟩) hK hG hA (fn_0 hF) (cell_8 (fk_0 hF)) rfl rfl hl.1 rfl (Nat.le_of_ble_eq_true rfl) ⟨by show 39 + 2 * t ≤ 600096; omega, by show 10000 + 18 * t ≤ 7301386; omega⟩ dL_law_345 (fun r_9 S1 H locs hp hsh hG => ?_)
  obtain ⟨v, rfl, h9⟩ := hp
  have h9 := h9 hsh
  have f14 := hsh.lt (fn_14 hF)
  have k14 := hsh.kd (fk_14 hF)
  refine W.eq (g2 := F0 m 348 ls [.int v]) rfl ?_
  refine lv_aload_n hx hb dL_law_348 rfl (lv_at hl 2 rfl) ?_
  refine r_callV (za := za) (k := 14) (ci := 9) (C := RX9) (T := TX9) (N := 36) (As := []) (rest := [.int v]) (tX9_finish l S1 14  _ h9) ⟨hx, hb, hml, hown, hts⟩ (cwV 0 hts gL_law_X9_finish rfl rfl rfl (by decide +kernel) ⟨by decide, by decide⟩) hK hG hA f14 (cell_9 k14) rfl rfl hl.1 rfl (Nat.le_of_ble_eq_true rfl) ⟨by show 39 + 2 * t ≤ 600096; omega, by show 10000 + 18 * t ≤ 7301386; omega⟩ dL_law_349 (fun r_9 S3 H locs hp hs3 hG => ?_)
  obtain ⟨u, rfl, hu⟩ := hp
  obtain ⟨eu, hI3⟩ := hu hs3
  refine W.eq (g2 := F0 m 352 ls [.int u, .int v]) rfl ?_
  refine lv_icmp_eq (tgt := 938) hx hb dL_law_352 (by decide) (fun _ => ?_) (fun c_1 => absurd eu c_1)
  exact W.widen (k := 39 + 2 * (t + 1)) (n := 10000 + 18 * (t + 1)) (by omega) (by omega) (nx S3 ad H locs ls hI3 hG (lv_sub hl [0, 1, 2, 3, 4, 5] rfl))
set_option maxHeartbeats 4000000 in
set_option maxRecDepth 100000 in
theorem lc_3 {p : Program} {l : Launch} {e : Env} {s : State} {m : MethodId} {below : List Frame} {meth : Method} {c : Code} {b L : Nat} {xs : Nat → Int32} {D : va_G} {Y : Nat → ClassId} {za zv : Nat → Nat} {t : Nat} (C : LC p l s m meth c b L xs D Y za zv) (hL : L ≤ 384) (ht : 8 * t + 8 ≤ L) (nx : lcG p l e s m below meth c b D Y 938 t (t + 1)) : lcG p l e s m below meth c b D Y 331 t t := by
  obtain ⟨hx, hb, hr, hml, hown, hts, hX, hbl, hlocks, hK, hZ, hst⟩ := C
  have hA : ∀ q : Nat, s.heap.size ≤ q → (fun q : Nat => s.heap.size ≤ q) q := fun _ h => h
  have hbA : ¬ (fun q : Nat => s.heap.size ≤ q) b := Nat.not_le.mpr hbl
  have ht48 : t < 48 := by omega
  intro S ad H locs ls hI hG hl
  obtain ⟨n, E, P, lg, pl, oP, oM, dP, hI⟩ := hI
  have hF := hI.1.1
  have hl : lv_has ls 9 [(0, .ref b), (1, .ref (ad 0)), (2, .ref (ad 14)), (3, .ref (ad 37)), (4, .ref (ad 38)), (5, .int (nI (8 * t)))] := hl
  refine lv_aload_n hx hb dL_law_331 rfl (lv_at hl 1 rfl) ?_
  refine a_callV (As := []) (rest := []) (tX8_line l S 0 _ (line_ok hI ht48)) rfl ⟨hx, hb, hml, hown, hts⟩ (cwV 0 hts gL_law_X8_line rfl rfl rfl (by decide +kernel) ⟨by decide, by decide⟩) hK hZ hG hA (va_recv hK hG.1 (ci := 8) (q := (RX8, TX8, 12)) rfl (wl_get (fn_0 hF) (cell_8 (fk_0 hF)))) rfl hl.1 rfl (Nat.le_of_ble_eq_true rfl) ⟨by show 39 + 2 * t + 2 ≤ 600096; omega, by show 10000 + 18 * t + 18 ≤ 7301386; omega⟩ dL_law_332 (fun r_9 S1 ad1 H locs hp hsh had hG => ?_)
  obtain ⟨v, rfl, h9⟩ := hp
  have h9 := h9 hsh
  have f14 := hsh.lt (fn_14 hF)
  have k14 := hsh.kd (fn_14 hF) (fk_14 hF)
  have hl : lv_has ls 9 [(0, .ref b), (1, .ref (ad1 0)), (2, .ref (ad1 14)), (3, .ref (ad1 37)), (4, .ref (ad1 38)), (5, .int (nI (8 * t)))] := by rw [had 0 (fn_0 hF), had 14 (fn_14 hF), had 37 (fn_37 hF), had 38 (fn_38 hF)]; exact hl
  refine W.eq (g2 := F0 m 335 ls [.int v]) rfl ?_
  refine lv_aload_n hx hb dL_law_335 rfl (lv_at hl 2 rfl) ?_
  refine r_callV (za := za) (k := 14) (ci := 9) (C := RX9) (T := TX9) (N := 36) (As := []) (rest := [.int v]) (tX9_line l S1 14  _ h9) ⟨hx, hb, hml, hown, hts⟩ (cwV 0 hts gL_law_X9_line rfl rfl rfl (by decide +kernel) ⟨by decide, by decide⟩) hK hG hA f14 (cell_9 k14) rfl rfl hl.1 rfl (Nat.le_of_ble_eq_true rfl) ⟨by show 39 + 2 * t + 2 ≤ 600096; omega, by show 10000 + 18 * t + 18 ≤ 7301386; omega⟩ dL_law_336 (fun r_9 S3 H locs hp hs3 hG => ?_)
  obtain ⟨u, rfl, hu⟩ := hp
  obtain ⟨eu, hI3⟩ := hu hs3
  refine W.eq (g2 := F0 m 339 ls [.int u, .int v]) rfl ?_
  refine lv_icmp_eq (tgt := 938) hx hb dL_law_339 (by decide) (fun _ => ?_) (fun c_1 => absurd eu c_1)
  exact W.widen (k := 39 + 2 * (t + 1)) (n := 10000 + 18 * (t + 1)) (by omega) (by omega) (nx S3 ad1 H locs ls hI3 hG (lv_sub hl [0, 1, 2, 3, 4, 5] rfl))
