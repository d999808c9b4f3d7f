/-- f holds the list ms at its start -/
def MdF (f : Nat → Int32) (ms : List Int32) : Prop := ∀ i, i < ms.length → f i = ms.getD i 0
theorem MdF_add {f : Nat → Int32} {ms : List Int32} (h : MdF f ms) (x : Int32) : MdF (upd f ms.length x) (ms ++ [x]) := by
  intro i hi
  rw [List.length_append, List.length_singleton] at hi
  by_cases h1 : i = ms.length
  · subst h1
    rw [pk_us]
    simp [List.getD_eq_getElem?_getD]
  · rw [pk_un h1, h i (by omega)]
    simp [List.getD_eq_getElem?_getD, List.getElem?_append_left (show i < ms.length by omega)]
/-- what an operation on the mould leaves -/
abbrev mdP (I : Nat → Int32) (B : Nat → Int64) (V : Nat → Nat → Int32) (ms : List Int32) : Option Value → (Nat → Int32) → (Nat → Int64) → (Nat → Nat → Int32) → Prop :=
  pN (fun I' B' V' => ∃ f, B = B' ∧ I' = va_up I 3 (nI ms.length) ∧ V' = va_up V 2 f ∧ MdF f ms)
theorem mdP_0 {I : Nat → Int32} {B : Nat → Int64} {V : Nat → Nat → Int32} {ms : List Int32} (h3 : I 3 = nI ms.length) (hf : MdF (V 2) ms) : mdP I B V ms none I B V := by
  refine ⟨rfl, V 2, rfl, ?_, ?_, hf⟩
  · funext j
    by_cases h : j = 3
    · subst h; rw [va_up_self]; exact h3
    · rw [va_up_ne _ _ h]
  · funext j
    by_cases h : j = 2
    · subst h; rw [va_up_self]
    · rw [va_up_ne _ _ h]

set_option maxHeartbeats 4000000 in
set_option maxRecDepth 100000 in
/-- element(x): the mould grows by x -/
theorem c_element (l : Launch) (I : Nat → Int32) (B : Nat → Int64) (V : Nat → Nat → Int32) (ms ms9 : List Int32) (x : Int32) (hms : ms ++ [x] = ms9) (h3 : I 3 = nI ms.length) (hf : MdF (V 2) ms) (hL : ms.length < 80) : CM l yX9_element wsX9_element 0 I B V (fun a_9 => [.ref a_9, .int x]) (mdP I B V ms9) := by
  refine CM.ofW (cc := cX9_element) (maxL := 2) (ret := none) (by decide) rfl rfl (fun _ => Nat.le_of_ble_eq_true rfl) ?_
  intro p e s m args below meth c D Y ad n b σ A ls hAe hx hb hr hml hts hown hlocks hK hA hG hl
  have hin : ∀ w ∈ wsX90, w ∈ wsX9_element := by decide +kernel
  have hl : lv_has ls 2 [(0, .ref (ad b)), (1, .int x)] := hl

  subst hms
  have lk_13 := hts (.fieldLink RX9 13 "PauseLogModel" "mould" "[I") (by decide +kernel)
  have lk_87 := hts (.fieldLink RX9 87 "PauseLogModel" "mouldLong" "I") (by decide +kernel)
  refine lv_aload_n hx hb dX9_element_0 rfl (lv_at hl 0 rfl) ?_
  refine m_get hx hb hts hin hown hK hG 2 (by decide) lk_13 rfl (.ref (ad (b + 2))) rfl dX9_element_1 ?_
  refine lv_aload_n hx hb dX9_element_4 rfl (lv_at hl 0 rfl) ?_
  refine m_get hx hb hts hin hown hK hG 3 (by decide) lk_87 rfl (.int (I 3)) rfl dX9_element_5 ?_
  refine lv_iload_n hx hb dX9_element_8 rfl (lv_at hl 1 rfl) ?_
  refine m_isN hx hb hK hG (j := 2) (by decide) (by decide) rfl ms.length h3 (Nat.lt_of_lt_of_le hL (by decide)) dX9_element_9 (fun H locs hG => ?_)
  refine lv_aload_n hx hb dX9_element_10 rfl (lv_at hl 0 rfl) ?_
  refine lv_dup hx hb dX9_element_11 rfl ?_
  refine m_get hx hb hts hin hown hK hG 3 (by decide) lk_87 rfl (.int (I 3)) rfl dX9_element_12 ?_
  refine lv_iconst (v := 1) hx hb dX9_element_15 (by decide) ?_
  refine lv_iadd hx hb dX9_element_16 ?_
  refine m_put hx hb hts hin hown hK hG 3 (by decide) lk_87 rfl rfl (mS_3 ad b I B ((I 3) + 1)) rfl rfl dX9_element_17 (fun H locs hG => ?_)
  exact W.vret hx hb hr (fun t ht hW => m_end hAe hG (⟨rfl, _, rfl, by rw [h3, List.length_append, List.length_singleton, nI_1], rfl, MdF_add hf x⟩) ht) (m_locs hG) dX9_element_20
/-- the byte at place k of a long -/
def litB (w : Int64) (k : Nat) : Int32 := ((w.toUInt64 >>> ((nI (8 * k)).toInt64.toUInt64 &&& Int64.toUInt64 63)).toInt64).toInt32 &&& 255
def litF (w : Int64) : Nat → List Int32
  | 0 => []
  | k + 1 => (if litB w k = 0 then [] else [litB w k]) ++ litF w k
theorem litF_len (w : Int64) : ∀ k, (litF w k).length ≤ k := by
  intro k
  induction k with
  | zero => exact Nat.le_refl 0
  | succ k ih =>
    rw [litF, List.length_append]
    split
    · simp; omega
    · simp; omega
set_option maxHeartbeats 4000000 in
set_option maxRecDepth 100000 in
/-- literal(w): the mould grows by the bytes of w that are not 0 -/
theorem c_literal (l : Launch) (I : Nat → Int32) (B : Nat → Int64) (V : Nat → Nat → Int32) (ms ms9 xs : List Int32) (w : Int64) (hxs : litF w 8 = xs) (hms9 : ms ++ xs = ms9) (h3 : I 3 = nI ms.length) (hf : MdF (V 2) ms) (hL : ms.length + 8 ≤ 80) : CM l yX9_literal wsX9_literal 1 I B V (fun a_9 => [.ref a_9, .long w]) (mdP I B V ms9) := by
  refine CM.ofW (cc := cX9_literal) (maxL := 5) (ret := none) (by decide) rfl rfl (fun _ => Nat.le_of_ble_eq_true rfl) ?_
  intro p e s m args below meth c D Y ad n b σ A ls hAe hx hb hr hml hts hown hlocks hK hA hG hl
  have hl : lv_has ls 5 [(0, .ref (ad b)), (1, .long w)] := hl

  subst hms9
  have loop : ∀ (k : Nat) (I1 : Nat → Int32) (V1 : Nat → Nat → Int32) (ms1 : List Int32) (H : Heap) (locs : List Loc) (ls : Array Slot), k ≤ 8 → ms1.length + k ≤ ms.length + 8 → ms1 ++ litF w k = ms ++ xs → mdP I B V ms1 none I1 B V1 → gM D Y ad n A s.heap b σ I1 B V1 H locs →
      (∀ lx : List (Nat × Value), lx = [(3, .int (nI (8 * k) + (-8))), (0, .ref (ad b)), (1, .long w)] → lv_has ls 5 lx → W p l e (rmD 1) s m args below meth c H locs 0 0 (MQ below (mEnd D Y ad n b σ s.heap.size (mdP I B V (ms ++ xs))) args s 0 0 A) (F0 m 3 ls [])) := by
    intro k
    induction k with
    | zero =>
      intro I1 V1 ms1 H locs ls hk hk2 hms hmd hG lx hlx hl
      subst hlx
      refine lv_iload_n hx hb dX9_literal_3 rfl (lv_at hl 0 rfl) ?_
      refine lv_if_lt (tgt := 34) hx hb dX9_literal_4 (by decide) (fun c_4 => ?_) (fun c_4 => absurd (by decide) c_4)
      rw [litF, List.append_nil] at hms
      rw [hms] at hmd
      exact W.vret hx hb hr (fun t ht hW => m_end hAe hG hmd ht) (m_locs hG) dX9_literal_34
    | succ k ih =>
      intro I1 V1 ms1 H locs ls hk hk2 hms hmd hG lx hlx hl
      subst hlx
      have hs : nI (8 * (k + 1)) + (-8) = nI (8 * k) := by
        rw [show 8 * (k + 1) = 8 * k + 8 from by omega, ← nI_add]
        rw [Int32.add_assoc, show nI 8 + (-8) = 0 from by decide, Int32.add_zero]
      rw [hs] at hl
      refine lv_iload_n hx hb dX9_literal_3 rfl (lv_at hl 0 rfl) ?_
      refine lv_if_lt (tgt := 34) hx hb dX9_literal_4 (by decide) (fun c_4 => absurd c_4 (nI_pos (by omega))) (fun c_4 => ?_)
      refine lv_lload_n hx hb dX9_literal_7 rfl (lv_at hl 2 rfl) ?_
      refine lv_iload_n hx hb dX9_literal_8 rfl (lv_at hl 0 rfl) ?_
      refine lv_lushr hx hb dX9_literal_9 rfl ?_
      refine lv_l2i hx hb dX9_literal_10 rfl ?_
      refine lv_sipush (v := 255) hx hb dX9_literal_11 (by decide) ?_
      refine lv_iand hx hb dX9_literal_14 ?_
      refine W.eq (g2 := F0 m 15 ls [.int (litB w k)]) rfl ?_
      refine lv_istore (lv' := [(4, .int (litB w k)), (3, .int (nI (8 * k))), (0, .ref (ad b)), (1, .long w)]) hx hb dX9_literal_15 hl (by decide) rfl (fun ls hl => ?_)
      refine lv_iload hx hb dX9_literal_17 (lv_at hl 0 rfl) ?_
      refine lv_if_eq (tgt := 28) hx hb dX9_literal_19 (by decide) (fun c_19 => ?_) (fun c_19 => ?_)
      · skip
        refine lv_iinc (v := nI (8 * k) + (-8)) (lv' := [(3, .int (nI (8 * k) + (-8))), (4, .int (litB w k)), (0, .ref (ad b)), (1, .long w)]) hx hb dX9_literal_28 hl (k := 1) rfl rfl (by decide) rfl (fun ls hl => ?_)
        refine lv_goto (tgt := 3) hx hb dX9_literal_31 (by decide) ?_
        exact ih I1 V1 ms1 H locs ls (by omega) (by omega) (by rw [litF, if_pos c_19, List.nil_append] at hms; exact hms) hmd hG _ rfl (lv_sub hl [0, 2, 3] rfl)
      · skip
        refine lv_aload_n hx hb dX9_literal_22 rfl (lv_at hl 2 rfl) ?_
        refine lv_iload hx hb dX9_literal_23 (lv_at hl 0 rfl) ?_
        refine m_callV (As := [.int (litB w k)]) (rest := []) (c_element l I1 B V1 ms1 _ (litB w k) rfl (by obtain ⟨-, f_2, -, e1, -, -⟩ := hmd; rw [e1, va_up_self]) (by obtain ⟨-, f_2, -, -, e2, e3⟩ := hmd; rw [e2, va_up_self]; exact e3) (by omega)) ⟨hx, hb, hml, hown, hts⟩ (cwV 1 hts gX9_literal_X9_element rfl rfl rfl (by decide +kernel) ⟨by decide, by decide⟩) hK hG hA rfl hl.1 rfl (by decide) ⟨Nat.le_refl _, Nat.le_refl _⟩ dX9_literal_25 (fun r_9 I_1 B_2 V_3 H locs hp hG => ?_)
        obtain ⟨rfl, f_2, rfl, hI2, hV2, hf2⟩ := hp
        have hmd2 : mdP I B V (ms1 ++ [litB w k]) none I_1 B V_3 := ⟨rfl, f_2, rfl, by rw [hI2, hmd.2.choose_spec.2.1, bx_uu], by rw [hV2, hmd.2.choose_spec.2.2.1, bx_uu], hf2⟩
        refine W.eq (g2 := F0 m 28 ls []) rfl ?_
        refine lv_iinc (v := nI (8 * k) + (-8)) (lv' := [(3, .int (nI (8 * k) + (-8))), (4, .int (litB w k)), (0, .ref (ad b)), (1, .long w)]) hx hb dX9_literal_28 hl (k := 1) rfl rfl (by decide) rfl (fun ls hl => ?_)
        refine lv_goto (tgt := 3) hx hb dX9_literal_31 (by decide) ?_
        exact ih _ _ (ms1 ++ [litB w k]) H locs ls (by omega) (by rw [List.length_append, List.length_singleton]; omega) (by rw [litF, if_neg c_19] at hms; rw [List.append_assoc]; exact hms) hmd2 hG _ rfl (lv_sub hl [0, 2, 3] rfl)
  refine lv_bipush (v := 56) hx hb dX9_literal_0 (by decide) ?_
  refine lv_istore_n (lv' := [(3, .int 56), (0, .ref (ad b)), (1, .long w)]) hx hb dX9_literal_2 rfl hl (by decide) rfl (fun ls hl => ?_)
  exact loop 8 I V ms _ _ ls (Nat.le_refl 8) (Nat.le_refl _) (by rw [hxs]) (mdP_0 h3 hf) hG _ rfl hl
set_option maxHeartbeats 4000000 in
set_option maxRecDepth 100000 in
/-- a size: digits and its unit -/
theorem c_sizeElements (l : Launch) (I : Nat → Int32) (B : Nat → Int64) (V : Nat → Nat → Int32) (ms ms9 : List Int32) (hms : ms ++ [204, 400] = ms9) (h3 : I 3 = nI ms.length) (hf : MdF (V 2) ms) (hL : ms.length + 2 ≤ 80) : CM l yX9_sizeElements wsX9_sizeElements 1 I B V (fun a_9 => [.ref a_9]) (mdP I B V ms9) := by
  refine CM.ofW (cc := cX9_sizeElements) (maxL := 1) (ret := none) (by decide) rfl rfl (fun _ => Nat.le_of_ble_eq_true rfl) ?_
  intro p e s m args below meth c D Y ad n b σ A ls hAe hx hb hr hml hts hown hlocks hK hA hG hl
  have hl : lv_has ls 1 [(0, .ref (ad b))] := hl
  subst hms
  refine lv_aload_n hx hb dX9_sizeElements_0 rfl (lv_at hl 0 rfl) ?_
  refine lv_sipush (v := 204) hx hb dX9_sizeElements_1 (by decide) ?_
  refine m_callV (As := [.int 204]) (rest := []) (c_element l I B V ms (ms ++ [204]) 204 rfl h3 hf (by first | decide | omega | (simp only [List.length_append, List.length_cons, List.length_nil]; omega))) ⟨hx, hb, hml, hown, hts⟩ (cwV 1 hts gX9_sizeElements_X9_element rfl rfl rfl (by decide +kernel) ⟨by decide, by decide⟩) hK hG hA rfl hl.1 rfl (by decide) ⟨Nat.le_refl _, Nat.le_refl _⟩ dX9_sizeElements_4 (fun r_9 I_1 B_2 V_3 H locs hp hG => ?_)
  obtain ⟨rfl, f_4, rfl, e1_9, e2_9, hf_4⟩ := hp
  subst e1_9 e2_9
  have hf_4 : MdF f_4 (ms ++ [204]) := hf_4
  refine W.eq (g2 := F0 m 7 ls []) rfl ?_
  refine lv_aload_n hx hb dX9_sizeElements_7 rfl (lv_at hl 0 rfl) ?_
  refine lv_sipush (v := 400) hx hb dX9_sizeElements_8 (by decide) ?_
  refine m_callV (As := [.int 400]) (rest := []) (c_element l (va_up I 3 (nI (ms ++ [204]).length)) B (va_up V 2 f_4) (ms ++ [204]) (ms ++ [204, 400]) 400 (List.append_assoc _ _ _) (va_up_self _ _ _) hf_4 (by first | decide | omega | (simp only [List.length_append, List.length_cons, List.length_nil]; omega))) ⟨hx, hb, hml, hown, hts⟩ (cwV 1 hts gX9_sizeElements_X9_element rfl rfl rfl (by decide +kernel) ⟨by decide, by decide⟩) hK hG hA rfl hl.1 rfl (by decide) ⟨Nat.le_refl _, Nat.le_refl _⟩ dX9_sizeElements_11 (fun r_9 I_5 B_6 V_7 H locs hp hG => ?_)
  obtain ⟨rfl, f_8, rfl, e1_9, e2_9, hf_8⟩ := hp
  rw [bx_uu] at e1_9
  rw [bx_uu] at e2_9
  subst e1_9 e2_9
  have hf_8 : MdF f_8 (ms ++ [204, 400]) := hf_8
  refine W.eq (g2 := F0 m 14 ls []) rfl ?_
  exact W.vret hx hb hr (fun t ht hW => m_end hAe hG (⟨rfl, _, rfl, rfl, rfl, hf_8⟩) ht) (m_locs hG) dX9_sizeElements_14
set_option maxHeartbeats 4000000 in
set_option maxRecDepth 100000 in
/-- what took how long -/
theorem c_tookElements (l : Launch) (I : Nat → Int32) (B : Nat → Int64) (V : Nat → Nat → Int32) (ms ms9 : List Int32) (hms : ms ++ [204, 46, 300, 109, 115] = ms9) (h3 : I 3 = nI ms.length) (hf : MdF (V 2) ms) (hL : ms.length + 12 ≤ 80) : CM l yX9_tookElements wsX9_tookElements 2 I B V (fun a_9 => [.ref a_9]) (mdP I B V ms9) := by
  refine CM.ofW (cc := cX9_tookElements) (maxL := 1) (ret := none) (by decide) rfl rfl (fun _ => Nat.le_of_ble_eq_true rfl) ?_
  intro p e s m args below meth c D Y ad n b σ A ls hAe hx hb hr hml hts hown hlocks hK hA hG hl
  have hl : lv_has ls 1 [(0, .ref (ad b))] := hl
  subst hms
  have lk_94 := hts (.constantLong RX9 94 (28019)) (by decide +kernel)
  refine lv_aload_n hx hb dX9_tookElements_0 rfl (lv_at hl 0 rfl) ?_
  refine lv_sipush (v := 204) hx hb dX9_tookElements_1 (by decide) ?_
  refine m_callV (As := [.int 204]) (rest := []) (c_element l I B V ms (ms ++ [204]) 204 rfl h3 hf (by first | decide | omega | (simp only [List.length_append, List.length_cons, List.length_nil]; omega))) ⟨hx, hb, hml, hown, hts⟩ (cwV 1 hts gX9_tookElements_X9_element rfl rfl rfl (by decide +kernel) ⟨by decide, by decide⟩) hK hG hA rfl hl.1 rfl (by decide) ⟨Nat.le_refl _, Nat.le_refl _⟩ dX9_tookElements_4 (fun r_9 I_1 B_2 V_3 H locs hp hG => ?_)
  obtain ⟨rfl, f_4, rfl, e1_9, e2_9, hf_4⟩ := hp
  subst e1_9 e2_9
  have hf_4 : MdF f_4 (ms ++ [204]) := hf_4
  refine W.eq (g2 := F0 m 7 ls []) rfl ?_
  refine lv_aload_n hx hb dX9_tookElements_7 rfl (lv_at hl 0 rfl) ?_
  refine lv_bipush (v := 46) hx hb dX9_tookElements_8 (by decide) ?_
  refine m_callV (As := [.int 46]) (rest := []) (c_element l (va_up I 3 (nI (ms ++ [204]).length)) B (va_up V 2 f_4) (ms ++ [204]) (ms ++ [204, 46]) 46 (List.append_assoc _ _ _) (va_up_self _ _ _) hf_4 (by first | decide | omega | (simp only [List.length_append, List.length_cons, List.length_nil]; omega))) ⟨hx, hb, hml, hown, hts⟩ (cwV 1 hts gX9_tookElements_X9_element rfl rfl rfl (by decide +kernel) ⟨by decide, by decide⟩) hK hG hA rfl hl.1 rfl (by decide) ⟨Nat.le_refl _, Nat.le_refl _⟩ dX9_tookElements_10 (fun r_9 I_5 B_6 V_7 H locs hp hG => ?_)
  obtain ⟨rfl, f_8, rfl, e1_9, e2_9, hf_8⟩ := hp
  rw [bx_uu] at e1_9
  rw [bx_uu] at e2_9
  subst e1_9 e2_9
  have hf_8 : MdF f_8 (ms ++ [204, 46]) := hf_8
  refine W.eq (g2 := F0 m 13 ls []) rfl ?_
  refine lv_aload_n hx hb dX9_tookElements_13 rfl (lv_at hl 0 rfl) ?_
  refine lv_sipush (v := 300) hx hb dX9_tookElements_14 (by decide) ?_
  refine m_callV (As := [.int 300]) (rest := []) (c_element l (va_up I 3 (nI (ms ++ [204, 46]).length)) B (va_up V 2 f_8) (ms ++ [204, 46]) (ms ++ [204, 46, 300]) 300 (List.append_assoc _ _ _) (va_up_self _ _ _) hf_8 (by first | decide | omega | (simp only [List.length_append, List.length_cons, List.length_nil]; omega))) ⟨hx, hb, hml, hown, hts⟩ (cwV 1 hts gX9_tookElements_X9_element rfl rfl rfl (by decide +kernel) ⟨by decide, by decide⟩) hK hG hA rfl hl.1 rfl (by decide) ⟨Nat.le_refl _, Nat.le_refl _⟩ dX9_tookElements_17 (fun r_9 I_9 B_10 V_11 H locs hp hG => ?_)
  obtain ⟨rfl, f_12, rfl, e1_9, e2_9, hf_12⟩ := hp
  rw [bx_uu] at e1_9
  rw [bx_uu] at e2_9
  subst e1_9 e2_9
  have hf_12 : MdF f_12 (ms ++ [204, 46, 300]) := hf_12
  refine W.eq (g2 := F0 m 20 ls []) rfl ?_
  refine lv_aload_n hx hb dX9_tookElements_20 rfl (lv_at hl 0 rfl) ?_
  refine lv_ldc2 hx hb hown lk_94 dX9_tookElements_21 ?_
  refine m_callV (As := [.long 28019]) (rest := []) (c_literal l (va_up I 3 (nI (ms ++ [204, 46, 300]).length)) B (va_up V 2 f_12) (ms ++ [204, 46, 300]) (ms ++ [204, 46, 300, 109, 115]) ([109, 115]) 28019 (by decide +kernel) (List.append_assoc _ _ _) (va_up_self _ _ _) hf_12 (by first | decide | omega | (simp only [List.length_append, List.length_cons, List.length_nil]; omega))) ⟨hx, hb, hml, hown, hts⟩ (cwV 1 hts gX9_tookElements_X9_literal rfl rfl rfl (by decide +kernel) ⟨by decide, by decide⟩) hK hG hA rfl hl.1 rfl (by decide) ⟨Nat.le_refl _, Nat.le_refl _⟩ dX9_tookElements_24 (fun r_9 I_13 B_14 V_15 H locs hp hG => ?_)
  obtain ⟨rfl, f_16, rfl, e1_9, e2_9, hf_16⟩ := hp
  rw [bx_uu] at e1_9
  rw [bx_uu] at e2_9
  subst e1_9 e2_9
  have hf_16 : MdF f_16 (ms ++ [204, 46, 300, 109, 115]) := hf_16
  refine W.eq (g2 := F0 m 27 ls []) rfl ?_
  exact W.vret hx hb hr (fun t ht hW => m_end hAe hG (⟨rfl, _, rfl, rfl, rfl, hf_16⟩) ht) (m_locs hG) dX9_tookElements_27
set_option maxHeartbeats 4000000 in
set_option maxRecDepth 100000 in
/-- size->size -/
theorem c_arrow (l : Launch) (I : Nat → Int32) (B : Nat → Int64) (V : Nat → Nat → Int32) (ms ms9 : List Int32) (hms : ms ++ [204, 400, 45, 62, 204, 400] = ms9) (h3 : I 3 = nI ms.length) (hf : MdF (V 2) ms) (hL : ms.length + 10 ≤ 80) : CM l yX9_arrow wsX9_arrow 2 I B V (fun a_9 => [.ref a_9]) (mdP I B V ms9) := by
  refine CM.ofW (cc := cX9_arrow) (maxL := 1) (ret := none) (by decide) rfl rfl (fun _ => Nat.le_of_ble_eq_true rfl) ?_
  intro p e s m args below meth c D Y ad n b σ A ls hAe hx hb hr hml hts hown hlocks hK hA hG hl
  have hl : lv_has ls 1 [(0, .ref (ad b))] := hl
  subst hms
  have lk_119 := hts (.constantLong RX9 119 (11582)) (by decide +kernel)
  refine lv_aload_n hx hb dX9_arrow_0 rfl (lv_at hl 0 rfl) ?_
  refine m_callV (As := []) (rest := []) (c_sizeElements l I B V ms (ms ++ [204, 400]) rfl h3 hf (by first | decide | omega | (simp only [List.length_append, List.length_cons, List.length_nil]; omega))) ⟨hx, hb, hml, hown, hts⟩ (cwV 0 hts gX9_arrow_X9_sizeElements rfl rfl rfl (by decide +kernel) ⟨by decide, by decide⟩) hK hG hA rfl hl.1 rfl (by decide) ⟨Nat.le_refl _, Nat.le_refl _⟩ dX9_arrow_1 (fun r_9 I_1 B_2 V_3 H locs hp hG => ?_)
  obtain ⟨rfl, f_4, rfl, e1_9, e2_9, hf_4⟩ := hp
  subst e1_9 e2_9
  have hf_4 : MdF f_4 (ms ++ [204, 400]) := hf_4
  refine W.eq (g2 := F0 m 4 ls []) rfl ?_
  refine lv_aload_n hx hb dX9_arrow_4 rfl (lv_at hl 0 rfl) ?_
  refine lv_ldc2 hx hb hown lk_119 dX9_arrow_5 ?_
  refine m_callV (As := [.long 11582]) (rest := []) (c_literal l (va_up I 3 (nI (ms ++ [204, 400]).length)) B (va_up V 2 f_4) (ms ++ [204, 400]) (ms ++ [204, 400, 45, 62]) ([45, 62]) 11582 (by decide +kernel) (List.append_assoc _ _ _) (va_up_self _ _ _) hf_4 (by first | decide | omega | (simp only [List.length_append, List.length_cons, List.length_nil]; omega))) ⟨hx, hb, hml, hown, hts⟩ (cwV 1 hts gX9_arrow_X9_literal rfl rfl rfl (by decide +kernel) ⟨by decide, by decide⟩) hK hG hA rfl hl.1 rfl (by decide) ⟨Nat.le_refl _, Nat.le_refl _⟩ dX9_arrow_8 (fun r_9 I_5 B_6 V_7 H locs hp hG => ?_)
  obtain ⟨rfl, f_8, rfl, e1_9, e2_9, hf_8⟩ := hp
  rw [bx_uu] at e1_9
  rw [bx_uu] at e2_9
  subst e1_9 e2_9
  have hf_8 : MdF f_8 (ms ++ [204, 400, 45, 62]) := hf_8
  refine W.eq (g2 := F0 m 11 ls []) rfl ?_
  refine lv_aload_n hx hb dX9_arrow_11 rfl (lv_at hl 0 rfl) ?_
  refine m_callV (As := []) (rest := []) (c_sizeElements l (va_up I 3 (nI (ms ++ [204, 400, 45, 62]).length)) B (va_up V 2 f_8) (ms ++ [204, 400, 45, 62]) (ms ++ [204, 400, 45, 62, 204, 400]) (List.append_assoc _ _ _) (va_up_self _ _ _) hf_8 (by first | decide | omega | (simp only [List.length_append, List.length_cons, List.length_nil]; omega))) ⟨hx, hb, hml, hown, hts⟩ (cwV 0 hts gX9_arrow_X9_sizeElements rfl rfl rfl (by decide +kernel) ⟨by decide, by decide⟩) hK hG hA rfl hl.1 rfl (by decide) ⟨Nat.le_refl _, Nat.le_refl _⟩ dX9_arrow_12 (fun r_9 I_9 B_10 V_11 H locs hp hG => ?_)
  obtain ⟨rfl, f_12, rfl, e1_9, e2_9, hf_12⟩ := hp
  rw [bx_uu] at e1_9
  rw [bx_uu] at e2_9
  subst e1_9 e2_9
  have hf_12 : MdF f_12 (ms ++ [204, 400, 45, 62, 204, 400]) := hf_12
  refine W.eq (g2 := F0 m 15 ls []) rfl ?_
  exact W.vret hx hb hr (fun t ht hW => m_end hAe hG (⟨rfl, _, rfl, rfl, rfl, hf_12⟩) ht) (m_locs hG) dX9_arrow_15
/-- Pause kind (cause) -/
def kindL (k : Int32) : List Int32 := if k = 0 then [89, 111, 117, 110, 103] else if k = 1 then [77, 105, 120, 101, 100] else [70, 117, 108, 108]
def causeL (c : Int32) : List Int32 := if c = 0 then [65, 108, 108, 111, 99] else if c = 1 then [77, 101, 116, 97] else [85, 115, 101, 114]
def pauseL (k c : Int32) : List Int32 := [80, 97, 117, 115, 101, 32] ++ kindL k ++ [32, 40] ++ causeL c ++ [41]
theorem kindL_len (k : Int32) : (kindL k).length ≤ 5 := by
  unfold kindL
  repeat' split
  all_goals decide
theorem causeL_len (k : Int32) : (causeL k).length ≤ 5 := by
  unfold causeL
  repeat' split
  all_goals decide
theorem pauseL_len (k c : Int32) : (pauseL k c).length ≤ 19 := by
  have h1 := kindL_len k
  have h2 := causeL_len c
  simp only [pauseL, List.length_append, List.length_cons, List.length_nil]
  omega
set_option maxHeartbeats 4000000 in
set_option maxRecDepth 100000 in
/-- Pause kind (cause) -/
theorem c_pauseElements (l : Launch) (I : Nat → Int32) (B : Nat → Int64) (V : Nat → Nat → Int32) (ms ms9 : List Int32) (kk ca : Int32) (hms : ms ++ pauseL kk ca = ms9) (h3 : I 3 = nI ms.length) (hf : MdF (V 2) ms) (hL : ms.length + 30 ≤ 80) : CM l yX9_pauseElements wsX9_pauseElements 2 I B V (fun a_9 => [.ref a_9, .int kk, .int ca]) (mdP I B V ms9) := by
  refine CM.ofW (cc := cX9_pauseElements) (maxL := 3) (ret := none) (by decide) rfl rfl (fun _ => Nat.le_of_ble_eq_true rfl) ?_
  intro p e s m args below meth c D Y ad n b σ A ls hAe hx hb hr hml hts hown hlocks hK hA hG hl
  have hl : lv_has ls 3 [(0, .ref (ad b)), (1, .int kk), (2, .int ca)] := hl
  have lk_100 := hts (.constantLong RX9 100 (88379512546592)) (by decide +kernel)
  have lk_102 := hts (.constantLong RX9 102 (384122056295)) (by decide +kernel)
  have lk_104 := hts (.constantLong RX9 104 (332481979748)) (by decide +kernel)
  have lk_106 := hts (.constantLong RX9 106 (1182100588)) (by decide +kernel)
  have lk_108 := hts (.constantLong RX9 108 (8232)) (by decide +kernel)
  have lk_110 := hts (.constantLong RX9 110 (280991919971)) (by decide +kernel)
  have lk_112 := hts (.constantLong RX9 112 (1298494561)) (by decide +kernel)
  have lk_114 := hts (.constantLong RX9 114 (1433625970)) (by decide +kernel)
  refine lv_aload_n hx hb dX9_pauseElements_0 rfl (lv_at hl 0 rfl) ?_
  refine lv_ldc2 hx hb hown lk_100 dX9_pauseElements_1 ?_
  refine m_callV (As := [.long 88379512546592]) (rest := []) (c_literal l I B V ms (ms ++ [80, 97, 117, 115, 101, 32]) ([80, 97, 117, 115, 101, 32]) 88379512546592 (by decide +kernel) rfl h3 hf (by first | decide | omega | (simp only [List.length_append, List.length_cons, List.length_nil]; omega))) ⟨hx, hb, hml, hown, hts⟩ (cwV 1 hts gX9_pauseElements_X9_literal rfl rfl rfl (by decide +kernel) ⟨by decide, by decide⟩) hK hG hA rfl hl.1 rfl (by decide) ⟨Nat.le_refl _, Nat.le_refl _⟩ dX9_pauseElements_4 (fun r_9 I_1 B_2 V_3 H locs hp hG => ?_)
  obtain ⟨rfl, f_4, rfl, e1_9, e2_9, hf_4⟩ := hp
  subst e1_9 e2_9
  have hf_4 : MdF f_4 (ms ++ [80, 97, 117, 115, 101, 32]) := hf_4
  refine W.eq (g2 := F0 m 7 ls []) rfl ?_
  refine lv_aload_n hx hb dX9_pauseElements_7 rfl (lv_at hl 0 rfl) ?_
  refine lv_iload_n hx hb dX9_pauseElements_8 rfl (lv_at hl 1 rfl) ?_
  refine lv_if_ne (tgt := 18) hx hb dX9_pauseElements_9 (by decide) (fun c_9 => ?_) (fun c_9 => ?_)
  · skip
    refine lv_iload_n hx hb dX9_pauseElements_18 rfl (lv_at hl 1 rfl) ?_
    refine lv_iconst (v := 1) hx hb dX9_pauseElements_19 (by decide) ?_
    refine lv_icmp_ne (tgt := 29) hx hb dX9_pauseElements_20 (by decide) (fun c_20 => ?_) (fun c_20 => ?_)
    · skip
      refine lv_ldc2 hx hb hown lk_106 dX9_pauseElements_29 ?_
      refine m_callV (As := [.long 1182100588]) (rest := []) (c_literal l (va_up I 3 (nI (ms ++ [80, 97, 117, 115, 101, 32]).length)) B (va_up V 2 f_4) (ms ++ [80, 97, 117, 115, 101, 32]) (ms ++ [80, 97, 117, 115, 101, 32, 70, 117, 108, 108]) ([70, 117, 108, 108]) 1182100588 (by decide +kernel) (List.append_assoc _ _ _) (va_up_self _ _ _) hf_4 (by first | decide | omega | (simp only [List.length_append, List.length_cons, List.length_nil]; omega))) ⟨hx, hb, hml, hown, hts⟩ (cwV 1 hts gX9_pauseElements_X9_literal rfl rfl rfl (by decide +kernel) ⟨by decide, by decide⟩) hK hG hA rfl hl.1 rfl (by decide) ⟨Nat.le_refl _, Nat.le_refl _⟩ dX9_pauseElements_32 (fun r_9 I_5 B_6 V_7 H locs hp hG => ?_)
      obtain ⟨rfl, f_8, rfl, e1_9, e2_9, hf_8⟩ := hp
      rw [bx_uu] at e1_9
      rw [bx_uu] at e2_9
      subst e1_9 e2_9
      have hf_8 : MdF f_8 (ms ++ [80, 97, 117, 115, 101, 32, 70, 117, 108, 108]) := hf_8
      refine W.eq (g2 := F0 m 35 ls []) rfl ?_
      refine lv_aload_n hx hb dX9_pauseElements_35 rfl (lv_at hl 0 rfl) ?_
      refine lv_ldc2 hx hb hown lk_108 dX9_pauseElements_36 ?_
      refine m_callV (As := [.long 8232]) (rest := []) (c_literal l (va_up I 3 (nI (ms ++ [80, 97, 117, 115, 101, 32, 70, 117, 108, 108]).length)) B (va_up V 2 f_8) (ms ++ [80, 97, 117, 115, 101, 32, 70, 117, 108, 108]) (ms ++ [80, 97, 117, 115, 101, 32, 70, 117, 108, 108, 32, 40]) ([32, 40]) 8232 (by decide +kernel) (List.append_assoc _ _ _) (va_up_self _ _ _) hf_8 (by first | decide | omega | (simp only [List.length_append, List.length_cons, List.length_nil]; omega))) ⟨hx, hb, hml, hown, hts⟩ (cwV 1 hts gX9_pauseElements_X9_literal rfl rfl rfl (by decide +kernel) ⟨by decide, by decide⟩) hK hG hA rfl hl.1 rfl (by decide) ⟨Nat.le_refl _, Nat.le_refl _⟩ dX9_pauseElements_39 (fun r_9 I_9 B_10 V_11 H locs hp hG => ?_)
      obtain ⟨rfl, f_12, rfl, e1_9, e2_9, hf_12⟩ := hp
      rw [bx_uu] at e1_9
      rw [bx_uu] at e2_9
      subst e1_9 e2_9
      have hf_12 : MdF f_12 (ms ++ [80, 97, 117, 115, 101, 32, 70, 117, 108, 108, 32, 40]) := hf_12
      refine W.eq (g2 := F0 m 42 ls []) rfl ?_
      refine lv_aload_n hx hb dX9_pauseElements_42 rfl (lv_at hl 0 rfl) ?_
      refine lv_iload_n hx hb dX9_pauseElements_43 rfl (lv_at hl 2 rfl) ?_
      refine lv_if_ne (tgt := 53) hx hb dX9_pauseElements_44 (by decide) (fun c_44 => ?_) (fun c_44 => ?_)
      · skip
        refine lv_iload_n hx hb dX9_pauseElements_53 rfl (lv_at hl 2 rfl) ?_
        refine lv_iconst (v := 1) hx hb dX9_pauseElements_54 (by decide) ?_
        refine lv_icmp_ne (tgt := 64) hx hb dX9_pauseElements_55 (by decide) (fun c_55 => ?_) (fun c_55 => ?_)
        · skip
          refine lv_ldc2 hx hb hown lk_114 dX9_pauseElements_64 ?_
          refine m_callV (As := [.long 1433625970]) (rest := []) (c_literal l (va_up I 3 (nI (ms ++ [80, 97, 117, 115, 101, 32, 70, 117, 108, 108, 32, 40]).length)) B (va_up V 2 f_12) (ms ++ [80, 97, 117, 115, 101, 32, 70, 117, 108, 108, 32, 40]) (ms ++ [80, 97, 117, 115, 101, 32, 70, 117, 108, 108, 32, 40, 85, 115, 101, 114]) ([85, 115, 101, 114]) 1433625970 (by decide +kernel) (List.append_assoc _ _ _) (va_up_self _ _ _) hf_12 (by first | decide | omega | (simp only [List.length_append, List.length_cons, List.length_nil]; omega))) ⟨hx, hb, hml, hown, hts⟩ (cwV 1 hts gX9_pauseElements_X9_literal rfl rfl rfl (by decide +kernel) ⟨by decide, by decide⟩) hK hG hA rfl hl.1 rfl (by decide) ⟨Nat.le_refl _, Nat.le_refl _⟩ dX9_pauseElements_67 (fun r_9 I_13 B_14 V_15 H locs hp hG => ?_)
          obtain ⟨rfl, f_16, rfl, e1_9, e2_9, hf_16⟩ := hp
          rw [bx_uu] at e1_9
          rw [bx_uu] at e2_9
          subst e1_9 e2_9
          have hf_16 : MdF f_16 (ms ++ [80, 97, 117, 115, 101, 32, 70, 117, 108, 108, 32, 40, 85, 115, 101, 114]) := hf_16
          refine W.eq (g2 := F0 m 70 ls []) rfl ?_
          refine lv_aload_n hx hb dX9_pauseElements_70 rfl (lv_at hl 0 rfl) ?_
          refine lv_bipush (v := 41) hx hb dX9_pauseElements_71 (by decide) ?_
          refine m_callV (As := [.int 41]) (rest := []) (c_element l (va_up I 3 (nI (ms ++ [80, 97, 117, 115, 101, 32, 70, 117, 108, 108, 32, 40, 85, 115, 101, 114]).length)) B (va_up V 2 f_16) (ms ++ [80, 97, 117, 115, 101, 32, 70, 117, 108, 108, 32, 40, 85, 115, 101, 114]) (ms ++ [80, 97, 117, 115, 101, 32, 70, 117, 108, 108, 32, 40, 85, 115, 101, 114, 41]) 41 (List.append_assoc _ _ _) (va_up_self _ _ _) hf_16 (by first | decide | omega | (simp only [List.length_append, List.length_cons, List.length_nil]; omega))) ⟨hx, hb, hml, hown, hts⟩ (cwV 1 hts gX9_pauseElements_X9_element rfl rfl rfl (by decide +kernel) ⟨by decide, by decide⟩) hK hG hA rfl hl.1 rfl (by decide) ⟨Nat.le_refl _, Nat.le_refl _⟩ dX9_pauseElements_73 (fun r_9 I_17 B_18 V_19 H locs hp hG => ?_)
          obtain ⟨rfl, f_20, rfl, e1_9, e2_9, hf_20⟩ := hp
          rw [bx_uu] at e1_9
          rw [bx_uu] at e2_9
          subst e1_9 e2_9
          have hf_20 : MdF f_20 (ms ++ [80, 97, 117, 115, 101, 32, 70, 117, 108, 108, 32, 40, 85, 115, 101, 114, 41]) := hf_20
          refine W.eq (g2 := F0 m 76 ls []) rfl ?_
          exact W.vret hx hb hr (fun t ht hW => m_end hAe hG (by rw [← hms, show ms ++ pauseL kk ca = ms ++ [80, 97, 117, 115, 101, 32, 70, 117, 108, 108, 32, 40, 85, 115, 101, 114, 41] from by simp [pauseL, kindL, causeL, *]]; exact ⟨rfl, _, rfl, rfl, rfl, hf_20⟩) ht) (m_locs hG) dX9_pauseElements_76
        · skip
          refine lv_ldc2 hx hb hown lk_112 dX9_pauseElements_58 ?_
          refine lv_goto (tgt := 67) hx hb dX9_pauseElements_61 (by decide) ?_
          refine m_callV (As := [.long 1298494561]) (rest := []) (c_literal l (va_up I 3 (nI (ms ++ [80, 97, 117, 115, 101, 32, 70, 117, 108, 108, 32, 40]).length)) B (va_up V 2 f_12) (ms ++ [80, 97, 117, 115, 101, 32, 70, 117, 108, 108, 32, 40]) (ms ++ [80, 97, 117, 115, 101, 32, 70, 117, 108, 108, 32, 40, 77, 101, 116, 97]) ([77, 101, 116, 97]) 1298494561 (by decide +kernel) (List.append_assoc _ _ _) (va_up_self _ _ _) hf_12 (by first | decide | omega | (simp only [List.length_append, List.length_cons, List.length_nil]; omega))) ⟨hx, hb, hml, hown, hts⟩ (cwV 1 hts gX9_pauseElements_X9_literal rfl rfl rfl (by decide +kernel) ⟨by decide, by decide⟩) hK hG hA rfl hl.1 rfl (by decide) ⟨Nat.le_refl _, Nat.le_refl _⟩ dX9_pauseElements_67 (fun r_9 I_21 B_22 V_23 H locs hp hG => ?_)
          obtain ⟨rfl, f_24, rfl, e1_9, e2_9, hf_24⟩ := hp
          rw [bx_uu] at e1_9
          rw [bx_uu] at e2_9
          subst e1_9 e2_9
          have hf_24 : MdF f_24 (ms ++ [80, 97, 117, 115, 101, 32, 70, 117, 108, 108, 32, 40, 77, 101, 116, 97]) := hf_24
          refine W.eq (g2 := F0 m 70 ls []) rfl ?_
          refine lv_aload_n hx hb dX9_pauseElements_70 rfl (lv_at hl 0 rfl) ?_
          refine lv_bipush (v := 41) hx hb dX9_pauseElements_71 (by decide) ?_
          refine m_callV (As := [.int 41]) (rest := []) (c_element l (va_up I 3 (nI (ms ++ [80, 97, 117, 115, 101, 32, 70, 117, 108, 108, 32, 40, 77, 101, 116, 97]).length)) B (va_up V 2 f_24) (ms ++ [80, 97, 117, 115, 101, 32, 70, 117, 108, 108, 32, 40, 77, 101, 116, 97]) (ms ++ [80, 97, 117, 115, 101, 32, 70, 117, 108, 108, 32, 40, 77, 101, 116, 97, 41]) 41 (List.append_assoc _ _ _) (va_up_self _ _ _) hf_24 (by first | decide | omega | (simp only [List.length_append, List.length_cons, List.length_nil]; omega))) ⟨hx, hb, hml, hown, hts⟩ (cwV 1 hts gX9_pauseElements_X9_element rfl rfl rfl (by decide +kernel) ⟨by decide, by decide⟩) hK hG hA rfl hl.1 rfl (by decide) ⟨Nat.le_refl _, Nat.le_refl _⟩ dX9_pauseElements_73 (fun r_9 I_25 B_26 V_27 H locs hp hG => ?_)
          obtain ⟨rfl, f_28, rfl, e1_9, e2_9, hf_28⟩ := hp
          rw [bx_uu] at e1_9
          rw [bx_uu] at e2_9
          subst e1_9 e2_9
          have hf_28 : MdF f_28 (ms ++ [80, 97, 117, 115, 101, 32, 70, 117, 108, 108, 32, 40, 77, 101, 116, 97, 41]) := hf_28
          refine W.eq (g2 := F0 m 76 ls []) rfl ?_
          exact W.vret hx hb hr (fun t ht hW => m_end hAe hG (by rw [← hms, show ms ++ pauseL kk ca = ms ++ [80, 97, 117, 115, 101, 32, 70, 117, 108, 108, 32, 40, 77, 101, 116, 97, 41] from by simp [pauseL, kindL, causeL, *]]; exact ⟨rfl, _, rfl, rfl, rfl, hf_28⟩) ht) (m_locs hG) dX9_pauseElements_76
      · skip
        refine lv_ldc2 hx hb hown lk_110 dX9_pauseElements_47 ?_
        refine lv_goto (tgt := 67) hx hb dX9_pauseElements_50 (by decide) ?_
        refine m_callV (As := [.long 280991919971]) (rest := []) (c_literal l (va_up I 3 (nI (ms ++ [80, 97, 117, 115, 101, 32, 70, 117, 108, 108, 32, 40]).length)) B (va_up V 2 f_12) (ms ++ [80, 97, 117, 115, 101, 32, 70, 117, 108, 108, 32, 40]) (ms ++ [80, 97, 117, 115, 101, 32, 70, 117, 108, 108, 32, 40, 65, 108, 108, 111, 99]) ([65, 108, 108, 111, 99]) 280991919971 (by decide +kernel) (List.append_assoc _ _ _) (va_up_self _ _ _) hf_12 (by first | decide | omega | (simp only [List.length_append, List.length_cons, List.length_nil]; omega))) ⟨hx, hb, hml, hown, hts⟩ (cwV 1 hts gX9_pauseElements_X9_literal rfl rfl rfl (by decide +kernel) ⟨by decide, by decide⟩) hK hG hA rfl hl.1 rfl (by decide) ⟨Nat.le_refl _, Nat.le_refl _⟩ dX9_pauseElements_67 (fun r_9 I_29 B_30 V_31 H locs hp hG => ?_)
        obtain ⟨rfl, f_32, rfl, e1_9, e2_9, hf_32⟩ := hp
        rw [bx_uu] at e1_9
        rw [bx_uu] at e2_9
        subst e1_9 e2_9
        have hf_32 : MdF f_32 (ms ++ [80, 97, 117, 115, 101, 32, 70, 117, 108, 108, 32, 40, 65, 108, 108, 111, 99]) := hf_32
        refine W.eq (g2 := F0 m 70 ls []) rfl ?_
        refine lv_aload_n hx hb dX9_pauseElements_70 rfl (lv_at hl 0 rfl) ?_
        refine lv_bipush (v := 41) hx hb dX9_pauseElements_71 (by decide) ?_
        refine m_callV (As := [.int 41]) (rest := []) (c_element l (va_up I 3 (nI (ms ++ [80, 97, 117, 115, 101, 32, 70, 117, 108, 108, 32, 40, 65, 108, 108, 111, 99]).length)) B (va_up V 2 f_32) (ms ++ [80, 97, 117, 115, 101, 32, 70, 117, 108, 108, 32, 40, 65, 108, 108, 111, 99]) (ms ++ [80, 97, 117, 115, 101, 32, 70, 117, 108, 108, 32, 40, 65, 108, 108, 111, 99, 41]) 41 (List.append_assoc _ _ _) (va_up_self _ _ _) hf_32 (by first | decide | omega | (simp only [List.length_append, List.length_cons, List.length_nil]; omega))) ⟨hx, hb, hml, hown, hts⟩ (cwV 1 hts gX9_pauseElements_X9_element rfl rfl rfl (by decide +kernel) ⟨by decide, by decide⟩) hK hG hA rfl hl.1 rfl (by decide) ⟨Nat.le_refl _, Nat.le_refl _⟩ dX9_pauseElements_73 (fun r_9 I_33 B_34 V_35 H locs hp hG => ?_)
        obtain ⟨rfl, f_36, rfl, e1_9, e2_9, hf_36⟩ := hp
        rw [bx_uu] at e1_9
        rw [bx_uu] at e2_9
        subst e1_9 e2_9
        have hf_36 : MdF f_36 (ms ++ [80, 97, 117, 115, 101, 32, 70, 117, 108, 108, 32, 40, 65, 108, 108, 111, 99, 41]) := hf_36
        refine W.eq (g2 := F0 m 76 ls []) rfl ?_
        exact W.vret hx hb hr (fun t ht hW => m_end hAe hG (by rw [← hms, show ms ++ pauseL kk ca = ms ++ [80, 97, 117, 115, 101, 32, 70, 117, 108, 108, 32, 40, 65, 108, 108, 111, 99, 41] from by simp [pauseL, kindL, causeL, *]]; exact ⟨rfl, _, rfl, rfl, rfl, hf_36⟩) ht) (m_locs hG) dX9_pauseElements_76
    · skip
      refine lv_ldc2 hx hb hown lk_104 dX9_pauseElements_23 ?_
      refine lv_goto (tgt := 32) hx hb dX9_pauseElements_26 (by decide) ?_
      refine m_callV (As := [.long 332481979748]) (rest := []) (c_literal l (va_up I 3 (nI (ms ++ [80, 97, 117, 115, 101, 32]).length)) B (va_up V 2 f_4) (ms ++ [80, 97, 117, 115, 101, 32]) (ms ++ [80, 97, 117, 115, 101, 32, 77, 105, 120, 101, 100]) ([77, 105, 120, 101, 100]) 332481979748 (by decide +kernel) (List.append_assoc _ _ _) (va_up_self _ _ _) hf_4 (by first | decide | omega | (simp only [List.length_append, List.length_cons, List.length_nil]; omega))) ⟨hx, hb, hml, hown, hts⟩ (cwV 1 hts gX9_pauseElements_X9_literal rfl rfl rfl (by decide +kernel) ⟨by decide, by decide⟩) hK hG hA rfl hl.1 rfl (by decide) ⟨Nat.le_refl _, Nat.le_refl _⟩ dX9_pauseElements_32 (fun r_9 I_37 B_38 V_39 H locs hp hG => ?_)
      obtain ⟨rfl, f_40, rfl, e1_9, e2_9, hf_40⟩ := hp
      rw [bx_uu] at e1_9
      rw [bx_uu] at e2_9
      subst e1_9 e2_9
      have hf_40 : MdF f_40 (ms ++ [80, 97, 117, 115, 101, 32, 77, 105, 120, 101, 100]) := hf_40
      refine W.eq (g2 := F0 m 35 ls []) rfl ?_
      refine lv_aload_n hx hb dX9_pauseElements_35 rfl (lv_at hl 0 rfl) ?_
      refine lv_ldc2 hx hb hown lk_108 dX9_pauseElements_36 ?_
      refine m_callV (As := [.long 8232]) (rest := []) (c_literal l (va_up I 3 (nI (ms ++ [80, 97, 117, 115, 101, 32, 77, 105, 120, 101, 100]).length)) B (va_up V 2 f_40) (ms ++ [80, 97, 117, 115, 101, 32, 77, 105, 120, 101, 100]) (ms ++ [80, 97, 117, 115, 101, 32, 77, 105, 120, 101, 100, 32, 40]) ([32, 40]) 8232 (by decide +kernel) (List.append_assoc _ _ _) (va_up_self _ _ _) hf_40 (by first | decide | omega | (simp only [List.length_append, List.length_cons, List.length_nil]; omega))) ⟨hx, hb, hml, hown, hts⟩ (cwV 1 hts gX9_pauseElements_X9_literal rfl rfl rfl (by decide +kernel) ⟨by decide, by decide⟩) hK hG hA rfl hl.1 rfl (by decide) ⟨Nat.le_refl _, Nat.le_refl _⟩ dX9_pauseElements_39 (fun r_9 I_41 B_42 V_43 H locs hp hG => ?_)
      obtain ⟨rfl, f_44, rfl, e1_9, e2_9, hf_44⟩ := hp
      rw [bx_uu] at e1_9
      rw [bx_uu] at e2_9
      subst e1_9 e2_9
      have hf_44 : MdF f_44 (ms ++ [80, 97, 117, 115, 101, 32, 77, 105, 120, 101, 100, 32, 40]) := hf_44
      refine W.eq (g2 := F0 m 42 ls []) rfl ?_
      refine lv_aload_n hx hb dX9_pauseElements_42 rfl (lv_at hl 0 rfl) ?_
      refine lv_iload_n hx hb dX9_pauseElements_43 rfl (lv_at hl 2 rfl) ?_
      refine lv_if_ne (tgt := 53) hx hb dX9_pauseElements_44 (by decide) (fun c_44 => ?_) (fun c_44 => ?_)
      · skip
        refine lv_iload_n hx hb dX9_pauseElements_53 rfl (lv_at hl 2 rfl) ?_
        refine lv_iconst (v := 1) hx hb dX9_pauseElements_54 (by decide) ?_
        refine lv_icmp_ne (tgt := 64) hx hb dX9_pauseElements_55 (by decide) (fun c_55 => ?_) (fun c_55 => ?_)
        · skip
          refine lv_ldc2 hx hb hown lk_114 dX9_pauseElements_64 ?_
          refine m_callV (As := [.long 1433625970]) (rest := []) (c_literal l (va_up I 3 (nI (ms ++ [80, 97, 117, 115, 101, 32, 77, 105, 120, 101, 100, 32, 40]).length)) B (va_up V 2 f_44) (ms ++ [80, 97, 117, 115, 101, 32, 77, 105, 120, 101, 100, 32, 40]) (ms ++ [80, 97, 117, 115, 101, 32, 77, 105, 120, 101, 100, 32, 40, 85, 115, 101, 114]) ([85, 115, 101, 114]) 1433625970 (by decide +kernel) (List.append_assoc _ _ _) (va_up_self _ _ _) hf_44 (by first | decide | omega | (simp only [List.length_append, List.length_cons, List.length_nil]; omega))) ⟨hx, hb, hml, hown, hts⟩ (cwV 1 hts gX9_pauseElements_X9_literal rfl rfl rfl (by decide +kernel) ⟨by decide, by decide⟩) hK hG hA rfl hl.1 rfl (by decide) ⟨Nat.le_refl _, Nat.le_refl _⟩ dX9_pauseElements_67 (fun r_9 I_45 B_46 V_47 H locs hp hG => ?_)
          obtain ⟨rfl, f_48, rfl, e1_9, e2_9, hf_48⟩ := hp
          rw [bx_uu] at e1_9
          rw [bx_uu] at e2_9
          subst e1_9 e2_9
          have hf_48 : MdF f_48 (ms ++ [80, 97, 117, 115, 101, 32, 77, 105, 120, 101, 100, 32, 40, 85, 115, 101, 114]) := hf_48
          refine W.eq (g2 := F0 m 70 ls []) rfl ?_
          refine lv_aload_n hx hb dX9_pauseElements_70 rfl (lv_at hl 0 rfl) ?_
          refine lv_bipush (v := 41) hx hb dX9_pauseElements_71 (by decide) ?_
          refine m_callV (As := [.int 41]) (rest := []) (c_element l (va_up I 3 (nI (ms ++ [80, 97, 117, 115, 101, 32, 77, 105, 120, 101, 100, 32, 40, 85, 115, 101, 114]).length)) B (va_up V 2 f_48) (ms ++ [80, 97, 117, 115, 101, 32, 77, 105, 120, 101, 100, 32, 40, 85, 115, 101, 114]) (ms ++ [80, 97, 117, 115, 101, 32, 77, 105, 120, 101, 100, 32, 40, 85, 115, 101, 114, 41]) 41 (List.append_assoc _ _ _) (va_up_self _ _ _) hf_48 (by first | decide | omega | (simp only [List.length_append, List.length_cons, List.length_nil]; omega))) ⟨hx, hb, hml, hown, hts⟩ (cwV 1 hts gX9_pauseElements_X9_element rfl rfl rfl (by decide +kernel) ⟨by decide, by decide⟩) hK hG hA rfl hl.1 rfl (by decide) ⟨Nat.le_refl _, Nat.le_refl _⟩ dX9_pauseElements_73 (fun r_9 I_49 B_50 V_51 H locs hp hG => ?_)
          obtain ⟨rfl, f_52, rfl, e1_9, e2_9, hf_52⟩ := hp
          rw [bx_uu] at e1_9
          rw [bx_uu] at e2_9
          subst e1_9 e2_9
          have hf_52 : MdF f_52 (ms ++ [80, 97, 117, 115, 101, 32, 77, 105, 120, 101, 100, 32, 40, 85, 115, 101, 114, 41]) := hf_52
          refine W.eq (g2 := F0 m 76 ls []) rfl ?_
          exact W.vret hx hb hr (fun t ht hW => m_end hAe hG (by rw [← hms, show ms ++ pauseL kk ca = ms ++ [80, 97, 117, 115, 101, 32, 77, 105, 120, 101, 100, 32, 40, 85, 115, 101, 114, 41] from by simp [pauseL, kindL, causeL, *]]; exact ⟨rfl, _, rfl, rfl, rfl, hf_52⟩) ht) (m_locs hG) dX9_pauseElements_76
        · skip
          refine lv_ldc2 hx hb hown lk_112 dX9_pauseElements_58 ?_
          refine lv_goto (tgt := 67) hx hb dX9_pauseElements_61 (by decide) ?_
          refine m_callV (As := [.long 1298494561]) (rest := []) (c_literal l (va_up I 3 (nI (ms ++ [80, 97, 117, 115, 101, 32, 77, 105, 120, 101, 100, 32, 40]).length)) B (va_up V 2 f_44) (ms ++ [80, 97, 117, 115, 101, 32, 77, 105, 120, 101, 100, 32, 40]) (ms ++ [80, 97, 117, 115, 101, 32, 77, 105, 120, 101, 100, 32, 40, 77, 101, 116, 97]) ([77, 101, 116, 97]) 1298494561 (by decide +kernel) (List.append_assoc _ _ _) (va_up_self _ _ _) hf_44 (by first | decide | omega | (simp only [List.length_append, List.length_cons, List.length_nil]; omega))) ⟨hx, hb, hml, hown, hts⟩ (cwV 1 hts gX9_pauseElements_X9_literal rfl rfl rfl (by decide +kernel) ⟨by decide, by decide⟩) hK hG hA rfl hl.1 rfl (by decide) ⟨Nat.le_refl _, Nat.le_refl _⟩ dX9_pauseElements_67 (fun r_9 I_53 B_54 V_55 H locs hp hG => ?_)
          obtain ⟨rfl, f_56, rfl, e1_9, e2_9, hf_56⟩ := hp
          rw [bx_uu] at e1_9
          rw [bx_uu] at e2_9
          subst e1_9 e2_9
          have hf_56 : MdF f_56 (ms ++ [80, 97, 117, 115, 101, 32, 77, 105, 120, 101, 100, 32, 40, 77, 101, 116, 97]) := hf_56
          refine W.eq (g2 := F0 m 70 ls []) rfl ?_
          refine lv_aload_n hx hb dX9_pauseElements_70 rfl (lv_at hl 0 rfl) ?_
          refine lv_bipush (v := 41) hx hb dX9_pauseElements_71 (by decide) ?_
          refine m_callV (As := [.int 41]) (rest := []) (c_element l (va_up I 3 (nI (ms ++ [80, 97, 117, 115, 101, 32, 77, 105, 120, 101, 100, 32, 40, 77, 101, 116, 97]).length)) B (va_up V 2 f_56) (ms ++ [80, 97, 117, 115, 101, 32, 77, 105, 120, 101, 100, 32, 40, 77, 101, 116, 97]) (ms ++ [80, 97, 117, 115, 101, 32, 77, 105, 120, 101, 100, 32, 40, 77, 101, 116, 97, 41]) 41 (List.append_assoc _ _ _) (va_up_self _ _ _) hf_56 (by first | decide | omega | (simp only [List.length_append, List.length_cons, List.length_nil]; omega))) ⟨hx, hb, hml, hown, hts⟩ (cwV 1 hts gX9_pauseElements_X9_element rfl rfl rfl (by decide +kernel) ⟨by decide, by decide⟩) hK hG hA rfl hl.1 rfl (by decide) ⟨Nat.le_refl _, Nat.le_refl _⟩ dX9_pauseElements_73 (fun r_9 I_57 B_58 V_59 H locs hp hG => ?_)
          obtain ⟨rfl, f_60, rfl, e1_9, e2_9, hf_60⟩ := hp
          rw [bx_uu] at e1_9
          rw [bx_uu] at e2_9
          subst e1_9 e2_9
          have hf_60 : MdF f_60 (ms ++ [80, 97, 117, 115, 101, 32, 77, 105, 120, 101, 100, 32, 40, 77, 101, 116, 97, 41]) := hf_60
          refine W.eq (g2 := F0 m 76 ls []) rfl ?_
          exact W.vret hx hb hr (fun t ht hW => m_end hAe hG (by rw [← hms, show ms ++ pauseL kk ca = ms ++ [80, 97, 117, 115, 101, 32, 77, 105, 120, 101, 100, 32, 40, 77, 101, 116, 97, 41] from by simp [pauseL, kindL, causeL, *]]; exact ⟨rfl, _, rfl, rfl, rfl, hf_60⟩) ht) (m_locs hG) dX9_pauseElements_76
      · skip
        refine lv_ldc2 hx hb hown lk_110 dX9_pauseElements_47 ?_
        refine lv_goto (tgt := 67) hx hb dX9_pauseElements_50 (by decide) ?_
        refine m_callV (As := [.long 280991919971]) (rest := []) (c_literal l (va_up I 3 (nI (ms ++ [80, 97, 117, 115, 101, 32, 77, 105, 120, 101, 100, 32, 40]).length)) B (va_up V 2 f_44) (ms ++ [80, 97, 117, 115, 101, 32, 77, 105, 120, 101, 100, 32, 40]) (ms ++ [80, 97, 117, 115, 101, 32, 77, 105, 120, 101, 100, 32, 40, 65, 108, 108, 111, 99]) ([65, 108, 108, 111, 99]) 280991919971 (by decide +kernel) (List.append_assoc _ _ _) (va_up_self _ _ _) hf_44 (by first | decide | omega | (simp only [List.length_append, List.length_cons, List.length_nil]; omega))) ⟨hx, hb, hml, hown, hts⟩ (cwV 1 hts gX9_pauseElements_X9_literal rfl rfl rfl (by decide +kernel) ⟨by decide, by decide⟩) hK hG hA rfl hl.1 rfl (by decide) ⟨Nat.le_refl _, Nat.le_refl _⟩ dX9_pauseElements_67 (fun r_9 I_61 B_62 V_63 H locs hp hG => ?_)
        obtain ⟨rfl, f_64, rfl, e1_9, e2_9, hf_64⟩ := hp
        rw [bx_uu] at e1_9
        rw [bx_uu] at e2_9
        subst e1_9 e2_9
        have hf_64 : MdF f_64 (ms ++ [80, 97, 117, 115, 101, 32, 77, 105, 120, 101, 100, 32, 40, 65, 108, 108, 111, 99]) := hf_64
        refine W.eq (g2 := F0 m 70 ls []) rfl ?_
        refine lv_aload_n hx hb dX9_pauseElements_70 rfl (lv_at hl 0 rfl) ?_
        refine lv_bipush (v := 41) hx hb dX9_pauseElements_71 (by decide) ?_
        refine m_callV (As := [.int 41]) (rest := []) (c_element l (va_up I 3 (nI (ms ++ [80, 97, 117, 115, 101, 32, 77, 105, 120, 101, 100, 32, 40, 65, 108, 108, 111, 99]).length)) B (va_up V 2 f_64) (ms ++ [80, 97, 117, 115, 101, 32, 77, 105, 120, 101, 100, 32, 40, 65, 108, 108, 111, 99]) (ms ++ [80, 97, 117, 115, 101, 32, 77, 105, 120, 101, 100, 32, 40, 65, 108, 108, 111, 99, 41]) 41 (List.append_assoc _ _ _) (va_up_self _ _ _) hf_64 (by first | decide | omega | (simp only [List.length_append, List.length_cons, List.length_nil]; omega))) ⟨hx, hb, hml, hown, hts⟩ (cwV 1 hts gX9_pauseElements_X9_element rfl rfl rfl (by decide +kernel) ⟨by decide, by decide⟩) hK hG hA rfl hl.1 rfl (by decide) ⟨Nat.le_refl _, Nat.le_refl _⟩ dX9_pauseElements_73 (fun r_9 I_65 B_66 V_67 H locs hp hG => ?_)
        obtain ⟨rfl, f_68, rfl, e1_9, e2_9, hf_68⟩ := hp
        rw [bx_uu] at e1_9
        rw [bx_uu] at e2_9
        subst e1_9 e2_9
        have hf_68 : MdF f_68 (ms ++ [80, 97, 117, 115, 101, 32, 77, 105, 120, 101, 100, 32, 40, 65, 108, 108, 111, 99, 41]) := hf_68
        refine W.eq (g2 := F0 m 76 ls []) rfl ?_
        exact W.vret hx hb hr (fun t ht hW => m_end hAe hG (by rw [← hms, show ms ++ pauseL kk ca = ms ++ [80, 97, 117, 115, 101, 32, 77, 105, 120, 101, 100, 32, 40, 65, 108, 108, 111, 99, 41] from by simp [pauseL, kindL, causeL, *]]; exact ⟨rfl, _, rfl, rfl, rfl, hf_68⟩) ht) (m_locs hG) dX9_pauseElements_76
  · skip
    refine lv_ldc2 hx hb hown lk_102 dX9_pauseElements_12 ?_
    refine lv_goto (tgt := 32) hx hb dX9_pauseElements_15 (by decide) ?_
    refine m_callV (As := [.long 384122056295]) (rest := []) (c_literal l (va_up I 3 (nI (ms ++ [80, 97, 117, 115, 101, 32]).length)) B (va_up V 2 f_4) (ms ++ [80, 97, 117, 115, 101, 32]) (ms ++ [80, 97, 117, 115, 101, 32, 89, 111, 117, 110, 103]) ([89, 111, 117, 110, 103]) 384122056295 (by decide +kernel) (List.append_assoc _ _ _) (va_up_self _ _ _) hf_4 (by first | decide | omega | (simp only [List.length_append, List.length_cons, List.length_nil]; omega))) ⟨hx, hb, hml, hown, hts⟩ (cwV 1 hts gX9_pauseElements_X9_literal rfl rfl rfl (by decide +kernel) ⟨by decide, by decide⟩) hK hG hA rfl hl.1 rfl (by decide) ⟨Nat.le_refl _, Nat.le_refl _⟩ dX9_pauseElements_32 (fun r_9 I_69 B_70 V_71 H locs hp hG => ?_)
    obtain ⟨rfl, f_72, rfl, e1_9, e2_9, hf_72⟩ := hp
    rw [bx_uu] at e1_9
    rw [bx_uu] at e2_9
    subst e1_9 e2_9
    have hf_72 : MdF f_72 (ms ++ [80, 97, 117, 115, 101, 32, 89, 111, 117, 110, 103]) := hf_72
    refine W.eq (g2 := F0 m 35 ls []) rfl ?_
    refine lv_aload_n hx hb dX9_pauseElements_35 rfl (lv_at hl 0 rfl) ?_
    refine lv_ldc2 hx hb hown lk_108 dX9_pauseElements_36 ?_
    refine m_callV (As := [.long 8232]) (rest := []) (c_literal l (va_up I 3 (nI (ms ++ [80, 97, 117, 115, 101, 32, 89, 111, 117, 110, 103]).length)) B (va_up V 2 f_72) (ms ++ [80, 97, 117, 115, 101, 32, 89, 111, 117, 110, 103]) (ms ++ [80, 97, 117, 115, 101, 32, 89, 111, 117, 110, 103, 32, 40]) ([32, 40]) 8232 (by decide +kernel) (List.append_assoc _ _ _) (va_up_self _ _ _) hf_72 (by first | decide | omega | (simp only [List.length_append, List.length_cons, List.length_nil]; omega))) ⟨hx, hb, hml, hown, hts⟩ (cwV 1 hts gX9_pauseElements_X9_literal rfl rfl rfl (by decide +kernel) ⟨by decide, by decide⟩) hK hG hA rfl hl.1 rfl (by decide) ⟨Nat.le_refl _, Nat.le_refl _⟩ dX9_pauseElements_39 (fun r_9 I_73 B_74 V_75 H locs hp hG => ?_)
    obtain ⟨rfl, f_76, rfl, e1_9, e2_9, hf_76⟩ := hp
    rw [bx_uu] at e1_9
    rw [bx_uu] at e2_9
    subst e1_9 e2_9
    have hf_76 : MdF f_76 (ms ++ [80, 97, 117, 115, 101, 32, 89, 111, 117, 110, 103, 32, 40]) := hf_76
    refine W.eq (g2 := F0 m 42 ls []) rfl ?_
    refine lv_aload_n hx hb dX9_pauseElements_42 rfl (lv_at hl 0 rfl) ?_
    refine lv_iload_n hx hb dX9_pauseElements_43 rfl (lv_at hl 2 rfl) ?_
    refine lv_if_ne (tgt := 53) hx hb dX9_pauseElements_44 (by decide) (fun c_44 => ?_) (fun c_44 => ?_)
    · skip
      refine lv_iload_n hx hb dX9_pauseElements_53 rfl (lv_at hl 2 rfl) ?_
      refine lv_iconst (v := 1) hx hb dX9_pauseElements_54 (by decide) ?_
      refine lv_icmp_ne (tgt := 64) hx hb dX9_pauseElements_55 (by decide) (fun c_55 => ?_) (fun c_55 => ?_)
      · skip
        refine lv_ldc2 hx hb hown lk_114 dX9_pauseElements_64 ?_
        refine m_callV (As := [.long 1433625970]) (rest := []) (c_literal l (va_up I 3 (nI (ms ++ [80, 97, 117, 115, 101, 32, 89, 111, 117, 110, 103, 32, 40]).length)) B (va_up V 2 f_76) (ms ++ [80, 97, 117, 115, 101, 32, 89, 111, 117, 110, 103, 32, 40]) (ms ++ [80, 97, 117, 115, 101, 32, 89, 111, 117, 110, 103, 32, 40, 85, 115, 101, 114]) ([85, 115, 101, 114]) 1433625970 (by decide +kernel) (List.append_assoc _ _ _) (va_up_self _ _ _) hf_76 (by first | decide | omega | (simp only [List.length_append, List.length_cons, List.length_nil]; omega))) ⟨hx, hb, hml, hown, hts⟩ (cwV 1 hts gX9_pauseElements_X9_literal rfl rfl rfl (by decide +kernel) ⟨by decide, by decide⟩) hK hG hA rfl hl.1 rfl (by decide) ⟨Nat.le_refl _, Nat.le_refl _⟩ dX9_pauseElements_67 (fun r_9 I_77 B_78 V_79 H locs hp hG => ?_)
        obtain ⟨rfl, f_80, rfl, e1_9, e2_9, hf_80⟩ := hp
        rw [bx_uu] at e1_9
        rw [bx_uu] at e2_9
        subst e1_9 e2_9
        have hf_80 : MdF f_80 (ms ++ [80, 97, 117, 115, 101, 32, 89, 111, 117, 110, 103, 32, 40, 85, 115, 101, 114]) := hf_80
        refine W.eq (g2 := F0 m 70 ls []) rfl ?_
        refine lv_aload_n hx hb dX9_pauseElements_70 rfl (lv_at hl 0 rfl) ?_
        refine lv_bipush (v := 41) hx hb dX9_pauseElements_71 (by decide) ?_
        refine m_callV (As := [.int 41]) (rest := []) (c_element l (va_up I 3 (nI (ms ++ [80, 97, 117, 115, 101, 32, 89, 111, 117, 110, 103, 32, 40, 85, 115, 101, 114]).length)) B (va_up V 2 f_80) (ms ++ [80, 97, 117, 115, 101, 32, 89, 111, 117, 110, 103, 32, 40, 85, 115, 101, 114]) (ms ++ [80, 97, 117, 115, 101, 32, 89, 111, 117, 110, 103, 32, 40, 85, 115, 101, 114, 41]) 41 (List.append_assoc _ _ _) (va_up_self _ _ _) hf_80 (by first | decide | omega | (simp only [List.length_append, List.length_cons, List.length_nil]; omega))) ⟨hx, hb, hml, hown, hts⟩ (cwV 1 hts gX9_pauseElements_X9_element rfl rfl rfl (by decide +kernel) ⟨by decide, by decide⟩) hK hG hA rfl hl.1 rfl (by decide) ⟨Nat.le_refl _, Nat.le_refl _⟩ dX9_pauseElements_73 (fun r_9 I_81 B_82 V_83 H locs hp hG => ?_)
        obtain ⟨rfl, f_84, rfl, e1_9, e2_9, hf_84⟩ := hp
        rw [bx_uu] at e1_9
        rw [bx_uu] at e2_9
        subst e1_9 e2_9
        have hf_84 : MdF f_84 (ms ++ [80, 97, 117, 115, 101, 32, 89, 111, 117, 110, 103, 32, 40, 85, 115, 101, 114, 41]) := hf_84
        refine W.eq (g2 := F0 m 76 ls []) rfl ?_
        exact W.vret hx hb hr (fun t ht hW => m_end hAe hG (by rw [← hms, show ms ++ pauseL kk ca = ms ++ [80, 97, 117, 115, 101, 32, 89, 111, 117, 110, 103, 32, 40, 85, 115, 101, 114, 41] from by simp [pauseL, kindL, causeL, *]]; exact ⟨rfl, _, rfl, rfl, rfl, hf_84⟩) ht) (m_locs hG) dX9_pauseElements_76
      · skip
        refine lv_ldc2 hx hb hown lk_112 dX9_pauseElements_58 ?_
        refine lv_goto (tgt := 67) hx hb dX9_pauseElements_61 (by decide) ?_
        refine m_callV (As := [.long 1298494561]) (rest := []) (c_literal l (va_up I 3 (nI (ms ++ [80, 97, 117, 115, 101, 32, 89, 111, 117, 110, 103, 32, 40]).length)) B (va_up V 2 f_76) (ms ++ [80, 97, 117, 115, 101, 32, 89, 111, 117, 110, 103, 32, 40]) (ms ++ [80, 97, 117, 115, 101, 32, 89, 111, 117, 110, 103, 32, 40, 77, 101, 116, 97]) ([77, 101, 116, 97]) 1298494561 (by decide +kernel) (List.append_assoc _ _ _) (va_up_self _ _ _) hf_76 (by first | decide | omega | (simp only [List.length_append, List.length_cons, List.length_nil]; omega))) ⟨hx, hb, hml, hown, hts⟩ (cwV 1 hts gX9_pauseElements_X9_literal rfl rfl rfl (by decide +kernel) ⟨by decide, by decide⟩) hK hG hA rfl hl.1 rfl (by decide) ⟨Nat.le_refl _, Nat.le_refl _⟩ dX9_pauseElements_67 (fun r_9 I_85 B_86 V_87 H locs hp hG => ?_)
        obtain ⟨rfl, f_88, rfl, e1_9, e2_9, hf_88⟩ := hp
        rw [bx_uu] at e1_9
        rw [bx_uu] at e2_9
        subst e1_9 e2_9
        have hf_88 : MdF f_88 (ms ++ [80, 97, 117, 115, 101, 32, 89, 111, 117, 110, 103, 32, 40, 77, 101, 116, 97]) := hf_88
        refine W.eq (g2 := F0 m 70 ls []) rfl ?_
        refine lv_aload_n hx hb dX9_pauseElements_70 rfl (lv_at hl 0 rfl) ?_
        refine lv_bipush (v := 41) hx hb dX9_pauseElements_71 (by decide) ?_
        refine m_callV (As := [.int 41]) (rest := []) (c_element l (va_up I 3 (nI (ms ++ [80, 97, 117, 115, 101, 32, 89, 111, 117, 110, 103, 32, 40, 77, 101, 116, 97]).length)) B (va_up V 2 f_88) (ms ++ [80, 97, 117, 115, 101, 32, 89, 111, 117, 110, 103, 32, 40, 77, 101, 116, 97]) (ms ++ [80, 97, 117, 115, 101, 32, 89, 111, 117, 110, 103, 32, 40, 77, 101, 116, 97, 41]) 41 (List.append_assoc _ _ _) (va_up_self _ _ _) hf_88 (by first | decide | omega | (simp only [List.length_append, List.length_cons, List.length_nil]; omega))) ⟨hx, hb, hml, hown, hts⟩ (cwV 1 hts gX9_pauseElements_X9_element rfl rfl rfl (by decide +kernel) ⟨by decide, by decide⟩) hK hG hA rfl hl.1 rfl (by decide) ⟨Nat.le_refl _, Nat.le_refl _⟩ dX9_pauseElements_73 (fun r_9 I_89 B_90 V_91 H locs hp hG => ?_)
        obtain ⟨rfl, f_92, rfl, e1_9, e2_9, hf_92⟩ := hp
        rw [bx_uu] at e1_9
        rw [bx_uu] at e2_9
        subst e1_9 e2_9
        have hf_92 : MdF f_92 (ms ++ [80, 97, 117, 115, 101, 32, 89, 111, 117, 110, 103, 32, 40, 77, 101, 116, 97, 41]) := hf_92
        refine W.eq (g2 := F0 m 76 ls []) rfl ?_
        exact W.vret hx hb hr (fun t ht hW => m_end hAe hG (by rw [← hms, show ms ++ pauseL kk ca = ms ++ [80, 97, 117, 115, 101, 32, 89, 111, 117, 110, 103, 32, 40, 77, 101, 116, 97, 41] from by simp [pauseL, kindL, causeL, *]]; exact ⟨rfl, _, rfl, rfl, rfl, hf_92⟩) ht) (m_locs hG) dX9_pauseElements_76
    · skip
      refine lv_ldc2 hx hb hown lk_110 dX9_pauseElements_47 ?_
      refine lv_goto (tgt := 67) hx hb dX9_pauseElements_50 (by decide) ?_
      refine m_callV (As := [.long 280991919971]) (rest := []) (c_literal l (va_up I 3 (nI (ms ++ [80, 97, 117, 115, 101, 32, 89, 111, 117, 110, 103, 32, 40]).length)) B (va_up V 2 f_76) (ms ++ [80, 97, 117, 115, 101, 32, 89, 111, 117, 110, 103, 32, 40]) (ms ++ [80, 97, 117, 115, 101, 32, 89, 111, 117, 110, 103, 32, 40, 65, 108, 108, 111, 99]) ([65, 108, 108, 111, 99]) 280991919971 (by decide +kernel) (List.append_assoc _ _ _) (va_up_self _ _ _) hf_76 (by first | decide | omega | (simp only [List.length_append, List.length_cons, List.length_nil]; omega))) ⟨hx, hb, hml, hown, hts⟩ (cwV 1 hts gX9_pauseElements_X9_literal rfl rfl rfl (by decide +kernel) ⟨by decide, by decide⟩) hK hG hA rfl hl.1 rfl (by decide) ⟨Nat.le_refl _, Nat.le_refl _⟩ dX9_pauseElements_67 (fun r_9 I_93 B_94 V_95 H locs hp hG => ?_)
      obtain ⟨rfl, f_96, rfl, e1_9, e2_9, hf_96⟩ := hp
      rw [bx_uu] at e1_9
      rw [bx_uu] at e2_9
      subst e1_9 e2_9
      have hf_96 : MdF f_96 (ms ++ [80, 97, 117, 115, 101, 32, 89, 111, 117, 110, 103, 32, 40, 65, 108, 108, 111, 99]) := hf_96
      refine W.eq (g2 := F0 m 70 ls []) rfl ?_
      refine lv_aload_n hx hb dX9_pauseElements_70 rfl (lv_at hl 0 rfl) ?_
      refine lv_bipush (v := 41) hx hb dX9_pauseElements_71 (by decide) ?_
      refine m_callV (As := [.int 41]) (rest := []) (c_element l (va_up I 3 (nI (ms ++ [80, 97, 117, 115, 101, 32, 89, 111, 117, 110, 103, 32, 40, 65, 108, 108, 111, 99]).length)) B (va_up V 2 f_96) (ms ++ [80, 97, 117, 115, 101, 32, 89, 111, 117, 110, 103, 32, 40, 65, 108, 108, 111, 99]) (ms ++ [80, 97, 117, 115, 101, 32, 89, 111, 117, 110, 103, 32, 40, 65, 108, 108, 111, 99, 41]) 41 (List.append_assoc _ _ _) (va_up_self _ _ _) hf_96 (by first | decide | omega | (simp only [List.length_append, List.length_cons, List.length_nil]; omega))) ⟨hx, hb, hml, hown, hts⟩ (cwV 1 hts gX9_pauseElements_X9_element rfl rfl rfl (by decide +kernel) ⟨by decide, by decide⟩) hK hG hA rfl hl.1 rfl (by decide) ⟨Nat.le_refl _, Nat.le_refl _⟩ dX9_pauseElements_73 (fun r_9 I_97 B_98 V_99 H locs hp hG => ?_)
      obtain ⟨rfl, f_100, rfl, e1_9, e2_9, hf_100⟩ := hp
      rw [bx_uu] at e1_9
      rw [bx_uu] at e2_9
      subst e1_9 e2_9
      have hf_100 : MdF f_100 (ms ++ [80, 97, 117, 115, 101, 32, 89, 111, 117, 110, 103, 32, 40, 65, 108, 108, 111, 99, 41]) := hf_100
      refine W.eq (g2 := F0 m 76 ls []) rfl ?_
      exact W.vret hx hb hr (fun t ht hW => m_end hAe hG (by rw [← hms, show ms ++ pauseL kk ca = ms ++ [80, 97, 117, 115, 101, 32, 89, 111, 117, 110, 103, 32, 40, 65, 108, 108, 111, 99, 41] from by simp [pauseL, kindL, causeL, *]]; exact ⟨rfl, _, rfl, rfl, rfl, hf_100⟩) ht) (m_locs hG) dX9_pauseElements_76
