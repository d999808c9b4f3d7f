def mo_0 (kk ca : Int32) : List Int32 := [91, 205, 46, 300, 115, 93, 71, 67, 40, 203, 41, 32] ++ pauseL kk ca
set_option maxHeartbeats 4000000 in
set_option maxRecDepth 100000 in
/-- the mould of shape 0 -/
theorem c_makeMould_0 (l : Launch) (I : Nat → Int32) (B : Nat → Int64) (V : Nat → Nat → Int32) (kk ca : Int32) : CM l yX9_makeMould wsX9_makeMould 3 I B V (fun a_9 => [.ref a_9, .int 0, .int kk, .int ca]) (mdP I B V (mo_0 kk ca)) := by
  refine CM.ofW (cc := cX9_makeMould) (maxL := 4) (ret := none) (by decide) rfl rfl (fun _ => Nat.le_of_ble_eq_true rfl) ?_
  intro p e s m args below meth c D Y ad n b σ A ls hAe hx hb hr hml hts hown hlocks hK hA hG hl
  have hin : ∀ w ∈ wsX90, w ∈ wsX9_makeMould := by decide +kernel
  have hl : lv_has ls 4 [(0, .ref (ad b)), (1, .int 0), (2, .int kk), (3, .int ca)] := hl
  have hpl := pauseL_len kk ca
  have lk_87 := hts (.fieldLink RX9 87 "PauseLogModel" "mouldLong" "I") (by decide +kernel)
  have lk_121 := hts (.constantLong RX9 121 (495486190376)) (by decide +kernel)
  have lk_123 := hts (.constantLong RX9 123 (10528)) (by decide +kernel)
  have lk_135 := hts (.constantLong RX9 135 (298037112352)) (by decide +kernel)
  have lk_137 := hts (.constantLong RX9 137 (1332503584)) (by decide +kernel)
  have lk_139 := hts (.constantLong RX9 139 (1298231915)) (by decide +kernel)
  have lk_141 := hts (.constantLong RX9 141 (35465196434036)) (by decide +kernel)
  refine lv_aload_n hx hb dX9_makeMould_0 rfl (lv_at hl 0 rfl) ?_
  refine lv_iconst (v := 0) hx hb dX9_makeMould_1 (by decide) ?_
  refine m_put hx hb hts hin hown hK hG 3 (by decide) lk_87 rfl rfl (mS_3 ad b I B 0) rfl rfl dX9_makeMould_2 (fun H locs hG => ?_)
  refine lv_aload_n hx hb dX9_makeMould_5 rfl (lv_at hl 0 rfl) ?_
  refine lv_bipush (v := 91) hx hb dX9_makeMould_6 (by decide) ?_
  refine m_callV (As := [.int 91]) (rest := []) (c_element l (va_up I 3 0) B V ([]) ([91]) 91 rfl nI_0.symm (fun i h => absurd h (Nat.not_lt_zero i)) (by first | decide | omega | (simp only [List.length_append, List.length_cons, List.length_nil]; omega))) ⟨hx, hb, hml, hown, hts⟩ (cwV 1 hts gX9_makeMould_X9_element rfl rfl rfl (by decide +kernel) ⟨by decide, by decide⟩) hK hG hA rfl hl.1 rfl (by decide) ⟨Nat.le_refl _, Nat.le_refl _⟩ dX9_makeMould_8 (fun r_9 I_1 B_2 V_3 H locs hp hG => ?_)
  obtain ⟨rfl, f_4, rfl, e1_9, e2_9, hf_4⟩ := hp
  rw [bx_uu] at e1_9
  subst e1_9 e2_9
  have hf_4 : MdF f_4 ([91]) := hf_4
  refine W.eq (g2 := F0 m 11 ls []) rfl ?_
  refine lv_aload_n hx hb dX9_makeMould_11 rfl (lv_at hl 0 rfl) ?_
  refine lv_sipush (v := 205) hx hb dX9_makeMould_12 (by decide) ?_
  refine m_callV (As := [.int 205]) (rest := []) (c_element l (va_up I 3 (nI ([91]).length)) B (va_up V 2 f_4) ([91]) ([91, 205]) 205 rfl (va_up_self _ _ _) hf_4 (by first | decide | omega | (simp only [List.length_append, List.length_cons, List.length_nil]; omega))) ⟨hx, hb, hml, hown, hts⟩ (cwV 1 hts gX9_makeMould_X9_element rfl rfl rfl (by decide +kernel) ⟨by decide, by decide⟩) hK hG hA rfl hl.1 rfl (by decide) ⟨Nat.le_refl _, Nat.le_refl _⟩ dX9_makeMould_15 (fun r_9 I_5 B_6 V_7 H locs hp hG => ?_)
  obtain ⟨rfl, f_8, rfl, e1_9, e2_9, hf_8⟩ := hp
  rw [bx_uu] at e1_9
  rw [bx_uu] at e2_9
  subst e1_9 e2_9
  have hf_8 : MdF f_8 ([91, 205]) := hf_8
  refine W.eq (g2 := F0 m 18 ls []) rfl ?_
  refine lv_aload_n hx hb dX9_makeMould_18 rfl (lv_at hl 0 rfl) ?_
  refine lv_bipush (v := 46) hx hb dX9_makeMould_19 (by decide) ?_
  refine m_callV (As := [.int 46]) (rest := []) (c_element l (va_up I 3 (nI ([91, 205]).length)) B (va_up V 2 f_8) ([91, 205]) ([91, 205, 46]) 46 rfl (va_up_self _ _ _) hf_8 (by first | decide | omega | (simp only [List.length_append, List.length_cons, List.length_nil]; omega))) ⟨hx, hb, hml, hown, hts⟩ (cwV 1 hts gX9_makeMould_X9_element rfl rfl rfl (by decide +kernel) ⟨by decide, by decide⟩) hK hG hA rfl hl.1 rfl (by decide) ⟨Nat.le_refl _, Nat.le_refl _⟩ dX9_makeMould_21 (fun r_9 I_9 B_10 V_11 H locs hp hG => ?_)
  obtain ⟨rfl, f_12, rfl, e1_9, e2_9, hf_12⟩ := hp
  rw [bx_uu] at e1_9
  rw [bx_uu] at e2_9
  subst e1_9 e2_9
  have hf_12 : MdF f_12 ([91, 205, 46]) := hf_12
  refine W.eq (g2 := F0 m 24 ls []) rfl ?_
  refine lv_aload_n hx hb dX9_makeMould_24 rfl (lv_at hl 0 rfl) ?_
  refine lv_sipush (v := 300) hx hb dX9_makeMould_25 (by decide) ?_
  refine m_callV (As := [.int 300]) (rest := []) (c_element l (va_up I 3 (nI ([91, 205, 46]).length)) B (va_up V 2 f_12) ([91, 205, 46]) ([91, 205, 46, 300]) 300 rfl (va_up_self _ _ _) hf_12 (by first | decide | omega | (simp only [List.length_append, List.length_cons, List.length_nil]; omega))) ⟨hx, hb, hml, hown, hts⟩ (cwV 1 hts gX9_makeMould_X9_element rfl rfl rfl (by decide +kernel) ⟨by decide, by decide⟩) hK hG hA rfl hl.1 rfl (by decide) ⟨Nat.le_refl _, Nat.le_refl _⟩ dX9_makeMould_28 (fun r_9 I_13 B_14 V_15 H locs hp hG => ?_)
  obtain ⟨rfl, f_16, rfl, e1_9, e2_9, hf_16⟩ := hp
  rw [bx_uu] at e1_9
  rw [bx_uu] at e2_9
  subst e1_9 e2_9
  have hf_16 : MdF f_16 ([91, 205, 46, 300]) := hf_16
  refine W.eq (g2 := F0 m 31 ls []) rfl ?_
  refine lv_aload_n hx hb dX9_makeMould_31 rfl (lv_at hl 0 rfl) ?_
  refine lv_ldc2 hx hb hown lk_121 dX9_makeMould_32 ?_
  refine m_callV (As := [.long 495486190376]) (rest := []) (c_literal l (va_up I 3 (nI ([91, 205, 46, 300]).length)) B (va_up V 2 f_16) ([91, 205, 46, 300]) ([91, 205, 46, 300, 115, 93, 71, 67, 40]) ([115, 93, 71, 67, 40]) 495486190376 (by decide +kernel) rfl (va_up_self _ _ _) hf_16 (by first | decide | omega | (simp only [List.length_append, List.length_cons, List.length_nil]; omega))) ⟨hx, hb, hml, hown, hts⟩ (cwV 1 hts gX9_makeMould_X9_literal rfl rfl rfl (by decide +kernel) ⟨by decide, by decide⟩) hK hG hA rfl hl.1 rfl (by decide) ⟨Nat.le_refl _, Nat.le_refl _⟩ dX9_makeMould_35 (fun r_9 I_17 B_18 V_19 H locs hp hG => ?_)
  obtain ⟨rfl, f_20, rfl, e1_9, e2_9, hf_20⟩ := hp
  rw [bx_uu] at e1_9
  rw [bx_uu] at e2_9
  subst e1_9 e2_9
  have hf_20 : MdF f_20 ([91, 205, 46, 300, 115, 93, 71, 67, 40]) := hf_20
  refine W.eq (g2 := F0 m 38 ls []) rfl ?_
  refine lv_aload_n hx hb dX9_makeMould_38 rfl (lv_at hl 0 rfl) ?_
  refine lv_sipush (v := 203) hx hb dX9_makeMould_39 (by decide) ?_
  refine m_callV (As := [.int 203]) (rest := []) (c_element l (va_up I 3 (nI ([91, 205, 46, 300, 115, 93, 71, 67, 40]).length)) B (va_up V 2 f_20) ([91, 205, 46, 300, 115, 93, 71, 67, 40]) ([91, 205, 46, 300, 115, 93, 71, 67, 40, 203]) 203 rfl (va_up_self _ _ _) hf_20 (by first | decide | omega | (simp only [List.length_append, List.length_cons, List.length_nil]; omega))) ⟨hx, hb, hml, hown, hts⟩ (cwV 1 hts gX9_makeMould_X9_element rfl rfl rfl (by decide +kernel) ⟨by decide, by decide⟩) hK hG hA rfl hl.1 rfl (by decide) ⟨Nat.le_refl _, Nat.le_refl _⟩ dX9_makeMould_42 (fun r_9 I_21 B_22 V_23 H locs hp hG => ?_)
  obtain ⟨rfl, f_24, rfl, e1_9, e2_9, hf_24⟩ := hp
  rw [bx_uu] at e1_9
  rw [bx_uu] at e2_9
  subst e1_9 e2_9
  have hf_24 : MdF f_24 ([91, 205, 46, 300, 115, 93, 71, 67, 40, 203]) := hf_24
  refine W.eq (g2 := F0 m 45 ls []) rfl ?_
  refine lv_aload_n hx hb dX9_makeMould_45 rfl (lv_at hl 0 rfl) ?_
  refine lv_ldc2 hx hb hown lk_123 dX9_makeMould_46 ?_
  refine m_callV (As := [.long 10528]) (rest := []) (c_literal l (va_up I 3 (nI ([91, 205, 46, 300, 115, 93, 71, 67, 40, 203]).length)) B (va_up V 2 f_24) ([91, 205, 46, 300, 115, 93, 71, 67, 40, 203]) ([91, 205, 46, 300, 115, 93, 71, 67, 40, 203, 41, 32]) ([41, 32]) 10528 (by decide +kernel) rfl (va_up_self _ _ _) hf_24 (by first | decide | omega | (simp only [List.length_append, List.length_cons, List.length_nil]; omega))) ⟨hx, hb, hml, hown, hts⟩ (cwV 1 hts gX9_makeMould_X9_literal rfl rfl rfl (by decide +kernel) ⟨by decide, by decide⟩) hK hG hA rfl hl.1 rfl (by decide) ⟨Nat.le_refl _, Nat.le_refl _⟩ dX9_makeMould_49 (fun r_9 I_25 B_26 V_27 H locs hp hG => ?_)
  obtain ⟨rfl, f_28, rfl, e1_9, e2_9, hf_28⟩ := hp
  rw [bx_uu] at e1_9
  rw [bx_uu] at e2_9
  subst e1_9 e2_9
  have hf_28 : MdF f_28 ([91, 205, 46, 300, 115, 93, 71, 67, 40, 203, 41, 32]) := hf_28
  refine W.eq (g2 := F0 m 52 ls []) rfl ?_
  refine lv_iload_n hx hb dX9_makeMould_52 rfl (lv_at hl 1 rfl) ?_
  refine lv_iconst (v := 1) hx hb dX9_makeMould_53 (by decide) ?_
  refine lv_icmp_gt (tgt := 63) hx hb dX9_makeMould_54 (by decide) (fun c_54 => absurd c_54 (by decide)) (fun _ => ?_)
  refine lv_aload_n hx hb dX9_makeMould_57 rfl (lv_at hl 0 rfl) ?_
  refine lv_iload_n hx hb dX9_makeMould_58 rfl (lv_at hl 2 rfl) ?_
  refine lv_iload_n hx hb dX9_makeMould_59 rfl (lv_at hl 3 rfl) ?_
  refine m_callV (As := [.int kk, .int ca]) (rest := []) (c_pauseElements l (va_up I 3 (nI ([91, 205, 46, 300, 115, 93, 71, 67, 40, 203, 41, 32]).length)) B (va_up V 2 f_28) ([91, 205, 46, 300, 115, 93, 71, 67, 40, 203, 41, 32]) ([91, 205, 46, 300, 115, 93, 71, 67, 40, 203, 41, 32] ++ pauseL kk ca) kk ca rfl (va_up_self _ _ _) hf_28 (by first | decide | omega | (simp only [List.length_append, List.length_cons, List.length_nil]; omega))) ⟨hx, hb, hml, hown, hts⟩ (cwV 2 hts gX9_makeMould_X9_pauseElements rfl rfl rfl (by decide +kernel) ⟨by decide, by decide⟩) hK hG hA rfl hl.1 rfl (by decide) ⟨Nat.le_refl _, Nat.le_refl _⟩ dX9_makeMould_60 (fun r_9 I_29 B_30 V_31 H locs hp hG => ?_)
  obtain ⟨rfl, f_32, rfl, e1_9, e2_9, hf_32⟩ := hp
  rw [bx_uu] at e1_9
  rw [bx_uu] at e2_9
  subst e1_9 e2_9
  have hf_32 : MdF f_32 ([91, 205, 46, 300, 115, 93, 71, 67, 40, 203, 41, 32] ++ pauseL kk ca) := hf_32
  refine W.eq (g2 := F0 m 63 ls []) rfl ?_
  refine lv_iload_n hx hb dX9_makeMould_63 rfl (lv_at hl 1 rfl) ?_
  refine lv_iconst (v := 1) hx hb dX9_makeMould_64 (by decide) ?_
  refine lv_icmp_ne (tgt := 99) hx hb dX9_makeMould_65 (by decide) (fun _ => ?_) (fun c_65 => absurd c_65 (by decide))
  refine lv_iload_n hx hb dX9_makeMould_99 rfl (lv_at hl 1 rfl) ?_
  refine lv_iconst (v := 2) hx hb dX9_makeMould_100 (by decide) ?_
  refine lv_icmp_ne (tgt := 111) hx hb dX9_makeMould_101 (by decide) (fun _ => ?_) (fun c_101 => absurd c_101 (by decide))
  refine lv_iload_n hx hb dX9_makeMould_111 rfl (lv_at hl 1 rfl) ?_
  refine lv_iconst (v := 3) hx hb dX9_makeMould_112 (by decide) ?_
  refine lv_icmp_ne (tgt := 123) hx hb dX9_makeMould_113 (by decide) (fun _ => ?_) (fun c_113 => absurd c_113 (by decide))
  refine lv_iload_n hx hb dX9_makeMould_123 rfl (lv_at hl 1 rfl) ?_
  refine lv_iconst (v := 2) hx hb dX9_makeMould_124 (by decide) ?_
  refine lv_icmp_eq (tgt := 133) hx hb dX9_makeMould_125 (by decide) (fun c_125 => absurd c_125 (by decide)) (fun _ => ?_)
  refine lv_iload_n hx hb dX9_makeMould_128 rfl (lv_at hl 1 rfl) ?_
  refine lv_iconst (v := 3) hx hb dX9_makeMould_129 (by decide) ?_
  refine lv_icmp_ne (tgt := 137) hx hb dX9_makeMould_130 (by decide) (fun _ => ?_) (fun c_130 => absurd c_130 (by decide))
  refine lv_iload_n hx hb dX9_makeMould_137 rfl (lv_at hl 1 rfl) ?_
  refine lv_iconst (v := 4) hx hb dX9_makeMould_138 (by decide) ?_
  refine lv_icmp_lt (tgt := 149) hx hb dX9_makeMould_139 (by decide) (fun _ => ?_) (fun c_139 => absurd c_139 (by decide))
  refine lv_iload_n hx hb dX9_makeMould_149 rfl (lv_at hl 1 rfl) ?_
  refine lv_iconst (v := 5) hx hb dX9_makeMould_150 (by decide) ?_
  refine lv_icmp_ne (tgt := 164) hx hb dX9_makeMould_151 (by decide) (fun _ => ?_) (fun c_151 => absurd c_151 (by decide))
  refine lv_iload_n hx hb dX9_makeMould_164 rfl (lv_at hl 1 rfl) ?_
  refine lv_bipush (v := 6) hx hb dX9_makeMould_165 (by decide) ?_
  refine lv_icmp_ne (tgt := 177) hx hb dX9_makeMould_167 (by decide) (fun _ => ?_) (fun c_167 => absurd c_167 (by decide))
  exact W.vret hx hb hr (fun t ht hW => m_end hAe hG (⟨rfl, _, rfl, rfl, rfl, hf_32⟩) ht) (m_locs hG) dX9_makeMould_177
def mo_1 (kk ca : Int32) : List Int32 := ([91, 205, 46, 300, 115, 93, 71, 67, 40, 203, 41, 32] ++ pauseL kk ca) ++ [32, 204, 400, 45, 62, 204, 400, 40, 204, 400, 41, 32, 204, 46, 300, 109, 115]
set_option maxHeartbeats 4000000 in
set_option maxRecDepth 100000 in
/-- the mould of shape 1 -/
theorem c_makeMould_1 (l : Launch) (I : Nat → Int32) (B : Nat → Int64) (V : Nat → Nat → Int32) (kk ca : Int32) : CM l yX9_makeMould wsX9_makeMould 3 I B V (fun a_9 => [.ref a_9, .int 1, .int kk, .int ca]) (mdP I B V (mo_1 kk ca)) := by
  refine CM.ofW (cc := cX9_makeMould) (maxL := 4) (ret := none) (by decide) rfl rfl (fun _ => Nat.le_of_ble_eq_true rfl) ?_
  intro p e s m args below meth c D Y ad n b σ A ls hAe hx hb hr hml hts hown hlocks hK hA hG hl
  have hin : ∀ w ∈ wsX90, w ∈ wsX9_makeMould := by decide +kernel
  have hl : lv_has ls 4 [(0, .ref (ad b)), (1, .int 1), (2, .int kk), (3, .int ca)] := hl
  have hpl := pauseL_len kk ca
  have lk_87 := hts (.fieldLink RX9 87 "PauseLogModel" "mouldLong" "I") (by decide +kernel)
  have lk_121 := hts (.constantLong RX9 121 (495486190376)) (by decide +kernel)
  have lk_123 := hts (.constantLong RX9 123 (10528)) (by decide +kernel)
  have lk_135 := hts (.constantLong RX9 135 (298037112352)) (by decide +kernel)
  have lk_137 := hts (.constantLong RX9 137 (1332503584)) (by decide +kernel)
  have lk_139 := hts (.constantLong RX9 139 (1298231915)) (by decide +kernel)
  have lk_141 := hts (.constantLong RX9 141 (35465196434036)) (by decide +kernel)
  refine lv_aload_n hx hb dX9_makeMould_0 rfl (lv_at hl 0 rfl) ?_
  refine lv_iconst (v := 0) hx hb dX9_makeMould_1 (by decide) ?_
  refine m_put hx hb hts hin hown hK hG 3 (by decide) lk_87 rfl rfl (mS_3 ad b I B 0) rfl rfl dX9_makeMould_2 (fun H locs hG => ?_)
  refine lv_aload_n hx hb dX9_makeMould_5 rfl (lv_at hl 0 rfl) ?_
  refine lv_bipush (v := 91) hx hb dX9_makeMould_6 (by decide) ?_
  refine m_callV (As := [.int 91]) (rest := []) (c_element l (va_up I 3 0) B V ([]) ([91]) 91 rfl nI_0.symm (fun i h => absurd h (Nat.not_lt_zero i)) (by first | decide | omega | (simp only [List.length_append, List.length_cons, List.length_nil]; omega))) ⟨hx, hb, hml, hown, hts⟩ (cwV 1 hts gX9_makeMould_X9_element rfl rfl rfl (by decide +kernel) ⟨by decide, by decide⟩) hK hG hA rfl hl.1 rfl (by decide) ⟨Nat.le_refl _, Nat.le_refl _⟩ dX9_makeMould_8 (fun r_9 I_1 B_2 V_3 H locs hp hG => ?_)
  obtain ⟨rfl, f_4, rfl, e1_9, e2_9, hf_4⟩ := hp
  rw [bx_uu] at e1_9
  subst e1_9 e2_9
  have hf_4 : MdF f_4 ([91]) := hf_4
  refine W.eq (g2 := F0 m 11 ls []) rfl ?_
  refine lv_aload_n hx hb dX9_makeMould_11 rfl (lv_at hl 0 rfl) ?_
  refine lv_sipush (v := 205) hx hb dX9_makeMould_12 (by decide) ?_
  refine m_callV (As := [.int 205]) (rest := []) (c_element l (va_up I 3 (nI ([91]).length)) B (va_up V 2 f_4) ([91]) ([91, 205]) 205 rfl (va_up_self _ _ _) hf_4 (by first | decide | omega | (simp only [List.length_append, List.length_cons, List.length_nil]; omega))) ⟨hx, hb, hml, hown, hts⟩ (cwV 1 hts gX9_makeMould_X9_element rfl rfl rfl (by decide +kernel) ⟨by decide, by decide⟩) hK hG hA rfl hl.1 rfl (by decide) ⟨Nat.le_refl _, Nat.le_refl _⟩ dX9_makeMould_15 (fun r_9 I_5 B_6 V_7 H locs hp hG => ?_)
  obtain ⟨rfl, f_8, rfl, e1_9, e2_9, hf_8⟩ := hp
  rw [bx_uu] at e1_9
  rw [bx_uu] at e2_9
  subst e1_9 e2_9
  have hf_8 : MdF f_8 ([91, 205]) := hf_8
  refine W.eq (g2 := F0 m 18 ls []) rfl ?_
  refine lv_aload_n hx hb dX9_makeMould_18 rfl (lv_at hl 0 rfl) ?_
  refine lv_bipush (v := 46) hx hb dX9_makeMould_19 (by decide) ?_
  refine m_callV (As := [.int 46]) (rest := []) (c_element l (va_up I 3 (nI ([91, 205]).length)) B (va_up V 2 f_8) ([91, 205]) ([91, 205, 46]) 46 rfl (va_up_self _ _ _) hf_8 (by first | decide | omega | (simp only [List.length_append, List.length_cons, List.length_nil]; omega))) ⟨hx, hb, hml, hown, hts⟩ (cwV 1 hts gX9_makeMould_X9_element rfl rfl rfl (by decide +kernel) ⟨by decide, by decide⟩) hK hG hA rfl hl.1 rfl (by decide) ⟨Nat.le_refl _, Nat.le_refl _⟩ dX9_makeMould_21 (fun r_9 I_9 B_10 V_11 H locs hp hG => ?_)
  obtain ⟨rfl, f_12, rfl, e1_9, e2_9, hf_12⟩ := hp
  rw [bx_uu] at e1_9
  rw [bx_uu] at e2_9
  subst e1_9 e2_9
  have hf_12 : MdF f_12 ([91, 205, 46]) := hf_12
  refine W.eq (g2 := F0 m 24 ls []) rfl ?_
  refine lv_aload_n hx hb dX9_makeMould_24 rfl (lv_at hl 0 rfl) ?_
  refine lv_sipush (v := 300) hx hb dX9_makeMould_25 (by decide) ?_
  refine m_callV (As := [.int 300]) (rest := []) (c_element l (va_up I 3 (nI ([91, 205, 46]).length)) B (va_up V 2 f_12) ([91, 205, 46]) ([91, 205, 46, 300]) 300 rfl (va_up_self _ _ _) hf_12 (by first | decide | omega | (simp only [List.length_append, List.length_cons, List.length_nil]; omega))) ⟨hx, hb, hml, hown, hts⟩ (cwV 1 hts gX9_makeMould_X9_element rfl rfl rfl (by decide +kernel) ⟨by decide, by decide⟩) hK hG hA rfl hl.1 rfl (by decide) ⟨Nat.le_refl _, Nat.le_refl _⟩ dX9_makeMould_28 (fun r_9 I_13 B_14 V_15 H locs hp hG => ?_)
  obtain ⟨rfl, f_16, rfl, e1_9, e2_9, hf_16⟩ := hp
  rw [bx_uu] at e1_9
  rw [bx_uu] at e2_9
  subst e1_9 e2_9
  have hf_16 : MdF f_16 ([91, 205, 46, 300]) := hf_16
  refine W.eq (g2 := F0 m 31 ls []) rfl ?_
  refine lv_aload_n hx hb dX9_makeMould_31 rfl (lv_at hl 0 rfl) ?_
  refine lv_ldc2 hx hb hown lk_121 dX9_makeMould_32 ?_
  refine m_callV (As := [.long 495486190376]) (rest := []) (c_literal l (va_up I 3 (nI ([91, 205, 46, 300]).length)) B (va_up V 2 f_16) ([91, 205, 46, 300]) ([91, 205, 46, 300, 115, 93, 71, 67, 40]) ([115, 93, 71, 67, 40]) 495486190376 (by decide +kernel) rfl (va_up_self _ _ _) hf_16 (by first | decide | omega | (simp only [List.length_append, List.length_cons, List.length_nil]; omega))) ⟨hx, hb, hml, hown, hts⟩ (cwV 1 hts gX9_makeMould_X9_literal rfl rfl rfl (by decide +kernel) ⟨by decide, by decide⟩) hK hG hA rfl hl.1 rfl (by decide) ⟨Nat.le_refl _, Nat.le_refl _⟩ dX9_makeMould_35 (fun r_9 I_17 B_18 V_19 H locs hp hG => ?_)
  obtain ⟨rfl, f_20, rfl, e1_9, e2_9, hf_20⟩ := hp
  rw [bx_uu] at e1_9
  rw [bx_uu] at e2_9
  subst e1_9 e2_9
  have hf_20 : MdF f_20 ([91, 205, 46, 300, 115, 93, 71, 67, 40]) := hf_20
  refine W.eq (g2 := F0 m 38 ls []) rfl ?_
  refine lv_aload_n hx hb dX9_makeMould_38 rfl (lv_at hl 0 rfl) ?_
  refine lv_sipush (v := 203) hx hb dX9_makeMould_39 (by decide) ?_
  refine m_callV (As := [.int 203]) (rest := []) (c_element l (va_up I 3 (nI ([91, 205, 46, 300, 115, 93, 71, 67, 40]).length)) B (va_up V 2 f_20) ([91, 205, 46, 300, 115, 93, 71, 67, 40]) ([91, 205, 46, 300, 115, 93, 71, 67, 40, 203]) 203 rfl (va_up_self _ _ _) hf_20 (by first | decide | omega | (simp only [List.length_append, List.length_cons, List.length_nil]; omega))) ⟨hx, hb, hml, hown, hts⟩ (cwV 1 hts gX9_makeMould_X9_element rfl rfl rfl (by decide +kernel) ⟨by decide, by decide⟩) hK hG hA rfl hl.1 rfl (by decide) ⟨Nat.le_refl _, Nat.le_refl _⟩ dX9_makeMould_42 (fun r_9 I_21 B_22 V_23 H locs hp hG => ?_)
  obtain ⟨rfl, f_24, rfl, e1_9, e2_9, hf_24⟩ := hp
  rw [bx_uu] at e1_9
  rw [bx_uu] at e2_9
  subst e1_9 e2_9
  have hf_24 : MdF f_24 ([91, 205, 46, 300, 115, 93, 71, 67, 40, 203]) := hf_24
  refine W.eq (g2 := F0 m 45 ls []) rfl ?_
  refine lv_aload_n hx hb dX9_makeMould_45 rfl (lv_at hl 0 rfl) ?_
  refine lv_ldc2 hx hb hown lk_123 dX9_makeMould_46 ?_
  refine m_callV (As := [.long 10528]) (rest := []) (c_literal l (va_up I 3 (nI ([91, 205, 46, 300, 115, 93, 71, 67, 40, 203]).length)) B (va_up V 2 f_24) ([91, 205, 46, 300, 115, 93, 71, 67, 40, 203]) ([91, 205, 46, 300, 115, 93, 71, 67, 40, 203, 41, 32]) ([41, 32]) 10528 (by decide +kernel) rfl (va_up_self _ _ _) hf_24 (by first | decide | omega | (simp only [List.length_append, List.length_cons, List.length_nil]; omega))) ⟨hx, hb, hml, hown, hts⟩ (cwV 1 hts gX9_makeMould_X9_literal rfl rfl rfl (by decide +kernel) ⟨by decide, by decide⟩) hK hG hA rfl hl.1 rfl (by decide) ⟨Nat.le_refl _, Nat.le_refl _⟩ dX9_makeMould_49 (fun r_9 I_25 B_26 V_27 H locs hp hG => ?_)
  obtain ⟨rfl, f_28, rfl, e1_9, e2_9, hf_28⟩ := hp
  rw [bx_uu] at e1_9
  rw [bx_uu] at e2_9
  subst e1_9 e2_9
  have hf_28 : MdF f_28 ([91, 205, 46, 300, 115, 93, 71, 67, 40, 203, 41, 32]) := hf_28
  refine W.eq (g2 := F0 m 52 ls []) rfl ?_
  refine lv_iload_n hx hb dX9_makeMould_52 rfl (lv_at hl 1 rfl) ?_
  refine lv_iconst (v := 1) hx hb dX9_makeMould_53 (by decide) ?_
  refine lv_icmp_gt (tgt := 63) hx hb dX9_makeMould_54 (by decide) (fun c_54 => absurd c_54 (by decide)) (fun _ => ?_)
  refine lv_aload_n hx hb dX9_makeMould_57 rfl (lv_at hl 0 rfl) ?_
  refine lv_iload_n hx hb dX9_makeMould_58 rfl (lv_at hl 2 rfl) ?_
  refine lv_iload_n hx hb dX9_makeMould_59 rfl (lv_at hl 3 rfl) ?_
  refine m_callV (As := [.int kk, .int ca]) (rest := []) (c_pauseElements l (va_up I 3 (nI ([91, 205, 46, 300, 115, 93, 71, 67, 40, 203, 41, 32]).length)) B (va_up V 2 f_28) ([91, 205, 46, 300, 115, 93, 71, 67, 40, 203, 41, 32]) ([91, 205, 46, 300, 115, 93, 71, 67, 40, 203, 41, 32] ++ pauseL kk ca) kk ca rfl (va_up_self _ _ _) hf_28 (by first | decide | omega | (simp only [List.length_append, List.length_cons, List.length_nil]; omega))) ⟨hx, hb, hml, hown, hts⟩ (cwV 2 hts gX9_makeMould_X9_pauseElements rfl rfl rfl (by decide +kernel) ⟨by decide, by decide⟩) hK hG hA rfl hl.1 rfl (by decide) ⟨Nat.le_refl _, Nat.le_refl _⟩ dX9_makeMould_60 (fun r_9 I_29 B_30 V_31 H locs hp hG => ?_)
  obtain ⟨rfl, f_32, rfl, e1_9, e2_9, hf_32⟩ := hp
  rw [bx_uu] at e1_9
  rw [bx_uu] at e2_9
  subst e1_9 e2_9
  have hf_32 : MdF f_32 ([91, 205, 46, 300, 115, 93, 71, 67, 40, 203, 41, 32] ++ pauseL kk ca) := hf_32
  refine W.eq (g2 := F0 m 63 ls []) rfl ?_
  refine lv_iload_n hx hb dX9_makeMould_63 rfl (lv_at hl 1 rfl) ?_
  refine lv_iconst (v := 1) hx hb dX9_makeMould_64 (by decide) ?_
  refine lv_icmp_ne (tgt := 99) hx hb dX9_makeMould_65 (by decide) (fun c_65 => absurd c_65 (by decide)) (fun _ => ?_)
  refine lv_aload_n hx hb dX9_makeMould_68 rfl (lv_at hl 0 rfl) ?_
  refine lv_bipush (v := 32) hx hb dX9_makeMould_69 (by decide) ?_
  refine m_callV (As := [.int 32]) (rest := []) (c_element l (va_up I 3 (nI ([91, 205, 46, 300, 115, 93, 71, 67, 40, 203, 41, 32] ++ pauseL kk ca).length)) B (va_up V 2 f_32) ([91, 205, 46, 300, 115, 93, 71, 67, 40, 203, 41, 32] ++ pauseL kk ca) (([91, 205, 46, 300, 115, 93, 71, 67, 40, 203, 41, 32] ++ pauseL kk ca) ++ [32]) 32 rfl (va_up_self _ _ _) hf_32 (by simp only [List.length_append, List.length_cons, List.length_nil]; omega)) ⟨hx, hb, hml, hown, hts⟩ (cwV 1 hts gX9_makeMould_X9_element rfl rfl rfl (by decide +kernel) ⟨by decide, by decide⟩) hK hG hA rfl hl.1 rfl (by decide) ⟨Nat.le_refl _, Nat.le_refl _⟩ dX9_makeMould_71 (fun r_9 I_33 B_34 V_35 H locs hp hG => ?_)
  obtain ⟨rfl, f_36, rfl, e1_9, e2_9, hf_36⟩ := hp
  rw [bx_uu] at e1_9
  rw [bx_uu] at e2_9
  subst e1_9 e2_9
  have hf_36 : MdF f_36 (([91, 205, 46, 300, 115, 93, 71, 67, 40, 203, 41, 32] ++ pauseL kk ca) ++ [32]) := hf_36
  refine W.eq (g2 := F0 m 74 ls []) rfl ?_
  refine lv_aload_n hx hb dX9_makeMould_74 rfl (lv_at hl 0 rfl) ?_
  refine m_callV (As := []) (rest := []) (c_arrow l (va_up I 3 (nI (([91, 205, 46, 300, 115, 93, 71, 67, 40, 203, 41, 32] ++ pauseL kk ca) ++ [32]).length)) B (va_up V 2 f_36) (([91, 205, 46, 300, 115, 93, 71, 67, 40, 203, 41, 32] ++ pauseL kk ca) ++ [32]) (([91, 205, 46, 300, 115, 93, 71, 67, 40, 203, 41, 32] ++ pauseL kk ca) ++ [32, 204, 400, 45, 62, 204, 400]) (List.append_assoc _ _ _) (va_up_self _ _ _) hf_36 (by simp only [List.length_append, List.length_cons, List.length_nil]; omega)) ⟨hx, hb, hml, hown, hts⟩ (cwV 0 hts gX9_makeMould_X9_arrow rfl rfl rfl (by decide +kernel) ⟨by decide, by decide⟩) hK hG hA rfl hl.1 rfl (by decide) ⟨Nat.le_refl _, Nat.le_refl _⟩ dX9_makeMould_75 (fun r_9 I_37 B_38 V_39 H locs hp hG => ?_)
  obtain ⟨rfl, f_40, rfl, e1_9, e2_9, hf_40⟩ := hp
  rw [bx_uu] at e1_9
  rw [bx_uu] at e2_9
  subst e1_9 e2_9
  have hf_40 : MdF f_40 (([91, 205, 46, 300, 115, 93, 71, 67, 40, 203, 41, 32] ++ pauseL kk ca) ++ [32, 204, 400, 45, 62, 204, 400]) := hf_40
  refine W.eq (g2 := F0 m 78 ls []) rfl ?_
  refine lv_aload_n hx hb dX9_makeMould_78 rfl (lv_at hl 0 rfl) ?_
  refine lv_bipush (v := 40) hx hb dX9_makeMould_79 (by decide) ?_
  refine m_callV (As := [.int 40]) (rest := []) (c_element l (va_up I 3 (nI (([91, 205, 46, 300, 115, 93, 71, 67, 40, 203, 41, 32] ++ pauseL kk ca) ++ [32, 204, 400, 45, 62, 204, 400]).length)) B (va_up V 2 f_40) (([91, 205, 46, 300, 115, 93, 71, 67, 40, 203, 41, 32] ++ pauseL kk ca) ++ [32, 204, 400, 45, 62, 204, 400]) (([91, 205, 46, 300, 115, 93, 71, 67, 40, 203, 41, 32] ++ pauseL kk ca) ++ [32, 204, 400, 45, 62, 204, 400, 40]) 40 (List.append_assoc _ _ _) (va_up_self _ _ _) hf_40 (by simp only [List.length_append, List.length_cons, List.length_nil]; omega)) ⟨hx, hb, hml, hown, hts⟩ (cwV 1 hts gX9_makeMould_X9_element rfl rfl rfl (by decide +kernel) ⟨by decide, by decide⟩) hK hG hA rfl hl.1 rfl (by decide) ⟨Nat.le_refl _, Nat.le_refl _⟩ dX9_makeMould_81 (fun r_9 I_41 B_42 V_43 H locs hp hG => ?_)
  obtain ⟨rfl, f_44, rfl, e1_9, e2_9, hf_44⟩ := hp
  rw [bx_uu] at e1_9
  rw [bx_uu] at e2_9
  subst e1_9 e2_9
  have hf_44 : MdF f_44 (([91, 205, 46, 300, 115, 93, 71, 67, 40, 203, 41, 32] ++ pauseL kk ca) ++ [32, 204, 400, 45, 62, 204, 400, 40]) := hf_44
  refine W.eq (g2 := F0 m 84 ls []) rfl ?_
  refine lv_aload_n hx hb dX9_makeMould_84 rfl (lv_at hl 0 rfl) ?_
  refine m_callV (As := []) (rest := []) (c_sizeElements l (va_up I 3 (nI (([91, 205, 46, 300, 115, 93, 71, 67, 40, 203, 41, 32] ++ pauseL kk ca) ++ [32, 204, 400, 45, 62, 204, 400, 40]).length)) B (va_up V 2 f_44) (([91, 205, 46, 300, 115, 93, 71, 67, 40, 203, 41, 32] ++ pauseL kk ca) ++ [32, 204, 400, 45, 62, 204, 400, 40]) (([91, 205, 46, 300, 115, 93, 71, 67, 40, 203, 41, 32] ++ pauseL kk ca) ++ [32, 204, 400, 45, 62, 204, 400, 40, 204, 400]) (List.append_assoc _ _ _) (va_up_self _ _ _) hf_44 (by simp only [List.length_append, List.length_cons, List.length_nil]; omega)) ⟨hx, hb, hml, hown, hts⟩ (cwV 0 hts gX9_makeMould_X9_sizeElements rfl rfl rfl (by decide +kernel) ⟨by decide, by decide⟩) hK hG hA rfl hl.1 rfl (by decide) ⟨Nat.le_refl _, Nat.le_refl _⟩ dX9_makeMould_85 (fun r_9 I_45 B_46 V_47 H locs hp hG => ?_)
  obtain ⟨rfl, f_48, rfl, e1_9, e2_9, hf_48⟩ := hp
  rw [bx_uu] at e1_9
  rw [bx_uu] at e2_9
  subst e1_9 e2_9
  have hf_48 : MdF f_48 (([91, 205, 46, 300, 115, 93, 71, 67, 40, 203, 41, 32] ++ pauseL kk ca) ++ [32, 204, 400, 45, 62, 204, 400, 40, 204, 400]) := hf_48
  refine W.eq (g2 := F0 m 88 ls []) rfl ?_
  refine lv_aload_n hx hb dX9_makeMould_88 rfl (lv_at hl 0 rfl) ?_
  refine lv_ldc2 hx hb hown lk_123 dX9_makeMould_89 ?_
  refine m_callV (As := [.long 10528]) (rest := []) (c_literal l (va_up I 3 (nI (([91, 205, 46, 300, 115, 93, 71, 67, 40, 203, 41, 32] ++ pauseL kk ca) ++ [32, 204, 400, 45, 62, 204, 400, 40, 204, 400]).length)) B (va_up V 2 f_48) (([91, 205, 46, 300, 115, 93, 71, 67, 40, 203, 41, 32] ++ pauseL kk ca) ++ [32, 204, 400, 45, 62, 204, 400, 40, 204, 400]) (([91, 205, 46, 300, 115, 93, 71, 67, 40, 203, 41, 32] ++ pauseL kk ca) ++ [32, 204, 400, 45, 62, 204, 400, 40, 204, 400, 41, 32]) ([41, 32]) 10528 (by decide +kernel) (List.append_assoc _ _ _) (va_up_self _ _ _) hf_48 (by simp only [List.length_append, List.length_cons, List.length_nil]; omega)) ⟨hx, hb, hml, hown, hts⟩ (cwV 1 hts gX9_makeMould_X9_literal rfl rfl rfl (by decide +kernel) ⟨by decide, by decide⟩) hK hG hA rfl hl.1 rfl (by decide) ⟨Nat.le_refl _, Nat.le_refl _⟩ dX9_makeMould_92 (fun r_9 I_49 B_50 V_51 H locs hp hG => ?_)
  obtain ⟨rfl, f_52, rfl, e1_9, e2_9, hf_52⟩ := hp
  rw [bx_uu] at e1_9
  rw [bx_uu] at e2_9
  subst e1_9 e2_9
  have hf_52 : MdF f_52 (([91, 205, 46, 300, 115, 93, 71, 67, 40, 203, 41, 32] ++ pauseL kk ca) ++ [32, 204, 400, 45, 62, 204, 400, 40, 204, 400, 41, 32]) := hf_52
  refine W.eq (g2 := F0 m 95 ls []) rfl ?_
  refine lv_aload_n hx hb dX9_makeMould_95 rfl (lv_at hl 0 rfl) ?_
  refine m_callV (As := []) (rest := []) (c_tookElements l (va_up I 3 (nI (([91, 205, 46, 300, 115, 93, 71, 67, 40, 203, 41, 32] ++ pauseL kk ca) ++ [32, 204, 400, 45, 62, 204, 400, 40, 204, 400, 41, 32]).length)) B (va_up V 2 f_52) (([91, 205, 46, 300, 115, 93, 71, 67, 40, 203, 41, 32] ++ pauseL kk ca) ++ [32, 204, 400, 45, 62, 204, 400, 40, 204, 400, 41, 32]) (([91, 205, 46, 300, 115, 93, 71, 67, 40, 203, 41, 32] ++ pauseL kk ca) ++ [32, 204, 400, 45, 62, 204, 400, 40, 204, 400, 41, 32, 204, 46, 300, 109, 115]) (List.append_assoc _ _ _) (va_up_self _ _ _) hf_52 (by simp only [List.length_append, List.length_cons, List.length_nil]; omega)) ⟨hx, hb, hml, hown, hts⟩ (cwV 0 hts gX9_makeMould_X9_tookElements rfl rfl rfl (by decide +kernel) ⟨by decide, by decide⟩) hK hG hA rfl hl.1 rfl (by decide) ⟨Nat.le_refl _, Nat.le_refl _⟩ dX9_makeMould_96 (fun r_9 I_53 B_54 V_55 H locs hp hG => ?_)
  obtain ⟨rfl, f_56, rfl, e1_9, e2_9, hf_56⟩ := hp
  rw [bx_uu] at e1_9
  rw [bx_uu] at e2_9
  subst e1_9 e2_9
  have hf_56 : MdF f_56 (([91, 205, 46, 300, 115, 93, 71, 67, 40, 203, 41, 32] ++ pauseL kk ca) ++ [32, 204, 400, 45, 62, 204, 400, 40, 204, 400, 41, 32, 204, 46, 300, 109, 115]) := hf_56
  refine W.eq (g2 := F0 m 99 ls []) rfl ?_
  refine lv_iload_n hx hb dX9_makeMould_99 rfl (lv_at hl 1 rfl) ?_
  refine lv_iconst (v := 2) hx hb dX9_makeMould_100 (by decide) ?_
  refine lv_icmp_ne (tgt := 111) hx hb dX9_makeMould_101 (by decide) (fun _ => ?_) (fun c_101 => absurd c_101 (by decide))
  refine lv_iload_n hx hb dX9_makeMould_111 rfl (lv_at hl 1 rfl) ?_
  refine lv_iconst (v := 3) hx hb dX9_makeMould_112 (by decide) ?_
  refine lv_icmp_ne (tgt := 123) hx hb dX9_makeMould_113 (by decide) (fun _ => ?_) (fun c_113 => absurd c_113 (by decide))
  refine lv_iload_n hx hb dX9_makeMould_123 rfl (lv_at hl 1 rfl) ?_
  refine lv_iconst (v := 2) hx hb dX9_makeMould_124 (by decide) ?_
  refine lv_icmp_eq (tgt := 133) hx hb dX9_makeMould_125 (by decide) (fun c_125 => absurd c_125 (by decide)) (fun _ => ?_)
  refine lv_iload_n hx hb dX9_makeMould_128 rfl (lv_at hl 1 rfl) ?_
  refine lv_iconst (v := 3) hx hb dX9_makeMould_129 (by decide) ?_
  refine lv_icmp_ne (tgt := 137) hx hb dX9_makeMould_130 (by decide) (fun _ => ?_) (fun c_130 => absurd c_130 (by decide))
  refine lv_iload_n hx hb dX9_makeMould_137 rfl (lv_at hl 1 rfl) ?_
  refine lv_iconst (v := 4) hx hb dX9_makeMould_138 (by decide) ?_
  refine lv_icmp_lt (tgt := 149) hx hb dX9_makeMould_139 (by decide) (fun _ => ?_) (fun c_139 => absurd c_139 (by decide))
  refine lv_iload_n hx hb dX9_makeMould_149 rfl (lv_at hl 1 rfl) ?_
  refine lv_iconst (v := 5) hx hb dX9_makeMould_150 (by decide) ?_
  refine lv_icmp_ne (tgt := 164) hx hb dX9_makeMould_151 (by decide) (fun _ => ?_) (fun c_151 => absurd c_151 (by decide))
  refine lv_iload_n hx hb dX9_makeMould_164 rfl (lv_at hl 1 rfl) ?_
  refine lv_bipush (v := 6) hx hb dX9_makeMould_165 (by decide) ?_
  refine lv_icmp_ne (tgt := 177) hx hb dX9_makeMould_167 (by decide) (fun _ => ?_) (fun c_167 => absurd c_167 (by decide))
  exact W.vret hx hb hr (fun t ht hW => m_end hAe hG (⟨rfl, _, rfl, rfl, rfl, hf_56⟩) ht) (m_locs hG) dX9_makeMould_177
def mo_2 (kk ca : Int32) : List Int32 := [91, 205, 46, 300, 115, 93, 71, 67, 40, 203, 41, 32, 69, 100, 101, 110, 32, 204, 400, 45, 62, 204, 400]
set_option maxHeartbeats 4000000 in
set_option maxRecDepth 100000 in
/-- the mould of shape 2 -/
theorem c_makeMould_2 (l : Launch) (I : Nat → Int32) (B : Nat → Int64) (V : Nat → Nat → Int32) (kk ca : Int32) : CM l yX9_makeMould wsX9_makeMould 3 I B V (fun a_9 => [.ref a_9, .int 2, .int kk, .int ca]) (mdP I B V (mo_2 kk ca)) := by
  refine CM.ofW (cc := cX9_makeMould) (maxL := 4) (ret := none) (by decide) rfl rfl (fun _ => Nat.le_of_ble_eq_true rfl) ?_
  intro p e s m args below meth c D Y ad n b σ A ls hAe hx hb hr hml hts hown hlocks hK hA hG hl
  have hin : ∀ w ∈ wsX90, w ∈ wsX9_makeMould := by decide +kernel
  have hl : lv_has ls 4 [(0, .ref (ad b)), (1, .int 2), (2, .int kk), (3, .int ca)] := hl
  have hpl := pauseL_len kk ca
  have lk_87 := hts (.fieldLink RX9 87 "PauseLogModel" "mouldLong" "I") (by decide +kernel)
  have lk_121 := hts (.constantLong RX9 121 (495486190376)) (by decide +kernel)
  have lk_123 := hts (.constantLong RX9 123 (10528)) (by decide +kernel)
  have lk_135 := hts (.constantLong RX9 135 (298037112352)) (by decide +kernel)
  have lk_137 := hts (.constantLong RX9 137 (1332503584)) (by decide +kernel)
  have lk_139 := hts (.constantLong RX9 139 (1298231915)) (by decide +kernel)
  have lk_141 := hts (.constantLong RX9 141 (35465196434036)) (by decide +kernel)
  refine lv_aload_n hx hb dX9_makeMould_0 rfl (lv_at hl 0 rfl) ?_
  refine lv_iconst (v := 0) hx hb dX9_makeMould_1 (by decide) ?_
  refine m_put hx hb hts hin hown hK hG 3 (by decide) lk_87 rfl rfl (mS_3 ad b I B 0) rfl rfl dX9_makeMould_2 (fun H locs hG => ?_)
  refine lv_aload_n hx hb dX9_makeMould_5 rfl (lv_at hl 0 rfl) ?_
  refine lv_bipush (v := 91) hx hb dX9_makeMould_6 (by decide) ?_
  refine m_callV (As := [.int 91]) (rest := []) (c_element l (va_up I 3 0) B V ([]) ([91]) 91 rfl nI_0.symm (fun i h => absurd h (Nat.not_lt_zero i)) (by first | decide | omega | (simp only [List.length_append, List.length_cons, List.length_nil]; omega))) ⟨hx, hb, hml, hown, hts⟩ (cwV 1 hts gX9_makeMould_X9_element rfl rfl rfl (by decide +kernel) ⟨by decide, by decide⟩) hK hG hA rfl hl.1 rfl (by decide) ⟨Nat.le_refl _, Nat.le_refl _⟩ dX9_makeMould_8 (fun r_9 I_1 B_2 V_3 H locs hp hG => ?_)
  obtain ⟨rfl, f_4, rfl, e1_9, e2_9, hf_4⟩ := hp
  rw [bx_uu] at e1_9
  subst e1_9 e2_9
  have hf_4 : MdF f_4 ([91]) := hf_4
  refine W.eq (g2 := F0 m 11 ls []) rfl ?_
  refine lv_aload_n hx hb dX9_makeMould_11 rfl (lv_at hl 0 rfl) ?_
  refine lv_sipush (v := 205) hx hb dX9_makeMould_12 (by decide) ?_
  refine m_callV (As := [.int 205]) (rest := []) (c_element l (va_up I 3 (nI ([91]).length)) B (va_up V 2 f_4) ([91]) ([91, 205]) 205 rfl (va_up_self _ _ _) hf_4 (by first | decide | omega | (simp only [List.length_append, List.length_cons, List.length_nil]; omega))) ⟨hx, hb, hml, hown, hts⟩ (cwV 1 hts gX9_makeMould_X9_element rfl rfl rfl (by decide +kernel) ⟨by decide, by decide⟩) hK hG hA rfl hl.1 rfl (by decide) ⟨Nat.le_refl _, Nat.le_refl _⟩ dX9_makeMould_15 (fun r_9 I_5 B_6 V_7 H locs hp hG => ?_)
  obtain ⟨rfl, f_8, rfl, e1_9, e2_9, hf_8⟩ := hp
  rw [bx_uu] at e1_9
  rw [bx_uu] at e2_9
  subst e1_9 e2_9
  have hf_8 : MdF f_8 ([91, 205]) := hf_8
  refine W.eq (g2 := F0 m 18 ls []) rfl ?_
  refine lv_aload_n hx hb dX9_makeMould_18 rfl (lv_at hl 0 rfl) ?_
  refine lv_bipush (v := 46) hx hb dX9_makeMould_19 (by decide) ?_
  refine m_callV (As := [.int 46]) (rest := []) (c_element l (va_up I 3 (nI ([91, 205]).length)) B (va_up V 2 f_8) ([91, 205]) ([91, 205, 46]) 46 rfl (va_up_self _ _ _) hf_8 (by first | decide | omega | (simp only [List.length_append, List.length_cons, List.length_nil]; omega))) ⟨hx, hb, hml, hown, hts⟩ (cwV 1 hts gX9_makeMould_X9_element rfl rfl rfl (by decide +kernel) ⟨by decide, by decide⟩) hK hG hA rfl hl.1 rfl (by decide) ⟨Nat.le_refl _, Nat.le_refl _⟩ dX9_makeMould_21 (fun r_9 I_9 B_10 V_11 H locs hp hG => ?_)
  obtain ⟨rfl, f_12, rfl, e1_9, e2_9, hf_12⟩ := hp
  rw [bx_uu] at e1_9
  rw [bx_uu] at e2_9
  subst e1_9 e2_9
  have hf_12 : MdF f_12 ([91, 205, 46]) := hf_12
  refine W.eq (g2 := F0 m 24 ls []) rfl ?_
  refine lv_aload_n hx hb dX9_makeMould_24 rfl (lv_at hl 0 rfl) ?_
  refine lv_sipush (v := 300) hx hb dX9_makeMould_25 (by decide) ?_
  refine m_callV (As := [.int 300]) (rest := []) (c_element l (va_up I 3 (nI ([91, 205, 46]).length)) B (va_up V 2 f_12) ([91, 205, 46]) ([91, 205, 46, 300]) 300 rfl (va_up_self _ _ _) hf_12 (by first | decide | omega | (simp only [List.length_append, List.length_cons, List.length_nil]; omega))) ⟨hx, hb, hml, hown, hts⟩ (cwV 1 hts gX9_makeMould_X9_element rfl rfl rfl (by decide +kernel) ⟨by decide, by decide⟩) hK hG hA rfl hl.1 rfl (by decide) ⟨Nat.le_refl _, Nat.le_refl _⟩ dX9_makeMould_28 (fun r_9 I_13 B_14 V_15 H locs hp hG => ?_)
  obtain ⟨rfl, f_16, rfl, e1_9, e2_9, hf_16⟩ := hp
  rw [bx_uu] at e1_9
  rw [bx_uu] at e2_9
  subst e1_9 e2_9
  have hf_16 : MdF f_16 ([91, 205, 46, 300]) := hf_16
  refine W.eq (g2 := F0 m 31 ls []) rfl ?_
  refine lv_aload_n hx hb dX9_makeMould_31 rfl (lv_at hl 0 rfl) ?_
  refine lv_ldc2 hx hb hown lk_121 dX9_makeMould_32 ?_
  refine m_callV (As := [.long 495486190376]) (rest := []) (c_literal l (va_up I 3 (nI ([91, 205, 46, 300]).length)) B (va_up V 2 f_16) ([91, 205, 46, 300]) ([91, 205, 46, 300, 115, 93, 71, 67, 40]) ([115, 93, 71, 67, 40]) 495486190376 (by decide +kernel) rfl (va_up_self _ _ _) hf_16 (by first | decide | omega | (simp only [List.length_append, List.length_cons, List.length_nil]; omega))) ⟨hx, hb, hml, hown, hts⟩ (cwV 1 hts gX9_makeMould_X9_literal rfl rfl rfl (by decide +kernel) ⟨by decide, by decide⟩) hK hG hA rfl hl.1 rfl (by decide) ⟨Nat.le_refl _, Nat.le_refl _⟩ dX9_makeMould_35 (fun r_9 I_17 B_18 V_19 H locs hp hG => ?_)
  obtain ⟨rfl, f_20, rfl, e1_9, e2_9, hf_20⟩ := hp
  rw [bx_uu] at e1_9
  rw [bx_uu] at e2_9
  subst e1_9 e2_9
  have hf_20 : MdF f_20 ([91, 205, 46, 300, 115, 93, 71, 67, 40]) := hf_20
  refine W.eq (g2 := F0 m 38 ls []) rfl ?_
  refine lv_aload_n hx hb dX9_makeMould_38 rfl (lv_at hl 0 rfl) ?_
  refine lv_sipush (v := 203) hx hb dX9_makeMould_39 (by decide) ?_
  refine m_callV (As := [.int 203]) (rest := []) (c_element l (va_up I 3 (nI ([91, 205, 46, 300, 115, 93, 71, 67, 40]).length)) B (va_up V 2 f_20) ([91, 205, 46, 300, 115, 93, 71, 67, 40]) ([91, 205, 46, 300, 115, 93, 71, 67, 40, 203]) 203 rfl (va_up_self _ _ _) hf_20 (by first | decide | omega | (simp only [List.length_append, List.length_cons, List.length_nil]; omega))) ⟨hx, hb, hml, hown, hts⟩ (cwV 1 hts gX9_makeMould_X9_element rfl rfl rfl (by decide +kernel) ⟨by decide, by decide⟩) hK hG hA rfl hl.1 rfl (by decide) ⟨Nat.le_refl _, Nat.le_refl _⟩ dX9_makeMould_42 (fun r_9 I_21 B_22 V_23 H locs hp hG => ?_)
  obtain ⟨rfl, f_24, rfl, e1_9, e2_9, hf_24⟩ := hp
  rw [bx_uu] at e1_9
  rw [bx_uu] at e2_9
  subst e1_9 e2_9
  have hf_24 : MdF f_24 ([91, 205, 46, 300, 115, 93, 71, 67, 40, 203]) := hf_24
  refine W.eq (g2 := F0 m 45 ls []) rfl ?_
  refine lv_aload_n hx hb dX9_makeMould_45 rfl (lv_at hl 0 rfl) ?_
  refine lv_ldc2 hx hb hown lk_123 dX9_makeMould_46 ?_
  refine m_callV (As := [.long 10528]) (rest := []) (c_literal l (va_up I 3 (nI ([91, 205, 46, 300, 115, 93, 71, 67, 40, 203]).length)) B (va_up V 2 f_24) ([91, 205, 46, 300, 115, 93, 71, 67, 40, 203]) ([91, 205, 46, 300, 115, 93, 71, 67, 40, 203, 41, 32]) ([41, 32]) 10528 (by decide +kernel) rfl (va_up_self _ _ _) hf_24 (by first | decide | omega | (simp only [List.length_append, List.length_cons, List.length_nil]; omega))) ⟨hx, hb, hml, hown, hts⟩ (cwV 1 hts gX9_makeMould_X9_literal rfl rfl rfl (by decide +kernel) ⟨by decide, by decide⟩) hK hG hA rfl hl.1 rfl (by decide) ⟨Nat.le_refl _, Nat.le_refl _⟩ dX9_makeMould_49 (fun r_9 I_25 B_26 V_27 H locs hp hG => ?_)
  obtain ⟨rfl, f_28, rfl, e1_9, e2_9, hf_28⟩ := hp
  rw [bx_uu] at e1_9
  rw [bx_uu] at e2_9
  subst e1_9 e2_9
  have hf_28 : MdF f_28 ([91, 205, 46, 300, 115, 93, 71, 67, 40, 203, 41, 32]) := hf_28
  refine W.eq (g2 := F0 m 52 ls []) rfl ?_
  refine lv_iload_n hx hb dX9_makeMould_52 rfl (lv_at hl 1 rfl) ?_
  refine lv_iconst (v := 1) hx hb dX9_makeMould_53 (by decide) ?_
  refine lv_icmp_gt (tgt := 63) hx hb dX9_makeMould_54 (by decide) (fun _ => ?_) (fun c_54 => absurd c_54 (by decide))
  refine lv_iload_n hx hb dX9_makeMould_63 rfl (lv_at hl 1 rfl) ?_
  refine lv_iconst (v := 1) hx hb dX9_makeMould_64 (by decide) ?_
  refine lv_icmp_ne (tgt := 99) hx hb dX9_makeMould_65 (by decide) (fun _ => ?_) (fun c_65 => absurd c_65 (by decide))
  refine lv_iload_n hx hb dX9_makeMould_99 rfl (lv_at hl 1 rfl) ?_
  refine lv_iconst (v := 2) hx hb dX9_makeMould_100 (by decide) ?_
  refine lv_icmp_ne (tgt := 111) hx hb dX9_makeMould_101 (by decide) (fun c_101 => absurd c_101 (by decide)) (fun _ => ?_)
  refine lv_aload_n hx hb dX9_makeMould_104 rfl (lv_at hl 0 rfl) ?_
  refine lv_ldc2 hx hb hown lk_135 dX9_makeMould_105 ?_
  refine m_callV (As := [.long 298037112352]) (rest := []) (c_literal l (va_up I 3 (nI ([91, 205, 46, 300, 115, 93, 71, 67, 40, 203, 41, 32]).length)) B (va_up V 2 f_28) ([91, 205, 46, 300, 115, 93, 71, 67, 40, 203, 41, 32]) ([91, 205, 46, 300, 115, 93, 71, 67, 40, 203, 41, 32, 69, 100, 101, 110, 32]) ([69, 100, 101, 110, 32]) 298037112352 (by decide +kernel) rfl (va_up_self _ _ _) hf_28 (by first | decide | omega | (simp only [List.length_append, List.length_cons, List.length_nil]; omega))) ⟨hx, hb, hml, hown, hts⟩ (cwV 1 hts gX9_makeMould_X9_literal rfl rfl rfl (by decide +kernel) ⟨by decide, by decide⟩) hK hG hA rfl hl.1 rfl (by decide) ⟨Nat.le_refl _, Nat.le_refl _⟩ dX9_makeMould_108 (fun r_9 I_29 B_30 V_31 H locs hp hG => ?_)
  obtain ⟨rfl, f_32, rfl, e1_9, e2_9, hf_32⟩ := hp
  rw [bx_uu] at e1_9
  rw [bx_uu] at e2_9
  subst e1_9 e2_9
  have hf_32 : MdF f_32 ([91, 205, 46, 300, 115, 93, 71, 67, 40, 203, 41, 32, 69, 100, 101, 110, 32]) := hf_32
  refine W.eq (g2 := F0 m 111 ls []) rfl ?_
  refine lv_iload_n hx hb dX9_makeMould_111 rfl (lv_at hl 1 rfl) ?_
  refine lv_iconst (v := 3) hx hb dX9_makeMould_112 (by decide) ?_
  refine lv_icmp_ne (tgt := 123) hx hb dX9_makeMould_113 (by decide) (fun _ => ?_) (fun c_113 => absurd c_113 (by decide))
  refine lv_iload_n hx hb dX9_makeMould_123 rfl (lv_at hl 1 rfl) ?_
  refine lv_iconst (v := 2) hx hb dX9_makeMould_124 (by decide) ?_
  refine lv_icmp_eq (tgt := 133) hx hb dX9_makeMould_125 (by decide) (fun _ => ?_) (fun c_125 => absurd c_125 (by decide))
  refine lv_aload_n hx hb dX9_makeMould_133 rfl (lv_at hl 0 rfl) ?_
  refine m_callV (As := []) (rest := []) (c_arrow l (va_up I 3 (nI ([91, 205, 46, 300, 115, 93, 71, 67, 40, 203, 41, 32, 69, 100, 101, 110, 32]).length)) B (va_up V 2 f_32) ([91, 205, 46, 300, 115, 93, 71, 67, 40, 203, 41, 32, 69, 100, 101, 110, 32]) ([91, 205, 46, 300, 115, 93, 71, 67, 40, 203, 41, 32, 69, 100, 101, 110, 32, 204, 400, 45, 62, 204, 400]) rfl (va_up_self _ _ _) hf_32 (by first | decide | omega | (simp only [List.length_append, List.length_cons, List.length_nil]; omega))) ⟨hx, hb, hml, hown, hts⟩ (cwV 0 hts gX9_makeMould_X9_arrow rfl rfl rfl (by decide +kernel) ⟨by decide, by decide⟩) hK hG hA rfl hl.1 rfl (by decide) ⟨Nat.le_refl _, Nat.le_refl _⟩ dX9_makeMould_134 (fun r_9 I_33 B_34 V_35 H locs hp hG => ?_)
  obtain ⟨rfl, f_36, rfl, e1_9, e2_9, hf_36⟩ := hp
  rw [bx_uu] at e1_9
  rw [bx_uu] at e2_9
  subst e1_9 e2_9
  have hf_36 : MdF f_36 ([91, 205, 46, 300, 115, 93, 71, 67, 40, 203, 41, 32, 69, 100, 101, 110, 32, 204, 400, 45, 62, 204, 400]) := hf_36
  refine W.eq (g2 := F0 m 137 ls []) rfl ?_
  refine lv_iload_n hx hb dX9_makeMould_137 rfl (lv_at hl 1 rfl) ?_
  refine lv_iconst (v := 4) hx hb dX9_makeMould_138 (by decide) ?_
  refine lv_icmp_lt (tgt := 149) hx hb dX9_makeMould_139 (by decide) (fun _ => ?_) (fun c_139 => absurd c_139 (by decide))
  refine lv_iload_n hx hb dX9_makeMould_149 rfl (lv_at hl 1 rfl) ?_
  refine lv_iconst (v := 5) hx hb dX9_makeMould_150 (by decide) ?_
  refine lv_icmp_ne (tgt := 164) hx hb dX9_makeMould_151 (by decide) (fun _ => ?_) (fun c_151 => absurd c_151 (by decide))
  refine lv_iload_n hx hb dX9_makeMould_164 rfl (lv_at hl 1 rfl) ?_
  refine lv_bipush (v := 6) hx hb dX9_makeMould_165 (by decide) ?_
  refine lv_icmp_ne (tgt := 177) hx hb dX9_makeMould_167 (by decide) (fun _ => ?_) (fun c_167 => absurd c_167 (by decide))
  exact W.vret hx hb hr (fun t ht hW => m_end hAe hG (⟨rfl, _, rfl, rfl, rfl, hf_36⟩) ht) (m_locs hG) dX9_makeMould_177
def mo_3 (kk ca : Int32) : List Int32 := [91, 205, 46, 300, 115, 93, 71, 67, 40, 203, 41, 32, 79, 108, 100, 32, 204, 400, 45, 62, 204, 400]
set_option maxHeartbeats 4000000 in
set_option maxRecDepth 100000 in
/-- the mould of shape 3 -/
theorem c_makeMould_3 (l : Launch) (I : Nat → Int32) (B : Nat → Int64) (V : Nat → Nat → Int32) (kk ca : Int32) : CM l yX9_makeMould wsX9_makeMould 3 I B V (fun a_9 => [.ref a_9, .int 3, .int kk, .int ca]) (mdP I B V (mo_3 kk ca)) := by
  refine CM.ofW (cc := cX9_makeMould) (maxL := 4) (ret := none) (by decide) rfl rfl (fun _ => Nat.le_of_ble_eq_true rfl) ?_
  intro p e s m args below meth c D Y ad n b σ A ls hAe hx hb hr hml hts hown hlocks hK hA hG hl
  have hin : ∀ w ∈ wsX90, w ∈ wsX9_makeMould := by decide +kernel
  have hl : lv_has ls 4 [(0, .ref (ad b)), (1, .int 3), (2, .int kk), (3, .int ca)] := hl
  have hpl := pauseL_len kk ca
  have lk_87 := hts (.fieldLink RX9 87 "PauseLogModel" "mouldLong" "I") (by decide +kernel)
  have lk_121 := hts (.constantLong RX9 121 (495486190376)) (by decide +kernel)
  have lk_123 := hts (.constantLong RX9 123 (10528)) (by decide +kernel)
  have lk_135 := hts (.constantLong RX9 135 (298037112352)) (by decide +kernel)
  have lk_137 := hts (.constantLong RX9 137 (1332503584)) (by decide +kernel)
  have lk_139 := hts (.constantLong RX9 139 (1298231915)) (by decide +kernel)
  have lk_141 := hts (.constantLong RX9 141 (35465196434036)) (by decide +kernel)
  refine lv_aload_n hx hb dX9_makeMould_0 rfl (lv_at hl 0 rfl) ?_
  refine lv_iconst (v := 0) hx hb dX9_makeMould_1 (by decide) ?_
  refine m_put hx hb hts hin hown hK hG 3 (by decide) lk_87 rfl rfl (mS_3 ad b I B 0) rfl rfl dX9_makeMould_2 (fun H locs hG => ?_)
  refine lv_aload_n hx hb dX9_makeMould_5 rfl (lv_at hl 0 rfl) ?_
  refine lv_bipush (v := 91) hx hb dX9_makeMould_6 (by decide) ?_
  refine m_callV (As := [.int 91]) (rest := []) (c_element l (va_up I 3 0) B V ([]) ([91]) 91 rfl nI_0.symm (fun i h => absurd h (Nat.not_lt_zero i)) (by first | decide | omega | (simp only [List.length_append, List.length_cons, List.length_nil]; omega))) ⟨hx, hb, hml, hown, hts⟩ (cwV 1 hts gX9_makeMould_X9_element rfl rfl rfl (by decide +kernel) ⟨by decide, by decide⟩) hK hG hA rfl hl.1 rfl (by decide) ⟨Nat.le_refl _, Nat.le_refl _⟩ dX9_makeMould_8 (fun r_9 I_1 B_2 V_3 H locs hp hG => ?_)
  obtain ⟨rfl, f_4, rfl, e1_9, e2_9, hf_4⟩ := hp
  rw [bx_uu] at e1_9
  subst e1_9 e2_9
  have hf_4 : MdF f_4 ([91]) := hf_4
  refine W.eq (g2 := F0 m 11 ls []) rfl ?_
  refine lv_aload_n hx hb dX9_makeMould_11 rfl (lv_at hl 0 rfl) ?_
  refine lv_sipush (v := 205) hx hb dX9_makeMould_12 (by decide) ?_
  refine m_callV (As := [.int 205]) (rest := []) (c_element l (va_up I 3 (nI ([91]).length)) B (va_up V 2 f_4) ([91]) ([91, 205]) 205 rfl (va_up_self _ _ _) hf_4 (by first | decide | omega | (simp only [List.length_append, List.length_cons, List.length_nil]; omega))) ⟨hx, hb, hml, hown, hts⟩ (cwV 1 hts gX9_makeMould_X9_element rfl rfl rfl (by decide +kernel) ⟨by decide, by decide⟩) hK hG hA rfl hl.1 rfl (by decide) ⟨Nat.le_refl _, Nat.le_refl _⟩ dX9_makeMould_15 (fun r_9 I_5 B_6 V_7 H locs hp hG => ?_)
  obtain ⟨rfl, f_8, rfl, e1_9, e2_9, hf_8⟩ := hp
  rw [bx_uu] at e1_9
  rw [bx_uu] at e2_9
  subst e1_9 e2_9
  have hf_8 : MdF f_8 ([91, 205]) := hf_8
  refine W.eq (g2 := F0 m 18 ls []) rfl ?_
  refine lv_aload_n hx hb dX9_makeMould_18 rfl (lv_at hl 0 rfl) ?_
  refine lv_bipush (v := 46) hx hb dX9_makeMould_19 (by decide) ?_
  refine m_callV (As := [.int 46]) (rest := []) (c_element l (va_up I 3 (nI ([91, 205]).length)) B (va_up V 2 f_8) ([91, 205]) ([91, 205, 46]) 46 rfl (va_up_self _ _ _) hf_8 (by first | decide | omega | (simp only [List.length_append, List.length_cons, List.length_nil]; omega))) ⟨hx, hb, hml, hown, hts⟩ (cwV 1 hts gX9_makeMould_X9_element rfl rfl rfl (by decide +kernel) ⟨by decide, by decide⟩) hK hG hA rfl hl.1 rfl (by decide) ⟨Nat.le_refl _, Nat.le_refl _⟩ dX9_makeMould_21 (fun r_9 I_9 B_10 V_11 H locs hp hG => ?_)
  obtain ⟨rfl, f_12, rfl, e1_9, e2_9, hf_12⟩ := hp
  rw [bx_uu] at e1_9
  rw [bx_uu] at e2_9
  subst e1_9 e2_9
  have hf_12 : MdF f_12 ([91, 205, 46]) := hf_12
  refine W.eq (g2 := F0 m 24 ls []) rfl ?_
  refine lv_aload_n hx hb dX9_makeMould_24 rfl (lv_at hl 0 rfl) ?_
  refine lv_sipush (v := 300) hx hb dX9_makeMould_25 (by decide) ?_
  refine m_callV (As := [.int 300]) (rest := []) (c_element l (va_up I 3 (nI ([91, 205, 46]).length)) B (va_up V 2 f_12) ([91, 205, 46]) ([91, 205, 46, 300]) 300 rfl (va_up_self _ _ _) hf_12 (by first | decide | omega | (simp only [List.length_append, List.length_cons, List.length_nil]; omega))) ⟨hx, hb, hml, hown, hts⟩ (cwV 1 hts gX9_makeMould_X9_element rfl rfl rfl (by decide +kernel) ⟨by decide, by decide⟩) hK hG hA rfl hl.1 rfl (by decide) ⟨Nat.le_refl _, Nat.le_refl _⟩ dX9_makeMould_28 (fun r_9 I_13 B_14 V_15 H locs hp hG => ?_)
  obtain ⟨rfl, f_16, rfl, e1_9, e2_9, hf_16⟩ := hp
  rw [bx_uu] at e1_9
  rw [bx_uu] at e2_9
  subst e1_9 e2_9
  have hf_16 : MdF f_16 ([91, 205, 46, 300]) := hf_16
  refine W.eq (g2 := F0 m 31 ls []) rfl ?_
  refine lv_aload_n hx hb dX9_makeMould_31 rfl (lv_at hl 0 rfl) ?_
  refine lv_ldc2 hx hb hown lk_121 dX9_makeMould_32 ?_
  refine m_callV (As := [.long 495486190376]) (rest := []) (c_literal l (va_up I 3 (nI ([91, 205, 46, 300]).length)) B (va_up V 2 f_16) ([91, 205, 46, 300]) ([91, 205, 46, 300, 115, 93, 71, 67, 40]) ([115, 93, 71, 67, 40]) 495486190376 (by decide +kernel) rfl (va_up_self _ _ _) hf_16 (by first | decide | omega | (simp only [List.length_append, List.length_cons, List.length_nil]; omega))) ⟨hx, hb, hml, hown, hts⟩ (cwV 1 hts gX9_makeMould_X9_literal rfl rfl rfl (by decide +kernel) ⟨by decide, by decide⟩) hK hG hA rfl hl.1 rfl (by decide) ⟨Nat.le_refl _, Nat.le_refl _⟩ dX9_makeMould_35 (fun r_9 I_17 B_18 V_19 H locs hp hG => ?_)
  obtain ⟨rfl, f_20, rfl, e1_9, e2_9, hf_20⟩ := hp
  rw [bx_uu] at e1_9
  rw [bx_uu] at e2_9
  subst e1_9 e2_9
  have hf_20 : MdF f_20 ([91, 205, 46, 300, 115, 93, 71, 67, 40]) := hf_20
  refine W.eq (g2 := F0 m 38 ls []) rfl ?_
  refine lv_aload_n hx hb dX9_makeMould_38 rfl (lv_at hl 0 rfl) ?_
  refine lv_sipush (v := 203) hx hb dX9_makeMould_39 (by decide) ?_
  refine m_callV (As := [.int 203]) (rest := []) (c_element l (va_up I 3 (nI ([91, 205, 46, 300, 115, 93, 71, 67, 40]).length)) B (va_up V 2 f_20) ([91, 205, 46, 300, 115, 93, 71, 67, 40]) ([91, 205, 46, 300, 115, 93, 71, 67, 40, 203]) 203 rfl (va_up_self _ _ _) hf_20 (by first | decide | omega | (simp only [List.length_append, List.length_cons, List.length_nil]; omega))) ⟨hx, hb, hml, hown, hts⟩ (cwV 1 hts gX9_makeMould_X9_element rfl rfl rfl (by decide +kernel) ⟨by decide, by decide⟩) hK hG hA rfl hl.1 rfl (by decide) ⟨Nat.le_refl _, Nat.le_refl _⟩ dX9_makeMould_42 (fun r_9 I_21 B_22 V_23 H locs hp hG => ?_)
  obtain ⟨rfl, f_24, rfl, e1_9, e2_9, hf_24⟩ := hp
  rw [bx_uu] at e1_9
  rw [bx_uu] at e2_9
  subst e1_9 e2_9
  have hf_24 : MdF f_24 ([91, 205, 46, 300, 115, 93, 71, 67, 40, 203]) := hf_24
  refine W.eq (g2 := F0 m 45 ls []) rfl ?_
  refine lv_aload_n hx hb dX9_makeMould_45 rfl (lv_at hl 0 rfl) ?_
  refine lv_ldc2 hx hb hown lk_123 dX9_makeMould_46 ?_
  refine m_callV (As := [.long 10528]) (rest := []) (c_literal l (va_up I 3 (nI ([91, 205, 46, 300, 115, 93, 71, 67, 40, 203]).length)) B (va_up V 2 f_24) ([91, 205, 46, 300, 115, 93, 71, 67, 40, 203]) ([91, 205, 46, 300, 115, 93, 71, 67, 40, 203, 41, 32]) ([41, 32]) 10528 (by decide +kernel) rfl (va_up_self _ _ _) hf_24 (by first | decide | omega | (simp only [List.length_append, List.length_cons, List.length_nil]; omega))) ⟨hx, hb, hml, hown, hts⟩ (cwV 1 hts gX9_makeMould_X9_literal rfl rfl rfl (by decide +kernel) ⟨by decide, by decide⟩) hK hG hA rfl hl.1 rfl (by decide) ⟨Nat.le_refl _, Nat.le_refl _⟩ dX9_makeMould_49 (fun r_9 I_25 B_26 V_27 H locs hp hG => ?_)
  obtain ⟨rfl, f_28, rfl, e1_9, e2_9, hf_28⟩ := hp
  rw [bx_uu] at e1_9
  rw [bx_uu] at e2_9
  subst e1_9 e2_9
  have hf_28 : MdF f_28 ([91, 205, 46, 300, 115, 93, 71, 67, 40, 203, 41, 32]) := hf_28
  refine W.eq (g2 := F0 m 52 ls []) rfl ?_
  refine lv_iload_n hx hb dX9_makeMould_52 rfl (lv_at hl 1 rfl) ?_
  refine lv_iconst (v := 1) hx hb dX9_makeMould_53 (by decide) ?_
  refine lv_icmp_gt (tgt := 63) hx hb dX9_makeMould_54 (by decide) (fun _ => ?_) (fun c_54 => absurd c_54 (by decide))
  refine lv_iload_n hx hb dX9_makeMould_63 rfl (lv_at hl 1 rfl) ?_
  refine lv_iconst (v := 1) hx hb dX9_makeMould_64 (by decide) ?_
  refine lv_icmp_ne (tgt := 99) hx hb dX9_makeMould_65 (by decide) (fun _ => ?_) (fun c_65 => absurd c_65 (by decide))
  refine lv_iload_n hx hb dX9_makeMould_99 rfl (lv_at hl 1 rfl) ?_
  refine lv_iconst (v := 2) hx hb dX9_makeMould_100 (by decide) ?_
  refine lv_icmp_ne (tgt := 111) hx hb dX9_makeMould_101 (by decide) (fun _ => ?_) (fun c_101 => absurd c_101 (by decide))
  refine lv_iload_n hx hb dX9_makeMould_111 rfl (lv_at hl 1 rfl) ?_
  refine lv_iconst (v := 3) hx hb dX9_makeMould_112 (by decide) ?_
  refine lv_icmp_ne (tgt := 123) hx hb dX9_makeMould_113 (by decide) (fun c_113 => absurd c_113 (by decide)) (fun _ => ?_)
  refine lv_aload_n hx hb dX9_makeMould_116 rfl (lv_at hl 0 rfl) ?_
  refine lv_ldc2 hx hb hown lk_137 dX9_makeMould_117 ?_
  refine m_callV (As := [.long 1332503584]) (rest := []) (c_literal l (va_up I 3 (nI ([91, 205, 46, 300, 115, 93, 71, 67, 40, 203, 41, 32]).length)) B (va_up V 2 f_28) ([91, 205, 46, 300, 115, 93, 71, 67, 40, 203, 41, 32]) ([91, 205, 46, 300, 115, 93, 71, 67, 40, 203, 41, 32, 79, 108, 100, 32]) ([79, 108, 100, 32]) 1332503584 (by decide +kernel) rfl (va_up_self _ _ _) hf_28 (by first | decide | omega | (simp only [List.length_append, List.length_cons, List.length_nil]; omega))) ⟨hx, hb, hml, hown, hts⟩ (cwV 1 hts gX9_makeMould_X9_literal rfl rfl rfl (by decide +kernel) ⟨by decide, by decide⟩) hK hG hA rfl hl.1 rfl (by decide) ⟨Nat.le_refl _, Nat.le_refl _⟩ dX9_makeMould_120 (fun r_9 I_29 B_30 V_31 H locs hp hG => ?_)
  obtain ⟨rfl, f_32, rfl, e1_9, e2_9, hf_32⟩ := hp
  rw [bx_uu] at e1_9
  rw [bx_uu] at e2_9
  subst e1_9 e2_9
  have hf_32 : MdF f_32 ([91, 205, 46, 300, 115, 93, 71, 67, 40, 203, 41, 32, 79, 108, 100, 32]) := hf_32
  refine W.eq (g2 := F0 m 123 ls []) rfl ?_
  refine lv_iload_n hx hb dX9_makeMould_123 rfl (lv_at hl 1 rfl) ?_
  refine lv_iconst (v := 2) hx hb dX9_makeMould_124 (by decide) ?_
  refine lv_icmp_eq (tgt := 133) hx hb dX9_makeMould_125 (by decide) (fun c_125 => absurd c_125 (by decide)) (fun _ => ?_)
  refine lv_iload_n hx hb dX9_makeMould_128 rfl (lv_at hl 1 rfl) ?_
  refine lv_iconst (v := 3) hx hb dX9_makeMould_129 (by decide) ?_
  refine lv_icmp_ne (tgt := 137) hx hb dX9_makeMould_130 (by decide) (fun c_130 => absurd c_130 (by decide)) (fun _ => ?_)
  refine lv_aload_n hx hb dX9_makeMould_133 rfl (lv_at hl 0 rfl) ?_
  refine m_callV (As := []) (rest := []) (c_arrow l (va_up I 3 (nI ([91, 205, 46, 300, 115, 93, 71, 67, 40, 203, 41, 32, 79, 108, 100, 32]).length)) B (va_up V 2 f_32) ([91, 205, 46, 300, 115, 93, 71, 67, 40, 203, 41, 32, 79, 108, 100, 32]) ([91, 205, 46, 300, 115, 93, 71, 67, 40, 203, 41, 32, 79, 108, 100, 32, 204, 400, 45, 62, 204, 400]) rfl (va_up_self _ _ _) hf_32 (by first | decide | omega | (simp only [List.length_append, List.length_cons, List.length_nil]; omega))) ⟨hx, hb, hml, hown, hts⟩ (cwV 0 hts gX9_makeMould_X9_arrow rfl rfl rfl (by decide +kernel) ⟨by decide, by decide⟩) hK hG hA rfl hl.1 rfl (by decide) ⟨Nat.le_refl _, Nat.le_refl _⟩ dX9_makeMould_134 (fun r_9 I_33 B_34 V_35 H locs hp hG => ?_)
  obtain ⟨rfl, f_36, rfl, e1_9, e2_9, hf_36⟩ := hp
  rw [bx_uu] at e1_9
  rw [bx_uu] at e2_9
  subst e1_9 e2_9
  have hf_36 : MdF f_36 ([91, 205, 46, 300, 115, 93, 71, 67, 40, 203, 41, 32, 79, 108, 100, 32, 204, 400, 45, 62, 204, 400]) := hf_36
  refine W.eq (g2 := F0 m 137 ls []) rfl ?_
  refine lv_iload_n hx hb dX9_makeMould_137 rfl (lv_at hl 1 rfl) ?_
  refine lv_iconst (v := 4) hx hb dX9_makeMould_138 (by decide) ?_
  refine lv_icmp_lt (tgt := 149) hx hb dX9_makeMould_139 (by decide) (fun _ => ?_) (fun c_139 => absurd c_139 (by decide))
  refine lv_iload_n hx hb dX9_makeMould_149 rfl (lv_at hl 1 rfl) ?_
  refine lv_iconst (v := 5) hx hb dX9_makeMould_150 (by decide) ?_
  refine lv_icmp_ne (tgt := 164) hx hb dX9_makeMould_151 (by decide) (fun _ => ?_) (fun c_151 => absurd c_151 (by decide))
  refine lv_iload_n hx hb dX9_makeMould_164 rfl (lv_at hl 1 rfl) ?_
  refine lv_bipush (v := 6) hx hb dX9_makeMould_165 (by decide) ?_
  refine lv_icmp_ne (tgt := 177) hx hb dX9_makeMould_167 (by decide) (fun _ => ?_) (fun c_167 => absurd c_167 (by decide))
  exact W.vret hx hb hr (fun t ht hW => m_end hAe hG (⟨rfl, _, rfl, rfl, rfl, hf_36⟩) ht) (m_locs hG) dX9_makeMould_177
def mo_4 (kk ca : Int32) : List Int32 := [91, 205, 46, 300, 115, 93, 71, 67, 40, 203, 41, 32, 77, 97, 114, 107]
set_option maxHeartbeats 4000000 in
set_option maxRecDepth 100000 in
/-- the mould of shape 4 -/
theorem c_makeMould_4 (l : Launch) (I : Nat → Int32) (B : Nat → Int64) (V : Nat → Nat → Int32) (kk ca : Int32) : CM l yX9_makeMould wsX9_makeMould 3 I B V (fun a_9 => [.ref a_9, .int 4, .int kk, .int ca]) (mdP I B V (mo_4 kk ca)) := by
  refine CM.ofW (cc := cX9_makeMould) (maxL := 4) (ret := none) (by decide) rfl rfl (fun _ => Nat.le_of_ble_eq_true rfl) ?_
  intro p e s m args below meth c D Y ad n b σ A ls hAe hx hb hr hml hts hown hlocks hK hA hG hl
  have hin : ∀ w ∈ wsX90, w ∈ wsX9_makeMould := by decide +kernel
  have hl : lv_has ls 4 [(0, .ref (ad b)), (1, .int 4), (2, .int kk), (3, .int ca)] := hl
  have hpl := pauseL_len kk ca
  have lk_87 := hts (.fieldLink RX9 87 "PauseLogModel" "mouldLong" "I") (by decide +kernel)
  have lk_121 := hts (.constantLong RX9 121 (495486190376)) (by decide +kernel)
  have lk_123 := hts (.constantLong RX9 123 (10528)) (by decide +kernel)
  have lk_135 := hts (.constantLong RX9 135 (298037112352)) (by decide +kernel)
  have lk_137 := hts (.constantLong RX9 137 (1332503584)) (by decide +kernel)
  have lk_139 := hts (.constantLong RX9 139 (1298231915)) (by decide +kernel)
  have lk_141 := hts (.constantLong RX9 141 (35465196434036)) (by decide +kernel)
  refine lv_aload_n hx hb dX9_makeMould_0 rfl (lv_at hl 0 rfl) ?_
  refine lv_iconst (v := 0) hx hb dX9_makeMould_1 (by decide) ?_
  refine m_put hx hb hts hin hown hK hG 3 (by decide) lk_87 rfl rfl (mS_3 ad b I B 0) rfl rfl dX9_makeMould_2 (fun H locs hG => ?_)
  refine lv_aload_n hx hb dX9_makeMould_5 rfl (lv_at hl 0 rfl) ?_
  refine lv_bipush (v := 91) hx hb dX9_makeMould_6 (by decide) ?_
  refine m_callV (As := [.int 91]) (rest := []) (c_element l (va_up I 3 0) B V ([]) ([91]) 91 rfl nI_0.symm (fun i h => absurd h (Nat.not_lt_zero i)) (by first | decide | omega | (simp only [List.length_append, List.length_cons, List.length_nil]; omega))) ⟨hx, hb, hml, hown, hts⟩ (cwV 1 hts gX9_makeMould_X9_element rfl rfl rfl (by decide +kernel) ⟨by decide, by decide⟩) hK hG hA rfl hl.1 rfl (by decide) ⟨Nat.le_refl _, Nat.le_refl _⟩ dX9_makeMould_8 (fun r_9 I_1 B_2 V_3 H locs hp hG => ?_)
  obtain ⟨rfl, f_4, rfl, e1_9, e2_9, hf_4⟩ := hp
  rw [bx_uu] at e1_9
  subst e1_9 e2_9
  have hf_4 : MdF f_4 ([91]) := hf_4
  refine W.eq (g2 := F0 m 11 ls []) rfl ?_
  refine lv_aload_n hx hb dX9_makeMould_11 rfl (lv_at hl 0 rfl) ?_
  refine lv_sipush (v := 205) hx hb dX9_makeMould_12 (by decide) ?_
  refine m_callV (As := [.int 205]) (rest := []) (c_element l (va_up I 3 (nI ([91]).length)) B (va_up V 2 f_4) ([91]) ([91, 205]) 205 rfl (va_up_self _ _ _) hf_4 (by first | decide | omega | (simp only [List.length_append, List.length_cons, List.length_nil]; omega))) ⟨hx, hb, hml, hown, hts⟩ (cwV 1 hts gX9_makeMould_X9_element rfl rfl rfl (by decide +kernel) ⟨by decide, by decide⟩) hK hG hA rfl hl.1 rfl (by decide) ⟨Nat.le_refl _, Nat.le_refl _⟩ dX9_makeMould_15 (fun r_9 I_5 B_6 V_7 H locs hp hG => ?_)
  obtain ⟨rfl, f_8, rfl, e1_9, e2_9, hf_8⟩ := hp
  rw [bx_uu] at e1_9
  rw [bx_uu] at e2_9
  subst e1_9 e2_9
  have hf_8 : MdF f_8 ([91, 205]) := hf_8
  refine W.eq (g2 := F0 m 18 ls []) rfl ?_
  refine lv_aload_n hx hb dX9_makeMould_18 rfl (lv_at hl 0 rfl) ?_
  refine lv_bipush (v := 46) hx hb dX9_makeMould_19 (by decide) ?_
  refine m_callV (As := [.int 46]) (rest := []) (c_element l (va_up I 3 (nI ([91, 205]).length)) B (va_up V 2 f_8) ([91, 205]) ([91, 205, 46]) 46 rfl (va_up_self _ _ _) hf_8 (by first | decide | omega | (simp only [List.length_append, List.length_cons, List.length_nil]; omega))) ⟨hx, hb, hml, hown, hts⟩ (cwV 1 hts gX9_makeMould_X9_element rfl rfl rfl (by decide +kernel) ⟨by decide, by decide⟩) hK hG hA rfl hl.1 rfl (by decide) ⟨Nat.le_refl _, Nat.le_refl _⟩ dX9_makeMould_21 (fun r_9 I_9 B_10 V_11 H locs hp hG => ?_)
  obtain ⟨rfl, f_12, rfl, e1_9, e2_9, hf_12⟩ := hp
  rw [bx_uu] at e1_9
  rw [bx_uu] at e2_9
  subst e1_9 e2_9
  have hf_12 : MdF f_12 ([91, 205, 46]) := hf_12
  refine W.eq (g2 := F0 m 24 ls []) rfl ?_
  refine lv_aload_n hx hb dX9_makeMould_24 rfl (lv_at hl 0 rfl) ?_
  refine lv_sipush (v := 300) hx hb dX9_makeMould_25 (by decide) ?_
  refine m_callV (As := [.int 300]) (rest := []) (c_element l (va_up I 3 (nI ([91, 205, 46]).length)) B (va_up V 2 f_12) ([91, 205, 46]) ([91, 205, 46, 300]) 300 rfl (va_up_self _ _ _) hf_12 (by first | decide | omega | (simp only [List.length_append, List.length_cons, List.length_nil]; omega))) ⟨hx, hb, hml, hown, hts⟩ (cwV 1 hts gX9_makeMould_X9_element rfl rfl rfl (by decide +kernel) ⟨by decide, by decide⟩) hK hG hA rfl hl.1 rfl (by decide) ⟨Nat.le_refl _, Nat.le_refl _⟩ dX9_makeMould_28 (fun r_9 I_13 B_14 V_15 H locs hp hG => ?_)
  obtain ⟨rfl, f_16, rfl, e1_9, e2_9, hf_16⟩ := hp
  rw [bx_uu] at e1_9
  rw [bx_uu] at e2_9
  subst e1_9 e2_9
  have hf_16 : MdF f_16 ([91, 205, 46, 300]) := hf_16
  refine W.eq (g2 := F0 m 31 ls []) rfl ?_
  refine lv_aload_n hx hb dX9_makeMould_31 rfl (lv_at hl 0 rfl) ?_
  refine lv_ldc2 hx hb hown lk_121 dX9_makeMould_32 ?_
  refine m_callV (As := [.long 495486190376]) (rest := []) (c_literal l (va_up I 3 (nI ([91, 205, 46, 300]).length)) B (va_up V 2 f_16) ([91, 205, 46, 300]) ([91, 205, 46, 300, 115, 93, 71, 67, 40]) ([115, 93, 71, 67, 40]) 495486190376 (by decide +kernel) rfl (va_up_self _ _ _) hf_16 (by first | decide | omega | (simp only [List.length_append, List.length_cons, List.length_nil]; omega))) ⟨hx, hb, hml, hown, hts⟩ (cwV 1 hts gX9_makeMould_X9_literal rfl rfl rfl (by decide +kernel) ⟨by decide, by decide⟩) hK hG hA rfl hl.1 rfl (by decide) ⟨Nat.le_refl _, Nat.le_refl _⟩ dX9_makeMould_35 (fun r_9 I_17 B_18 V_19 H locs hp hG => ?_)
  obtain ⟨rfl, f_20, rfl, e1_9, e2_9, hf_20⟩ := hp
  rw [bx_uu] at e1_9
  rw [bx_uu] at e2_9
  subst e1_9 e2_9
  have hf_20 : MdF f_20 ([91, 205, 46, 300, 115, 93, 71, 67, 40]) := hf_20
  refine W.eq (g2 := F0 m 38 ls []) rfl ?_
  refine lv_aload_n hx hb dX9_makeMould_38 rfl (lv_at hl 0 rfl) ?_
  refine lv_sipush (v := 203) hx hb dX9_makeMould_39 (by decide) ?_
  refine m_callV (As := [.int 203]) (rest := []) (c_element l (va_up I 3 (nI ([91, 205, 46, 300, 115, 93, 71, 67, 40]).length)) B (va_up V 2 f_20) ([91, 205, 46, 300, 115, 93, 71, 67, 40]) ([91, 205, 46, 300, 115, 93, 71, 67, 40, 203]) 203 rfl (va_up_self _ _ _) hf_20 (by first | decide | omega | (simp only [List.length_append, List.length_cons, List.length_nil]; omega))) ⟨hx, hb, hml, hown, hts⟩ (cwV 1 hts gX9_makeMould_X9_element rfl rfl rfl (by decide +kernel) ⟨by decide, by decide⟩) hK hG hA rfl hl.1 rfl (by decide) ⟨Nat.le_refl _, Nat.le_refl _⟩ dX9_makeMould_42 (fun r_9 I_21 B_22 V_23 H locs hp hG => ?_)
  obtain ⟨rfl, f_24, rfl, e1_9, e2_9, hf_24⟩ := hp
  rw [bx_uu] at e1_9
  rw [bx_uu] at e2_9
  subst e1_9 e2_9
  have hf_24 : MdF f_24 ([91, 205, 46, 300, 115, 93, 71, 67, 40, 203]) := hf_24
  refine W.eq (g2 := F0 m 45 ls []) rfl ?_
  refine lv_aload_n hx hb dX9_makeMould_45 rfl (lv_at hl 0 rfl) ?_
  refine lv_ldc2 hx hb hown lk_123 dX9_makeMould_46 ?_
  refine m_callV (As := [.long 10528]) (rest := []) (c_literal l (va_up I 3 (nI ([91, 205, 46, 300, 115, 93, 71, 67, 40, 203]).length)) B (va_up V 2 f_24) ([91, 205, 46, 300, 115, 93, 71, 67, 40, 203]) ([91, 205, 46, 300, 115, 93, 71, 67, 40, 203, 41, 32]) ([41, 32]) 10528 (by decide +kernel) rfl (va_up_self _ _ _) hf_24 (by first | decide | omega | (simp only [List.length_append, List.length_cons, List.length_nil]; omega))) ⟨hx, hb, hml, hown, hts⟩ (cwV 1 hts gX9_makeMould_X9_literal rfl rfl rfl (by decide +kernel) ⟨by decide, by decide⟩) hK hG hA rfl hl.1 rfl (by decide) ⟨Nat.le_refl _, Nat.le_refl _⟩ dX9_makeMould_49 (fun r_9 I_25 B_26 V_27 H locs hp hG => ?_)
  obtain ⟨rfl, f_28, rfl, e1_9, e2_9, hf_28⟩ := hp
  rw [bx_uu] at e1_9
  rw [bx_uu] at e2_9
  subst e1_9 e2_9
  have hf_28 : MdF f_28 ([91, 205, 46, 300, 115, 93, 71, 67, 40, 203, 41, 32]) := hf_28
  refine W.eq (g2 := F0 m 52 ls []) rfl ?_
  refine lv_iload_n hx hb dX9_makeMould_52 rfl (lv_at hl 1 rfl) ?_
  refine lv_iconst (v := 1) hx hb dX9_makeMould_53 (by decide) ?_
  refine lv_icmp_gt (tgt := 63) hx hb dX9_makeMould_54 (by decide) (fun _ => ?_) (fun c_54 => absurd c_54 (by decide))
  refine lv_iload_n hx hb dX9_makeMould_63 rfl (lv_at hl 1 rfl) ?_
  refine lv_iconst (v := 1) hx hb dX9_makeMould_64 (by decide) ?_
  refine lv_icmp_ne (tgt := 99) hx hb dX9_makeMould_65 (by decide) (fun _ => ?_) (fun c_65 => absurd c_65 (by decide))
  refine lv_iload_n hx hb dX9_makeMould_99 rfl (lv_at hl 1 rfl) ?_
  refine lv_iconst (v := 2) hx hb dX9_makeMould_100 (by decide) ?_
  refine lv_icmp_ne (tgt := 111) hx hb dX9_makeMould_101 (by decide) (fun _ => ?_) (fun c_101 => absurd c_101 (by decide))
  refine lv_iload_n hx hb dX9_makeMould_111 rfl (lv_at hl 1 rfl) ?_
  refine lv_iconst (v := 3) hx hb dX9_makeMould_112 (by decide) ?_
  refine lv_icmp_ne (tgt := 123) hx hb dX9_makeMould_113 (by decide) (fun _ => ?_) (fun c_113 => absurd c_113 (by decide))
  refine lv_iload_n hx hb dX9_makeMould_123 rfl (lv_at hl 1 rfl) ?_
  refine lv_iconst (v := 2) hx hb dX9_makeMould_124 (by decide) ?_
  refine lv_icmp_eq (tgt := 133) hx hb dX9_makeMould_125 (by decide) (fun c_125 => absurd c_125 (by decide)) (fun _ => ?_)
  refine lv_iload_n hx hb dX9_makeMould_128 rfl (lv_at hl 1 rfl) ?_
  refine lv_iconst (v := 3) hx hb dX9_makeMould_129 (by decide) ?_
  refine lv_icmp_ne (tgt := 137) hx hb dX9_makeMould_130 (by decide) (fun _ => ?_) (fun c_130 => absurd c_130 (by decide))
  refine lv_iload_n hx hb dX9_makeMould_137 rfl (lv_at hl 1 rfl) ?_
  refine lv_iconst (v := 4) hx hb dX9_makeMould_138 (by decide) ?_
  refine lv_icmp_lt (tgt := 149) hx hb dX9_makeMould_139 (by decide) (fun c_139 => absurd c_139 (by decide)) (fun _ => ?_)
  refine lv_aload_n hx hb dX9_makeMould_142 rfl (lv_at hl 0 rfl) ?_
  refine lv_ldc2 hx hb hown lk_139 dX9_makeMould_143 ?_
  refine m_callV (As := [.long 1298231915]) (rest := []) (c_literal l (va_up I 3 (nI ([91, 205, 46, 300, 115, 93, 71, 67, 40, 203, 41, 32]).length)) B (va_up V 2 f_28) ([91, 205, 46, 300, 115, 93, 71, 67, 40, 203, 41, 32]) ([91, 205, 46, 300, 115, 93, 71, 67, 40, 203, 41, 32, 77, 97, 114, 107]) ([77, 97, 114, 107]) 1298231915 (by decide +kernel) rfl (va_up_self _ _ _) hf_28 (by first | decide | omega | (simp only [List.length_append, List.length_cons, List.length_nil]; omega))) ⟨hx, hb, hml, hown, hts⟩ (cwV 1 hts gX9_makeMould_X9_literal rfl rfl rfl (by decide +kernel) ⟨by decide, by decide⟩) hK hG hA rfl hl.1 rfl (by decide) ⟨Nat.le_refl _, Nat.le_refl _⟩ dX9_makeMould_146 (fun r_9 I_29 B_30 V_31 H locs hp hG => ?_)
  obtain ⟨rfl, f_32, rfl, e1_9, e2_9, hf_32⟩ := hp
  rw [bx_uu] at e1_9
  rw [bx_uu] at e2_9
  subst e1_9 e2_9
  have hf_32 : MdF f_32 ([91, 205, 46, 300, 115, 93, 71, 67, 40, 203, 41, 32, 77, 97, 114, 107]) := hf_32
  refine W.eq (g2 := F0 m 149 ls []) rfl ?_
  refine lv_iload_n hx hb dX9_makeMould_149 rfl (lv_at hl 1 rfl) ?_
  refine lv_iconst (v := 5) hx hb dX9_makeMould_150 (by decide) ?_
  refine lv_icmp_ne (tgt := 164) hx hb dX9_makeMould_151 (by decide) (fun _ => ?_) (fun c_151 => absurd c_151 (by decide))
  refine lv_iload_n hx hb dX9_makeMould_164 rfl (lv_at hl 1 rfl) ?_
  refine lv_bipush (v := 6) hx hb dX9_makeMould_165 (by decide) ?_
  refine lv_icmp_ne (tgt := 177) hx hb dX9_makeMould_167 (by decide) (fun _ => ?_) (fun c_167 => absurd c_167 (by decide))
  exact W.vret hx hb hr (fun t ht hW => m_end hAe hG (⟨rfl, _, rfl, rfl, rfl, hf_32⟩) ht) (m_locs hG) dX9_makeMould_177
def mo_5 (kk ca : Int32) : List Int32 := [91, 205, 46, 300, 115, 93, 71, 67, 40, 203, 41, 32, 77, 97, 114, 107, 32, 204, 46, 300, 109, 115]
set_option maxHeartbeats 4000000 in
set_option maxRecDepth 100000 in
/-- the mould of shape 5 -/
theorem c_makeMould_5 (l : Launch) (I : Nat → Int32) (B : Nat → Int64) (V : Nat → Nat → Int32) (kk ca : Int32) : CM l yX9_makeMould wsX9_makeMould 3 I B V (fun a_9 => [.ref a_9, .int 5, .int kk, .int ca]) (mdP I B V (mo_5 kk ca)) := by
  refine CM.ofW (cc := cX9_makeMould) (maxL := 4) (ret := none) (by decide) rfl rfl (fun _ => Nat.le_of_ble_eq_true rfl) ?_
  intro p e s m args below meth c D Y ad n b σ A ls hAe hx hb hr hml hts hown hlocks hK hA hG hl
  have hin : ∀ w ∈ wsX90, w ∈ wsX9_makeMould := by decide +kernel
  have hl : lv_has ls 4 [(0, .ref (ad b)), (1, .int 5), (2, .int kk), (3, .int ca)] := hl
  have hpl := pauseL_len kk ca
  have lk_87 := hts (.fieldLink RX9 87 "PauseLogModel" "mouldLong" "I") (by decide +kernel)
  have lk_121 := hts (.constantLong RX9 121 (495486190376)) (by decide +kernel)
  have lk_123 := hts (.constantLong RX9 123 (10528)) (by decide +kernel)
  have lk_135 := hts (.constantLong RX9 135 (298037112352)) (by decide +kernel)
  have lk_137 := hts (.constantLong RX9 137 (1332503584)) (by decide +kernel)
  have lk_139 := hts (.constantLong RX9 139 (1298231915)) (by decide +kernel)
  have lk_141 := hts (.constantLong RX9 141 (35465196434036)) (by decide +kernel)
  refine lv_aload_n hx hb dX9_makeMould_0 rfl (lv_at hl 0 rfl) ?_
  refine lv_iconst (v := 0) hx hb dX9_makeMould_1 (by decide) ?_
  refine m_put hx hb hts hin hown hK hG 3 (by decide) lk_87 rfl rfl (mS_3 ad b I B 0) rfl rfl dX9_makeMould_2 (fun H locs hG => ?_)
  refine lv_aload_n hx hb dX9_makeMould_5 rfl (lv_at hl 0 rfl) ?_
  refine lv_bipush (v := 91) hx hb dX9_makeMould_6 (by decide) ?_
  refine m_callV (As := [.int 91]) (rest := []) (c_element l (va_up I 3 0) B V ([]) ([91]) 91 rfl nI_0.symm (fun i h => absurd h (Nat.not_lt_zero i)) (by first | decide | omega | (simp only [List.length_append, List.length_cons, List.length_nil]; omega))) ⟨hx, hb, hml, hown, hts⟩ (cwV 1 hts gX9_makeMould_X9_element rfl rfl rfl (by decide +kernel) ⟨by decide, by decide⟩) hK hG hA rfl hl.1 rfl (by decide) ⟨Nat.le_refl _, Nat.le_refl _⟩ dX9_makeMould_8 (fun r_9 I_1 B_2 V_3 H locs hp hG => ?_)
  obtain ⟨rfl, f_4, rfl, e1_9, e2_9, hf_4⟩ := hp
  rw [bx_uu] at e1_9
  subst e1_9 e2_9
  have hf_4 : MdF f_4 ([91]) := hf_4
  refine W.eq (g2 := F0 m 11 ls []) rfl ?_
  refine lv_aload_n hx hb dX9_makeMould_11 rfl (lv_at hl 0 rfl) ?_
  refine lv_sipush (v := 205) hx hb dX9_makeMould_12 (by decide) ?_
  refine m_callV (As := [.int 205]) (rest := []) (c_element l (va_up I 3 (nI ([91]).length)) B (va_up V 2 f_4) ([91]) ([91, 205]) 205 rfl (va_up_self _ _ _) hf_4 (by first | decide | omega | (simp only [List.length_append, List.length_cons, List.length_nil]; omega))) ⟨hx, hb, hml, hown, hts⟩ (cwV 1 hts gX9_makeMould_X9_element rfl rfl rfl (by decide +kernel) ⟨by decide, by decide⟩) hK hG hA rfl hl.1 rfl (by decide) ⟨Nat.le_refl _, Nat.le_refl _⟩ dX9_makeMould_15 (fun r_9 I_5 B_6 V_7 H locs hp hG => ?_)
  obtain ⟨rfl, f_8, rfl, e1_9, e2_9, hf_8⟩ := hp
  rw [bx_uu] at e1_9
  rw [bx_uu] at e2_9
  subst e1_9 e2_9
  have hf_8 : MdF f_8 ([91, 205]) := hf_8
  refine W.eq (g2 := F0 m 18 ls []) rfl ?_
  refine lv_aload_n hx hb dX9_makeMould_18 rfl (lv_at hl 0 rfl) ?_
  refine lv_bipush (v := 46) hx hb dX9_makeMould_19 (by decide) ?_
  refine m_callV (As := [.int 46]) (rest := []) (c_element l (va_up I 3 (nI ([91, 205]).length)) B (va_up V 2 f_8) ([91, 205]) ([91, 205, 46]) 46 rfl (va_up_self _ _ _) hf_8 (by first | decide | omega | (simp only [List.length_append, List.length_cons, List.length_nil]; omega))) ⟨hx, hb, hml, hown, hts⟩ (cwV 1 hts gX9_makeMould_X9_element rfl rfl rfl (by decide +kernel) ⟨by decide, by decide⟩) hK hG hA rfl hl.1 rfl (by decide) ⟨Nat.le_refl _, Nat.le_refl _⟩ dX9_makeMould_21 (fun r_9 I_9 B_10 V_11 H locs hp hG => ?_)
  obtain ⟨rfl, f_12, rfl, e1_9, e2_9, hf_12⟩ := hp
  rw [bx_uu] at e1_9
  rw [bx_uu] at e2_9
  subst e1_9 e2_9
  have hf_12 : MdF f_12 ([91, 205, 46]) := hf_12
  refine W.eq (g2 := F0 m 24 ls []) rfl ?_
  refine lv_aload_n hx hb dX9_makeMould_24 rfl (lv_at hl 0 rfl) ?_
  refine lv_sipush (v := 300) hx hb dX9_makeMould_25 (by decide) ?_
  refine m_callV (As := [.int 300]) (rest := []) (c_element l (va_up I 3 (nI ([91, 205, 46]).length)) B (va_up V 2 f_12) ([91, 205, 46]) ([91, 205, 46, 300]) 300 rfl (va_up_self _ _ _) hf_12 (by first | decide | omega | (simp only [List.length_append, List.length_cons, List.length_nil]; omega))) ⟨hx, hb, hml, hown, hts⟩ (cwV 1 hts gX9_makeMould_X9_element rfl rfl rfl (by decide +kernel) ⟨by decide, by decide⟩) hK hG hA rfl hl.1 rfl (by decide) ⟨Nat.le_refl _, Nat.le_refl _⟩ dX9_makeMould_28 (fun r_9 I_13 B_14 V_15 H locs hp hG => ?_)
  obtain ⟨rfl, f_16, rfl, e1_9, e2_9, hf_16⟩ := hp
  rw [bx_uu] at e1_9
  rw [bx_uu] at e2_9
  subst e1_9 e2_9
  have hf_16 : MdF f_16 ([91, 205, 46, 300]) := hf_16
  refine W.eq (g2 := F0 m 31 ls []) rfl ?_
  refine lv_aload_n hx hb dX9_makeMould_31 rfl (lv_at hl 0 rfl) ?_
  refine lv_ldc2 hx hb hown lk_121 dX9_makeMould_32 ?_
  refine m_callV (As := [.long 495486190376]) (rest := []) (c_literal l (va_up I 3 (nI ([91, 205, 46, 300]).length)) B (va_up V 2 f_16) ([91, 205, 46, 300]) ([91, 205, 46, 300, 115, 93, 71, 67, 40]) ([115, 93, 71, 67, 40]) 495486190376 (by decide +kernel) rfl (va_up_self _ _ _) hf_16 (by first | decide | omega | (simp only [List.length_append, List.length_cons, List.length_nil]; omega))) ⟨hx, hb, hml, hown, hts⟩ (cwV 1 hts gX9_makeMould_X9_literal rfl rfl rfl (by decide +kernel) ⟨by decide, by decide⟩) hK hG hA rfl hl.1 rfl (by decide) ⟨Nat.le_refl _, Nat.le_refl _⟩ dX9_makeMould_35 (fun r_9 I_17 B_18 V_19 H locs hp hG => ?_)
  obtain ⟨rfl, f_20, rfl, e1_9, e2_9, hf_20⟩ := hp
  rw [bx_uu] at e1_9
  rw [bx_uu] at e2_9
  subst e1_9 e2_9
  have hf_20 : MdF f_20 ([91, 205, 46, 300, 115, 93, 71, 67, 40]) := hf_20
  refine W.eq (g2 := F0 m 38 ls []) rfl ?_
  refine lv_aload_n hx hb dX9_makeMould_38 rfl (lv_at hl 0 rfl) ?_
  refine lv_sipush (v := 203) hx hb dX9_makeMould_39 (by decide) ?_
  refine m_callV (As := [.int 203]) (rest := []) (c_element l (va_up I 3 (nI ([91, 205, 46, 300, 115, 93, 71, 67, 40]).length)) B (va_up V 2 f_20) ([91, 205, 46, 300, 115, 93, 71, 67, 40]) ([91, 205, 46, 300, 115, 93, 71, 67, 40, 203]) 203 rfl (va_up_self _ _ _) hf_20 (by first | decide | omega | (simp only [List.length_append, List.length_cons, List.length_nil]; omega))) ⟨hx, hb, hml, hown, hts⟩ (cwV 1 hts gX9_makeMould_X9_element rfl rfl rfl (by decide +kernel) ⟨by decide, by decide⟩) hK hG hA rfl hl.1 rfl (by decide) ⟨Nat.le_refl _, Nat.le_refl _⟩ dX9_makeMould_42 (fun r_9 I_21 B_22 V_23 H locs hp hG => ?_)
  obtain ⟨rfl, f_24, rfl, e1_9, e2_9, hf_24⟩ := hp
  rw [bx_uu] at e1_9
  rw [bx_uu] at e2_9
  subst e1_9 e2_9
  have hf_24 : MdF f_24 ([91, 205, 46, 300, 115, 93, 71, 67, 40, 203]) := hf_24
  refine W.eq (g2 := F0 m 45 ls []) rfl ?_
  refine lv_aload_n hx hb dX9_makeMould_45 rfl (lv_at hl 0 rfl) ?_
  refine lv_ldc2 hx hb hown lk_123 dX9_makeMould_46 ?_
  refine m_callV (As := [.long 10528]) (rest := []) (c_literal l (va_up I 3 (nI ([91, 205, 46, 300, 115, 93, 71, 67, 40, 203]).length)) B (va_up V 2 f_24) ([91, 205, 46, 300, 115, 93, 71, 67, 40, 203]) ([91, 205, 46, 300, 115, 93, 71, 67, 40, 203, 41, 32]) ([41, 32]) 10528 (by decide +kernel) rfl (va_up_self _ _ _) hf_24 (by first | decide | omega | (simp only [List.length_append, List.length_cons, List.length_nil]; omega))) ⟨hx, hb, hml, hown, hts⟩ (cwV 1 hts gX9_makeMould_X9_literal rfl rfl rfl (by decide +kernel) ⟨by decide, by decide⟩) hK hG hA rfl hl.1 rfl (by decide) ⟨Nat.le_refl _, Nat.le_refl _⟩ dX9_makeMould_49 (fun r_9 I_25 B_26 V_27 H locs hp hG => ?_)
  obtain ⟨rfl, f_28, rfl, e1_9, e2_9, hf_28⟩ := hp
  rw [bx_uu] at e1_9
  rw [bx_uu] at e2_9
  subst e1_9 e2_9
  have hf_28 : MdF f_28 ([91, 205, 46, 300, 115, 93, 71, 67, 40, 203, 41, 32]) := hf_28
  refine W.eq (g2 := F0 m 52 ls []) rfl ?_
  refine lv_iload_n hx hb dX9_makeMould_52 rfl (lv_at hl 1 rfl) ?_
  refine lv_iconst (v := 1) hx hb dX9_makeMould_53 (by decide) ?_
  refine lv_icmp_gt (tgt := 63) hx hb dX9_makeMould_54 (by decide) (fun _ => ?_) (fun c_54 => absurd c_54 (by decide))
  refine lv_iload_n hx hb dX9_makeMould_63 rfl (lv_at hl 1 rfl) ?_
  refine lv_iconst (v := 1) hx hb dX9_makeMould_64 (by decide) ?_
  refine lv_icmp_ne (tgt := 99) hx hb dX9_makeMould_65 (by decide) (fun _ => ?_) (fun c_65 => absurd c_65 (by decide))
  refine lv_iload_n hx hb dX9_makeMould_99 rfl (lv_at hl 1 rfl) ?_
  refine lv_iconst (v := 2) hx hb dX9_makeMould_100 (by decide) ?_
  refine lv_icmp_ne (tgt := 111) hx hb dX9_makeMould_101 (by decide) (fun _ => ?_) (fun c_101 => absurd c_101 (by decide))
  refine lv_iload_n hx hb dX9_makeMould_111 rfl (lv_at hl 1 rfl) ?_
  refine lv_iconst (v := 3) hx hb dX9_makeMould_112 (by decide) ?_
  refine lv_icmp_ne (tgt := 123) hx hb dX9_makeMould_113 (by decide) (fun _ => ?_) (fun c_113 => absurd c_113 (by decide))
  refine lv_iload_n hx hb dX9_makeMould_123 rfl (lv_at hl 1 rfl) ?_
  refine lv_iconst (v := 2) hx hb dX9_makeMould_124 (by decide) ?_
  refine lv_icmp_eq (tgt := 133) hx hb dX9_makeMould_125 (by decide) (fun c_125 => absurd c_125 (by decide)) (fun _ => ?_)
  refine lv_iload_n hx hb dX9_makeMould_128 rfl (lv_at hl 1 rfl) ?_
  refine lv_iconst (v := 3) hx hb dX9_makeMould_129 (by decide) ?_
  refine lv_icmp_ne (tgt := 137) hx hb dX9_makeMould_130 (by decide) (fun _ => ?_) (fun c_130 => absurd c_130 (by decide))
  refine lv_iload_n hx hb dX9_makeMould_137 rfl (lv_at hl 1 rfl) ?_
  refine lv_iconst (v := 4) hx hb dX9_makeMould_138 (by decide) ?_
  refine lv_icmp_lt (tgt := 149) hx hb dX9_makeMould_139 (by decide) (fun c_139 => absurd c_139 (by decide)) (fun _ => ?_)
  refine lv_aload_n hx hb dX9_makeMould_142 rfl (lv_at hl 0 rfl) ?_
  refine lv_ldc2 hx hb hown lk_139 dX9_makeMould_143 ?_
  refine m_callV (As := [.long 1298231915]) (rest := []) (c_literal l (va_up I 3 (nI ([91, 205, 46, 300, 115, 93, 71, 67, 40, 203, 41, 32]).length)) B (va_up V 2 f_28) ([91, 205, 46, 300, 115, 93, 71, 67, 40, 203, 41, 32]) ([91, 205, 46, 300, 115, 93, 71, 67, 40, 203, 41, 32, 77, 97, 114, 107]) ([77, 97, 114, 107]) 1298231915 (by decide +kernel) rfl (va_up_self _ _ _) hf_28 (by first | decide | omega | (simp only [List.length_append, List.length_cons, List.length_nil]; omega))) ⟨hx, hb, hml, hown, hts⟩ (cwV 1 hts gX9_makeMould_X9_literal rfl rfl rfl (by decide +kernel) ⟨by decide, by decide⟩) hK hG hA rfl hl.1 rfl (by decide) ⟨Nat.le_refl _, Nat.le_refl _⟩ dX9_makeMould_146 (fun r_9 I_29 B_30 V_31 H locs hp hG => ?_)
  obtain ⟨rfl, f_32, rfl, e1_9, e2_9, hf_32⟩ := hp
  rw [bx_uu] at e1_9
  rw [bx_uu] at e2_9
  subst e1_9 e2_9
  have hf_32 : MdF f_32 ([91, 205, 46, 300, 115, 93, 71, 67, 40, 203, 41, 32, 77, 97, 114, 107]) := hf_32
  refine W.eq (g2 := F0 m 149 ls []) rfl ?_
  refine lv_iload_n hx hb dX9_makeMould_149 rfl (lv_at hl 1 rfl) ?_
  refine lv_iconst (v := 5) hx hb dX9_makeMould_150 (by decide) ?_
  refine lv_icmp_ne (tgt := 164) hx hb dX9_makeMould_151 (by decide) (fun c_151 => absurd c_151 (by decide)) (fun _ => ?_)
  refine lv_aload_n hx hb dX9_makeMould_154 rfl (lv_at hl 0 rfl) ?_
  refine lv_bipush (v := 32) hx hb dX9_makeMould_155 (by decide) ?_
  refine m_callV (As := [.int 32]) (rest := []) (c_element l (va_up I 3 (nI ([91, 205, 46, 300, 115, 93, 71, 67, 40, 203, 41, 32, 77, 97, 114, 107]).length)) B (va_up V 2 f_32) ([91, 205, 46, 300, 115, 93, 71, 67, 40, 203, 41, 32, 77, 97, 114, 107]) ([91, 205, 46, 300, 115, 93, 71, 67, 40, 203, 41, 32, 77, 97, 114, 107, 32]) 32 rfl (va_up_self _ _ _) hf_32 (by first | decide | omega | (simp only [List.length_append, List.length_cons, List.length_nil]; omega))) ⟨hx, hb, hml, hown, hts⟩ (cwV 1 hts gX9_makeMould_X9_element rfl rfl rfl (by decide +kernel) ⟨by decide, by decide⟩) hK hG hA rfl hl.1 rfl (by decide) ⟨Nat.le_refl _, Nat.le_refl _⟩ dX9_makeMould_157 (fun r_9 I_33 B_34 V_35 H locs hp hG => ?_)
  obtain ⟨rfl, f_36, rfl, e1_9, e2_9, hf_36⟩ := hp
  rw [bx_uu] at e1_9
  rw [bx_uu] at e2_9
  subst e1_9 e2_9
  have hf_36 : MdF f_36 ([91, 205, 46, 300, 115, 93, 71, 67, 40, 203, 41, 32, 77, 97, 114, 107, 32]) := hf_36
  refine W.eq (g2 := F0 m 160 ls []) rfl ?_
  refine lv_aload_n hx hb dX9_makeMould_160 rfl (lv_at hl 0 rfl) ?_
  refine m_callV (As := []) (rest := []) (c_tookElements l (va_up I 3 (nI ([91, 205, 46, 300, 115, 93, 71, 67, 40, 203, 41, 32, 77, 97, 114, 107, 32]).length)) B (va_up V 2 f_36) ([91, 205, 46, 300, 115, 93, 71, 67, 40, 203, 41, 32, 77, 97, 114, 107, 32]) ([91, 205, 46, 300, 115, 93, 71, 67, 40, 203, 41, 32, 77, 97, 114, 107, 32, 204, 46, 300, 109, 115]) rfl (va_up_self _ _ _) hf_36 (by first | decide | omega | (simp only [List.length_append, List.length_cons, List.length_nil]; omega))) ⟨hx, hb, hml, hown, hts⟩ (cwV 0 hts gX9_makeMould_X9_tookElements rfl rfl rfl (by decide +kernel) ⟨by decide, by decide⟩) hK hG hA rfl hl.1 rfl (by decide) ⟨Nat.le_refl _, Nat.le_refl _⟩ dX9_makeMould_161 (fun r_9 I_37 B_38 V_39 H locs hp hG => ?_)
  obtain ⟨rfl, f_40, rfl, e1_9, e2_9, hf_40⟩ := hp
  rw [bx_uu] at e1_9
  rw [bx_uu] at e2_9
  subst e1_9 e2_9
  have hf_40 : MdF f_40 ([91, 205, 46, 300, 115, 93, 71, 67, 40, 203, 41, 32, 77, 97, 114, 107, 32, 204, 46, 300, 109, 115]) := hf_40
  refine W.eq (g2 := F0 m 164 ls []) rfl ?_
  refine lv_iload_n hx hb dX9_makeMould_164 rfl (lv_at hl 1 rfl) ?_
  refine lv_bipush (v := 6) hx hb dX9_makeMould_165 (by decide) ?_
  refine lv_icmp_ne (tgt := 177) hx hb dX9_makeMould_167 (by decide) (fun _ => ?_) (fun c_167 => absurd c_167 (by decide))
  exact W.vret hx hb hr (fun t ht hW => m_end hAe hG (⟨rfl, _, rfl, rfl, rfl, hf_40⟩) ht) (m_locs hG) dX9_makeMould_177
def mo_6 (kk ca : Int32) : List Int32 := [91, 205, 46, 300, 115, 93, 71, 67, 40, 203, 41, 32, 77, 97, 114, 107, 32, 65, 98, 111, 114, 116]
set_option maxHeartbeats 4000000 in
set_option maxRecDepth 100000 in
/-- the mould of shape 6 -/
theorem c_makeMould_6 (l : Launch) (I : Nat → Int32) (B : Nat → Int64) (V : Nat → Nat → Int32) (kk ca : Int32) : CM l yX9_makeMould wsX9_makeMould 3 I B V (fun a_9 => [.ref a_9, .int 6, .int kk, .int ca]) (mdP I B V (mo_6 kk ca)) := by
  refine CM.ofW (cc := cX9_makeMould) (maxL := 4) (ret := none) (by decide) rfl rfl (fun _ => Nat.le_of_ble_eq_true rfl) ?_
  intro p e s m args below meth c D Y ad n b σ A ls hAe hx hb hr hml hts hown hlocks hK hA hG hl
  have hin : ∀ w ∈ wsX90, w ∈ wsX9_makeMould := by decide +kernel
  have hl : lv_has ls 4 [(0, .ref (ad b)), (1, .int 6), (2, .int kk), (3, .int ca)] := hl
  have hpl := pauseL_len kk ca
  have lk_87 := hts (.fieldLink RX9 87 "PauseLogModel" "mouldLong" "I") (by decide +kernel)
  have lk_121 := hts (.constantLong RX9 121 (495486190376)) (by decide +kernel)
  have lk_123 := hts (.constantLong RX9 123 (10528)) (by decide +kernel)
  have lk_135 := hts (.constantLong RX9 135 (298037112352)) (by decide +kernel)
  have lk_137 := hts (.constantLong RX9 137 (1332503584)) (by decide +kernel)
  have lk_139 := hts (.constantLong RX9 139 (1298231915)) (by decide +kernel)
  have lk_141 := hts (.constantLong RX9 141 (35465196434036)) (by decide +kernel)
  refine lv_aload_n hx hb dX9_makeMould_0 rfl (lv_at hl 0 rfl) ?_
  refine lv_iconst (v := 0) hx hb dX9_makeMould_1 (by decide) ?_
  refine m_put hx hb hts hin hown hK hG 3 (by decide) lk_87 rfl rfl (mS_3 ad b I B 0) rfl rfl dX9_makeMould_2 (fun H locs hG => ?_)
  refine lv_aload_n hx hb dX9_makeMould_5 rfl (lv_at hl 0 rfl) ?_
  refine lv_bipush (v := 91) hx hb dX9_makeMould_6 (by decide) ?_
  refine m_callV (As := [.int 91]) (rest := []) (c_element l (va_up I 3 0) B V ([]) ([91]) 91 rfl nI_0.symm (fun i h => absurd h (Nat.not_lt_zero i)) (by first | decide | omega | (simp only [List.length_append, List.length_cons, List.length_nil]; omega))) ⟨hx, hb, hml, hown, hts⟩ (cwV 1 hts gX9_makeMould_X9_element rfl rfl rfl (by decide +kernel) ⟨by decide, by decide⟩) hK hG hA rfl hl.1 rfl (by decide) ⟨Nat.le_refl _, Nat.le_refl _⟩ dX9_makeMould_8 (fun r_9 I_1 B_2 V_3 H locs hp hG => ?_)
  obtain ⟨rfl, f_4, rfl, e1_9, e2_9, hf_4⟩ := hp
  rw [bx_uu] at e1_9
  subst e1_9 e2_9
  have hf_4 : MdF f_4 ([91]) := hf_4
  refine W.eq (g2 := F0 m 11 ls []) rfl ?_
  refine lv_aload_n hx hb dX9_makeMould_11 rfl (lv_at hl 0 rfl) ?_
  refine lv_sipush (v := 205) hx hb dX9_makeMould_12 (by decide) ?_
  refine m_callV (As := [.int 205]) (rest := []) (c_element l (va_up I 3 (nI ([91]).length)) B (va_up V 2 f_4) ([91]) ([91, 205]) 205 rfl (va_up_self _ _ _) hf_4 (by first | decide | omega | (simp only [List.length_append, List.length_cons, List.length_nil]; omega))) ⟨hx, hb, hml, hown, hts⟩ (cwV 1 hts gX9_makeMould_X9_element rfl rfl rfl (by decide +kernel) ⟨by decide, by decide⟩) hK hG hA rfl hl.1 rfl (by decide) ⟨Nat.le_refl _, Nat.le_refl _⟩ dX9_makeMould_15 (fun r_9 I_5 B_6 V_7 H locs hp hG => ?_)
  obtain ⟨rfl, f_8, rfl, e1_9, e2_9, hf_8⟩ := hp
  rw [bx_uu] at e1_9
  rw [bx_uu] at e2_9
  subst e1_9 e2_9
  have hf_8 : MdF f_8 ([91, 205]) := hf_8
  refine W.eq (g2 := F0 m 18 ls []) rfl ?_
  refine lv_aload_n hx hb dX9_makeMould_18 rfl (lv_at hl 0 rfl) ?_
  refine lv_bipush (v := 46) hx hb dX9_makeMould_19 (by decide) ?_
  refine m_callV (As := [.int 46]) (rest := []) (c_element l (va_up I 3 (nI ([91, 205]).length)) B (va_up V 2 f_8) ([91, 205]) ([91, 205, 46]) 46 rfl (va_up_self _ _ _) hf_8 (by first | decide | omega | (simp only [List.length_append, List.length_cons, List.length_nil]; omega))) ⟨hx, hb, hml, hown, hts⟩ (cwV 1 hts gX9_makeMould_X9_element rfl rfl rfl (by decide +kernel) ⟨by decide, by decide⟩) hK hG hA rfl hl.1 rfl (by decide) ⟨Nat.le_refl _, Nat.le_refl _⟩ dX9_makeMould_21 (fun r_9 I_9 B_10 V_11 H locs hp hG => ?_)
  obtain ⟨rfl, f_12, rfl, e1_9, e2_9, hf_12⟩ := hp
  rw [bx_uu] at e1_9
  rw [bx_uu] at e2_9
  subst e1_9 e2_9
  have hf_12 : MdF f_12 ([91, 205, 46]) := hf_12
  refine W.eq (g2 := F0 m 24 ls []) rfl ?_
  refine lv_aload_n hx hb dX9_makeMould_24 rfl (lv_at hl 0 rfl) ?_
  refine lv_sipush (v := 300) hx hb dX9_makeMould_25 (by decide) ?_
  refine m_callV (As := [.int 300]) (rest := []) (c_element l (va_up I 3 (nI ([91, 205, 46]).length)) B (va_up V 2 f_12) ([91, 205, 46]) ([91, 205, 46, 300]) 300 rfl (va_up_self _ _ _) hf_12 (by first | decide | omega | (simp only [List.length_append, List.length_cons, List.length_nil]; omega))) ⟨hx, hb, hml, hown, hts⟩ (cwV 1 hts gX9_makeMould_X9_element rfl rfl rfl (by decide +kernel) ⟨by decide, by decide⟩) hK hG hA rfl hl.1 rfl (by decide) ⟨Nat.le_refl _, Nat.le_refl _⟩ dX9_makeMould_28 (fun r_9 I_13 B_14 V_15 H locs hp hG => ?_)
  obtain ⟨rfl, f_16, rfl, e1_9, e2_9, hf_16⟩ := hp
  rw [bx_uu] at e1_9
  rw [bx_uu] at e2_9
  subst e1_9 e2_9
  have hf_16 : MdF f_16 ([91, 205, 46, 300]) := hf_16
  refine W.eq (g2 := F0 m 31 ls []) rfl ?_
  refine lv_aload_n hx hb dX9_makeMould_31 rfl (lv_at hl 0 rfl) ?_
  refine lv_ldc2 hx hb hown lk_121 dX9_makeMould_32 ?_
  refine m_callV (As := [.long 495486190376]) (rest := []) (c_literal l (va_up I 3 (nI ([91, 205, 46, 300]).length)) B (va_up V 2 f_16) ([91, 205, 46, 300]) ([91, 205, 46, 300, 115, 93, 71, 67, 40]) ([115, 93, 71, 67, 40]) 495486190376 (by decide +kernel) rfl (va_up_self _ _ _) hf_16 (by first | decide | omega | (simp only [List.length_append, List.length_cons, List.length_nil]; omega))) ⟨hx, hb, hml, hown, hts⟩ (cwV 1 hts gX9_makeMould_X9_literal rfl rfl rfl (by decide +kernel) ⟨by decide, by decide⟩) hK hG hA rfl hl.1 rfl (by decide) ⟨Nat.le_refl _, Nat.le_refl _⟩ dX9_makeMould_35 (fun r_9 I_17 B_18 V_19 H locs hp hG => ?_)
  obtain ⟨rfl, f_20, rfl, e1_9, e2_9, hf_20⟩ := hp
  rw [bx_uu] at e1_9
  rw [bx_uu] at e2_9
  subst e1_9 e2_9
  have hf_20 : MdF f_20 ([91, 205, 46, 300, 115, 93, 71, 67, 40]) := hf_20
  refine W.eq (g2 := F0 m 38 ls []) rfl ?_
  refine lv_aload_n hx hb dX9_makeMould_38 rfl (lv_at hl 0 rfl) ?_
  refine lv_sipush (v := 203) hx hb dX9_makeMould_39 (by decide) ?_
  refine m_callV (As := [.int 203]) (rest := []) (c_element l (va_up I 3 (nI ([91, 205, 46, 300, 115, 93, 71, 67, 40]).length)) B (va_up V 2 f_20) ([91, 205, 46, 300, 115, 93, 71, 67, 40]) ([91, 205, 46, 300, 115, 93, 71, 67, 40, 203]) 203 rfl (va_up_self _ _ _) hf_20 (by first | decide | omega | (simp only [List.length_append, List.length_cons, List.length_nil]; omega))) ⟨hx, hb, hml, hown, hts⟩ (cwV 1 hts gX9_makeMould_X9_element rfl rfl rfl (by decide +kernel) ⟨by decide, by decide⟩) hK hG hA rfl hl.1 rfl (by decide) ⟨Nat.le_refl _, Nat.le_refl _⟩ dX9_makeMould_42 (fun r_9 I_21 B_22 V_23 H locs hp hG => ?_)
  obtain ⟨rfl, f_24, rfl, e1_9, e2_9, hf_24⟩ := hp
  rw [bx_uu] at e1_9
  rw [bx_uu] at e2_9
  subst e1_9 e2_9
  have hf_24 : MdF f_24 ([91, 205, 46, 300, 115, 93, 71, 67, 40, 203]) := hf_24
  refine W.eq (g2 := F0 m 45 ls []) rfl ?_
  refine lv_aload_n hx hb dX9_makeMould_45 rfl (lv_at hl 0 rfl) ?_
  refine lv_ldc2 hx hb hown lk_123 dX9_makeMould_46 ?_
  refine m_callV (As := [.long 10528]) (rest := []) (c_literal l (va_up I 3 (nI ([91, 205, 46, 300, 115, 93, 71, 67, 40, 203]).length)) B (va_up V 2 f_24) ([91, 205, 46, 300, 115, 93, 71, 67, 40, 203]) ([91, 205, 46, 300, 115, 93, 71, 67, 40, 203, 41, 32]) ([41, 32]) 10528 (by decide +kernel) rfl (va_up_self _ _ _) hf_24 (by first | decide | omega | (simp only [List.length_append, List.length_cons, List.length_nil]; omega))) ⟨hx, hb, hml, hown, hts⟩ (cwV 1 hts gX9_makeMould_X9_literal rfl rfl rfl (by decide +kernel) ⟨by decide, by decide⟩) hK hG hA rfl hl.1 rfl (by decide) ⟨Nat.le_refl _, Nat.le_refl _⟩ dX9_makeMould_49 (fun r_9 I_25 B_26 V_27 H locs hp hG => ?_)
  obtain ⟨rfl, f_28, rfl, e1_9, e2_9, hf_28⟩ := hp
  rw [bx_uu] at e1_9
  rw [bx_uu] at e2_9
  subst e1_9 e2_9
  have hf_28 : MdF f_28 ([91, 205, 46, 300, 115, 93, 71, 67, 40, 203, 41, 32]) := hf_28
  refine W.eq (g2 := F0 m 52 ls []) rfl ?_
  refine lv_iload_n hx hb dX9_makeMould_52 rfl (lv_at hl 1 rfl) ?_
  refine lv_iconst (v := 1) hx hb dX9_makeMould_53 (by decide) ?_
  refine lv_icmp_gt (tgt := 63) hx hb dX9_makeMould_54 (by decide) (fun _ => ?_) (fun c_54 => absurd c_54 (by decide))
  refine lv_iload_n hx hb dX9_makeMould_63 rfl (lv_at hl 1 rfl) ?_
  refine lv_iconst (v := 1) hx hb dX9_makeMould_64 (by decide) ?_
  refine lv_icmp_ne (tgt := 99) hx hb dX9_makeMould_65 (by decide) (fun _ => ?_) (fun c_65 => absurd c_65 (by decide))
  refine lv_iload_n hx hb dX9_makeMould_99 rfl (lv_at hl 1 rfl) ?_
  refine lv_iconst (v := 2) hx hb dX9_makeMould_100 (by decide) ?_
  refine lv_icmp_ne (tgt := 111) hx hb dX9_makeMould_101 (by decide) (fun _ => ?_) (fun c_101 => absurd c_101 (by decide))
  refine lv_iload_n hx hb dX9_makeMould_111 rfl (lv_at hl 1 rfl) ?_
  refine lv_iconst (v := 3) hx hb dX9_makeMould_112 (by decide) ?_
  refine lv_icmp_ne (tgt := 123) hx hb dX9_makeMould_113 (by decide) (fun _ => ?_) (fun c_113 => absurd c_113 (by decide))
  refine lv_iload_n hx hb dX9_makeMould_123 rfl (lv_at hl 1 rfl) ?_
  refine lv_iconst (v := 2) hx hb dX9_makeMould_124 (by decide) ?_
  refine lv_icmp_eq (tgt := 133) hx hb dX9_makeMould_125 (by decide) (fun c_125 => absurd c_125 (by decide)) (fun _ => ?_)
  refine lv_iload_n hx hb dX9_makeMould_128 rfl (lv_at hl 1 rfl) ?_
  refine lv_iconst (v := 3) hx hb dX9_makeMould_129 (by decide) ?_
  refine lv_icmp_ne (tgt := 137) hx hb dX9_makeMould_130 (by decide) (fun _ => ?_) (fun c_130 => absurd c_130 (by decide))
  refine lv_iload_n hx hb dX9_makeMould_137 rfl (lv_at hl 1 rfl) ?_
  refine lv_iconst (v := 4) hx hb dX9_makeMould_138 (by decide) ?_
  refine lv_icmp_lt (tgt := 149) hx hb dX9_makeMould_139 (by decide) (fun c_139 => absurd c_139 (by decide)) (fun _ => ?_)
  refine lv_aload_n hx hb dX9_makeMould_142 rfl (lv_at hl 0 rfl) ?_
  refine lv_ldc2 hx hb hown lk_139 dX9_makeMould_143 ?_
  refine m_callV (As := [.long 1298231915]) (rest := []) (c_literal l (va_up I 3 (nI ([91, 205, 46, 300, 115, 93, 71, 67, 40, 203, 41, 32]).length)) B (va_up V 2 f_28) ([91, 205, 46, 300, 115, 93, 71, 67, 40, 203, 41, 32]) ([91, 205, 46, 300, 115, 93, 71, 67, 40, 203, 41, 32, 77, 97, 114, 107]) ([77, 97, 114, 107]) 1298231915 (by decide +kernel) rfl (va_up_self _ _ _) hf_28 (by first | decide | omega | (simp only [List.length_append, List.length_cons, List.length_nil]; omega))) ⟨hx, hb, hml, hown, hts⟩ (cwV 1 hts gX9_makeMould_X9_literal rfl rfl rfl (by decide +kernel) ⟨by decide, by decide⟩) hK hG hA rfl hl.1 rfl (by decide) ⟨Nat.le_refl _, Nat.le_refl _⟩ dX9_makeMould_146 (fun r_9 I_29 B_30 V_31 H locs hp hG => ?_)
  obtain ⟨rfl, f_32, rfl, e1_9, e2_9, hf_32⟩ := hp
  rw [bx_uu] at e1_9
  rw [bx_uu] at e2_9
  subst e1_9 e2_9
  have hf_32 : MdF f_32 ([91, 205, 46, 300, 115, 93, 71, 67, 40, 203, 41, 32, 77, 97, 114, 107]) := hf_32
  refine W.eq (g2 := F0 m 149 ls []) rfl ?_
  refine lv_iload_n hx hb dX9_makeMould_149 rfl (lv_at hl 1 rfl) ?_
  refine lv_iconst (v := 5) hx hb dX9_makeMould_150 (by decide) ?_
  refine lv_icmp_ne (tgt := 164) hx hb dX9_makeMould_151 (by decide) (fun _ => ?_) (fun c_151 => absurd c_151 (by decide))
  refine lv_iload_n hx hb dX9_makeMould_164 rfl (lv_at hl 1 rfl) ?_
  refine lv_bipush (v := 6) hx hb dX9_makeMould_165 (by decide) ?_
  refine lv_icmp_ne (tgt := 177) hx hb dX9_makeMould_167 (by decide) (fun c_167 => absurd c_167 (by decide)) (fun _ => ?_)
  refine lv_aload_n hx hb dX9_makeMould_170 rfl (lv_at hl 0 rfl) ?_
  refine lv_ldc2 hx hb hown lk_141 dX9_makeMould_171 ?_
  refine m_callV (As := [.long 35465196434036]) (rest := []) (c_literal l (va_up I 3 (nI ([91, 205, 46, 300, 115, 93, 71, 67, 40, 203, 41, 32, 77, 97, 114, 107]).length)) B (va_up V 2 f_32) ([91, 205, 46, 300, 115, 93, 71, 67, 40, 203, 41, 32, 77, 97, 114, 107]) ([91, 205, 46, 300, 115, 93, 71, 67, 40, 203, 41, 32, 77, 97, 114, 107, 32, 65, 98, 111, 114, 116]) ([32, 65, 98, 111, 114, 116]) 35465196434036 (by decide +kernel) rfl (va_up_self _ _ _) hf_32 (by first | decide | omega | (simp only [List.length_append, List.length_cons, List.length_nil]; omega))) ⟨hx, hb, hml, hown, hts⟩ (cwV 1 hts gX9_makeMould_X9_literal rfl rfl rfl (by decide +kernel) ⟨by decide, by decide⟩) hK hG hA rfl hl.1 rfl (by decide) ⟨Nat.le_refl _, Nat.le_refl _⟩ dX9_makeMould_174 (fun r_9 I_33 B_34 V_35 H locs hp hG => ?_)
  obtain ⟨rfl, f_36, rfl, e1_9, e2_9, hf_36⟩ := hp
  rw [bx_uu] at e1_9
  rw [bx_uu] at e2_9
  subst e1_9 e2_9
  have hf_36 : MdF f_36 ([91, 205, 46, 300, 115, 93, 71, 67, 40, 203, 41, 32, 77, 97, 114, 107, 32, 65, 98, 111, 114, 116]) := hf_36
  refine W.eq (g2 := F0 m 177 ls []) rfl ?_
  exact W.vret hx hb hr (fun t ht hW => m_end hAe hG (⟨rfl, _, rfl, rfl, rfl, hf_36⟩) ht) (m_locs hG) dX9_makeMould_177
/-- the mould of shape s, kind k, cause c -/
def mouldOf (s : Nat) (k c : Int32) : List Int32 := match s with
  | 0 => mo_0 k c
  | 1 => mo_1 k c
  | 2 => mo_2 k c
  | 3 => mo_3 k c
  | 4 => mo_4 k c
  | 5 => mo_5 k c
  | _ => mo_6 k c
theorem c_makeMould (l : Launch) (I : Nat → Int32) (B : Nat → Int64) (V : Nat → Nat → Int32) (s : Nat) (hs : s ≤ 6) (k c : Int32) : CM l yX9_makeMould wsX9_makeMould 3 I B V (fun a_9 => [.ref a_9, .int (nI s), .int k, .int c]) (mdP I B V (mouldOf s k c)) := by
  match s, hs with
  | 0, _ => exact c_makeMould_0 l I B V k c
  | 1, _ => exact c_makeMould_1 l I B V k c
  | 2, _ => exact c_makeMould_2 l I B V k c
  | 3, _ => exact c_makeMould_3 l I B V k c
  | 4, _ => exact c_makeMould_4 l I B V k c
  | 5, _ => exact c_makeMould_5 l I B V k c
  | 6, _ => exact c_makeMould_6 l I B V k c
