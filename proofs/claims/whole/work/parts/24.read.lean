/-- a truth as an int -/
noncomputable def bI (q : Prop) : Int32 := @ite _ q (Classical.propDecidable q) 1 0
theorem bI_t {q : Prop} (h : q) : bI q = 1 := by unfold bI; exact if_pos h
theorem bI_f {q : Prop} (h : ¬ q) : bI q = 0 := by unfold bI; exact if_neg h
theorem bI_0 {q : Prop} (h : bI q = 0) : ¬ q := fun hq => by rw [bI_t hq] at h; exact absurd h (by decide)
theorem bI_n {q : Prop} (h : ¬ bI q = 0) : q := Classical.byContradiction fun hq => h (bI_f hq)
theorem bI_nar (q : Prop) : narrow .boolean (.int (bI q)) = .int (bI q) := by
  by_cases h : q
  · rw [bI_t h]; rfl
  · rw [bI_f h]; rfl
theorem bI_congr {q r : Prop} (h : q ↔ r) : bI q = bI r := by rw [propext h]
/-- an answer; nothing changes -/
abbrev pR (I : Nat → Int32) (B : Nat → Int64) (V : Nat → Nat → Int32) (P : Int32 → Prop) : Option Value → (Nat → Int32) → (Nat → Int64) → (Nat → Nat → Int32) → Prop := pI (fun x I' B' V' => P x ∧ I = I' ∧ B = B' ∧ V = V')
abbrev isDg (f : Nat → Int32) (nn a0 : Nat) : Prop := a0 < nn ∧ 48 ≤ f a0 ∧ f a0 ≤ 57
def rdD (f : Nat → Int32) (nn : Nat) : Nat → Nat → Int32 → Nat × Int32
  | 0, a0, v => (a0, v)
  | q + 1, a0, v => if isDg f nn a0 then rdD f nn q (a0 + 1) (10 * v + f a0 - 48) else (a0, v)
def psM (f : Nat → Int32) (nn : Nat) (x : Int32) (a0 : Nat) : Nat := if x = 300 then 3 else if a0 < nn ∧ f a0 = 48 then 1 else (x - 200).toNatClampNeg
/-- an element of a mould at a place of a text: behind what is passed; the number that it gives -/
def ps (f : Nat → Int32) (nn : Nat) (x : Int32) (a0 : Nat) : Nat × Option Int32 :=
  if x < 200 then (if a0 < nn ∧ f a0 = x then a0 + 1 else a0, none)
  else if x = 400 then (if a0 < nn ∧ (f a0 = 75 ∨ f a0 = 77) then a0 + 1 else a0, some (if a0 < nn ∧ f a0 = 77 then 1 else 0))
  else ((rdD f nn (psM f nn x a0) a0 0).1, some (rdD f nn (psM f nn x a0) a0 0).2)
/-- an element is of one of these kinds -/
def elOk (x : Int32) : Prop := x < 200 ∨ x = 300 ∨ x = 400 ∨ ∃ d, d ≤ 5 ∧ x = nI (200 + d)
theorem psM_le {f : Nat → Int32} {nn a0 : Nat} {x : Int32} (h : elOk x) (h1 : ¬ x < 200) (h2 : ¬ x = 400) : psM f nn x a0 ≤ 5 ∧ (¬ x = 300 → ¬ (a0 < nn ∧ f a0 = 48) → x - 200 = nI (psM f nn x a0)) := by
  unfold psM
  rcases h with h | h | h | ⟨d, hd, h⟩
  · exact absurd h h1
  · subst h; simp
  · exact absurd h h2
  · have e : x - 200 = nI d := by rw [h, show (200 : Int32) = nI 200 from rfl, pk_sub (by omega), Nat.add_sub_cancel_left]
    refine ⟨?_, fun q1 q2 => ?_⟩
    · split
      · omega
      · split
        · omega
        · rw [e, nI_clamp (by omega)]; exact hd
    · rw [if_neg q1, if_neg q2, e, nI_clamp (by omega)]

set_option maxHeartbeats 4000000 in
set_option maxRecDepth 100000 in
/-- a digit stands there -/
theorem c_digitAt (l : Launch) (I : Nat → Int32) (B : Nat → Int64) (V : Nat → Nat → Int32) (nn a0 : Nat) (h1 : I 1 = nI nn) (hn : nn ≤ 72) (ha : a0 < 2 ^ 30) : CM l yX9_digitAt wsX9_digitAt 0 I B V (fun a_9 => [.ref a_9, .int (nI a0)]) (pR I B V (fun x => x = bI (isDg (V 1) nn a0))) := by
  refine CM.ofW (cc := cX9_digitAt) (maxL := 2) (ret := (some .boolean)) (by decide) rfl rfl (fun _ => Nat.le_of_ble_eq_true rfl) ?_
  intro p e s m args below meth c D Y ad n b σ A ls hAe hx hb hr hml hts hown hlocks hK hA hG hl
  have hin : ∀ w ∈ wsX90, w ∈ wsX9_digitAt := by decide +kernel
  have hl : lv_has ls 2 [(0, .ref (ad b)), (1, .int (nI a0))] := hl
  have hnn : nn < 2 ^ 31 := by omega
  have ha2 : a0 < 2 ^ 31 := by omega
  have lk_7 := hts (.fieldLink RX9 7 "PauseLogModel" "pad" "[I") (by decide +kernel)
  have lk_143 := hts (.fieldLink RX9 143 "PauseLogModel" "padLong" "I") (by decide +kernel)
  refine lv_iload_n hx hb dX9_digitAt_0 rfl (lv_at hl 1 rfl) ?_
  refine lv_aload_n hx hb dX9_digitAt_1 rfl (lv_at hl 0 rfl) ?_
  refine m_get hx hb hts hin hown hK hG 1 (by decide) lk_143 rfl (.int (I 1)) rfl dX9_digitAt_2 ?_
  refine lv_icmp_ge (tgt := 34) hx hb dX9_digitAt_5 (by decide) (fun c_5 => ?_) (fun c_5 => ?_)
  · skip
    refine lv_iconst (v := 0) hx hb dX9_digitAt_34 (by decide) ?_
    exact W.zret (v := 0) hx hb hr rfl (fun t ht hW => m_end hAe hG (⟨_, rfl, ⟨(bI_f (by intro q; first | (rw [h1] at c_5; exact nI_ge q.1 hnn c_5) | exact Int32.not_lt.mpr q.2.1 c_16 | exact Int32.not_lt.mpr q.2.2 c_27)).symm, rfl, rfl, rfl⟩⟩) ht) (m_locs hG) dX9_digitAt_35
  · skip
    rw [h1] at c_5
    have hlt : a0 < nn := Nat.not_le.mp fun q => c_5 (nI_le q ha2)
    refine lv_aload_n hx hb dX9_digitAt_8 rfl (lv_at hl 0 rfl) ?_
    refine m_get hx hb hts hin hown hK hG 0 (by decide) lk_7 rfl (.ref (ad (b + 1))) rfl dX9_digitAt_9 ?_
    refine lv_iload_n hx hb dX9_digitAt_12 rfl (lv_at hl 1 rfl) ?_
    refine m_iaN hx hb hK hG (j := 1) (by decide) (by decide) rfl a0 rfl (by show a0 < 72; omega) dX9_digitAt_13 ?_
    refine lv_bipush (v := 48) hx hb dX9_digitAt_14 (by decide) ?_
    refine lv_icmp_lt (tgt := 34) hx hb dX9_digitAt_16 (by decide) (fun c_16 => ?_) (fun c_16 => ?_)
    · skip
      refine lv_iconst (v := 0) hx hb dX9_digitAt_34 (by decide) ?_
      exact W.zret (v := 0) hx hb hr rfl (fun t ht hW => m_end hAe hG (⟨_, rfl, ⟨(bI_f (by intro q; first | (rw [h1] at c_5; exact nI_ge q.1 hnn c_5) | exact Int32.not_lt.mpr q.2.1 c_16 | exact Int32.not_lt.mpr q.2.2 c_27)).symm, rfl, rfl, rfl⟩⟩) ht) (m_locs hG) dX9_digitAt_35
    · skip
      refine lv_aload_n hx hb dX9_digitAt_19 rfl (lv_at hl 0 rfl) ?_
      refine m_get hx hb hts hin hown hK hG 0 (by decide) lk_7 rfl (.ref (ad (b + 1))) rfl dX9_digitAt_20 ?_
      refine lv_iload_n hx hb dX9_digitAt_23 rfl (lv_at hl 1 rfl) ?_
      refine m_iaN hx hb hK hG (j := 1) (by decide) (by decide) rfl a0 rfl (by show a0 < 72; omega) dX9_digitAt_24 ?_
      refine lv_bipush (v := 57) hx hb dX9_digitAt_25 (by decide) ?_
      refine lv_icmp_gt (tgt := 34) hx hb dX9_digitAt_27 (by decide) (fun c_27 => ?_) (fun c_27 => ?_)
      · skip
        refine lv_iconst (v := 0) hx hb dX9_digitAt_34 (by decide) ?_
        exact W.zret (v := 0) hx hb hr rfl (fun t ht hW => m_end hAe hG (⟨_, rfl, ⟨(bI_f (by intro q; first | (rw [h1] at c_5; exact nI_ge q.1 hnn c_5) | exact Int32.not_lt.mpr q.2.1 c_16 | exact Int32.not_lt.mpr q.2.2 c_27)).symm, rfl, rfl, rfl⟩⟩) ht) (m_locs hG) dX9_digitAt_35
      · skip
        refine lv_iconst (v := 1) hx hb dX9_digitAt_30 (by decide) ?_
        refine lv_goto (tgt := 35) hx hb dX9_digitAt_31 (by decide) ?_
        exact W.zret (v := 1) hx hb hr rfl (fun t ht hW => m_end hAe hG (⟨_, rfl, ⟨(bI_t ⟨hlt, Int32.not_lt.mp c_16, Int32.not_lt.mp c_27⟩).symm, rfl, rfl, rfl⟩⟩) ht) (m_locs hG) dX9_digitAt_35
set_option maxHeartbeats 4000000 in
set_option maxRecDepth 100000 in
/-- a 0 stands there -/
theorem c_pad0 (l : Launch) (I : Nat → Int32) (B : Nat → Int64) (V : Nat → Nat → Int32) (nn a0 : Nat) (h1 : I 1 = nI nn) (hn : nn ≤ 72) (ha : a0 < 2 ^ 30) : CM l yX9_pad0 wsX9_pad0 0 I B V (fun a_9 => [.ref a_9, .int (nI a0)]) (pR I B V (fun x => x = bI (a0 < nn ∧ V 1 a0 = 48))) := by
  refine CM.ofW (cc := cX9_pad0) (maxL := 2) (ret := (some .boolean)) (by decide) rfl rfl (fun _ => Nat.le_of_ble_eq_true rfl) ?_
  intro p e s m args below meth c D Y ad n b σ A ls hAe hx hb hr hml hts hown hlocks hK hA hG hl
  have hin : ∀ w ∈ wsX90, w ∈ wsX9_pad0 := by decide +kernel
  have hl : lv_has ls 2 [(0, .ref (ad b)), (1, .int (nI a0))] := hl
  have hnn : nn < 2 ^ 31 := by omega
  have ha2 : a0 < 2 ^ 31 := by omega
  have lk_7 := hts (.fieldLink RX9 7 "PauseLogModel" "pad" "[I") (by decide +kernel)
  have lk_143 := hts (.fieldLink RX9 143 "PauseLogModel" "padLong" "I") (by decide +kernel)
  refine lv_iload_n hx hb dX9_pad0_0 rfl (lv_at hl 1 rfl) ?_
  refine lv_aload_n hx hb dX9_pad0_1 rfl (lv_at hl 0 rfl) ?_
  refine m_get hx hb hts hin hown hK hG 1 (by decide) lk_143 rfl (.int (I 1)) rfl dX9_pad0_2 ?_
  refine lv_icmp_ge (tgt := 23) hx hb dX9_pad0_5 (by decide) (fun c_5 => ?_) (fun c_5 => ?_)
  · skip
    refine lv_iconst (v := 0) hx hb dX9_pad0_23 (by decide) ?_
    exact W.zret (v := 0) hx hb hr rfl (fun t ht hW => m_end hAe hG (⟨_, rfl, ⟨(bI_f (by intro q; first | (rw [h1] at c_5; exact nI_ge q.1 hnn c_5) | exact c_16 q.2)).symm, rfl, rfl, rfl⟩⟩) ht) (m_locs hG) dX9_pad0_24
  · skip
    rw [h1] at c_5
    have hlt : a0 < nn := Nat.not_le.mp fun q => c_5 (nI_le q ha2)
    refine lv_aload_n hx hb dX9_pad0_8 rfl (lv_at hl 0 rfl) ?_
    refine m_get hx hb hts hin hown hK hG 0 (by decide) lk_7 rfl (.ref (ad (b + 1))) rfl dX9_pad0_9 ?_
    refine lv_iload_n hx hb dX9_pad0_12 rfl (lv_at hl 1 rfl) ?_
    refine m_iaN hx hb hK hG (j := 1) (by decide) (by decide) rfl a0 rfl (by show a0 < 72; omega) dX9_pad0_13 ?_
    refine lv_bipush (v := 48) hx hb dX9_pad0_14 (by decide) ?_
    refine lv_icmp_ne (tgt := 23) hx hb dX9_pad0_16 (by decide) (fun c_16 => ?_) (fun c_16 => ?_)
    · skip
      refine lv_iconst (v := 0) hx hb dX9_pad0_23 (by decide) ?_
      exact W.zret (v := 0) hx hb hr rfl (fun t ht hW => m_end hAe hG (⟨_, rfl, ⟨(bI_f (by intro q; first | (rw [h1] at c_5; exact nI_ge q.1 hnn c_5) | exact c_16 q.2)).symm, rfl, rfl, rfl⟩⟩) ht) (m_locs hG) dX9_pad0_24
    · skip
      refine lv_iconst (v := 1) hx hb dX9_pad0_19 (by decide) ?_
      refine lv_goto (tgt := 24) hx hb dX9_pad0_20 (by decide) ?_
      exact W.zret (v := 1) hx hb hr rfl (fun t ht hW => m_end hAe hG (⟨_, rfl, ⟨(bI_t ⟨hlt, c_16⟩).symm, rfl, rfl, rfl⟩⟩) ht) (m_locs hG) dX9_pad0_24
set_option maxHeartbeats 4000000 in
set_option maxRecDepth 100000 in
/-- an element of the mould -/
theorem c_pass (l : Launch) (I : Nat → Int32) (B : Nat → Int64) (V : Nat → Nat → Int32) (nn a0 k7 : Nat) (x : Int32) (h1 : I 1 = nI nn) (hn : nn ≤ 72) (ha : a0 ≤ nn) (h7 : I 7 = nI k7) (hk7 : k7 < 16) (hxo : elOk x) : CM l yX9_pass wsX9_pass 1 I B V (fun a_9 => [.ref a_9, .int x, .int (nI a0)]) (pI (fun y I' B' V' => y = nI (ps (V 1) nn x a0).1 ∧ B = B' ∧ ((ps (V 1) nn x a0).2 = none → I = I' ∧ V = V') ∧ ∀ v, (ps (V 1) nn x a0).2 = some v → I' = va_up I 7 (nI (k7 + 1)) ∧ V' = va_up V 4 (upd (V 4) k7 v))) := by
  refine CM.ofW (cc := cX9_pass) (maxL := 6) (ret := (some .int)) (by decide) rfl rfl (fun _ => Nat.le_of_ble_eq_true rfl) ?_
  intro p e s m args below meth c D Y ad n b σ A ls hAe hx hb hr hml hts hown hlocks hK hA hG hl
  have hin : ∀ w ∈ wsX90, w ∈ wsX9_pass := by decide +kernel
  have hl : lv_has ls 6 [(0, .ref (ad b)), (1, .int x), (2, .int (nI a0))] := hl
  have hnn : nn < 2 ^ 31 := by omega
  have ha2 : a0 < 2 ^ 31 := by omega
  have lk_7 := hts (.fieldLink RX9 7 "PauseLogModel" "pad" "[I") (by decide +kernel)
  have lk_19 := hts (.fieldLink RX9 19 "PauseLogModel" "number" "[I") (by decide +kernel)
  have lk_143 := hts (.fieldLink RX9 143 "PauseLogModel" "padLong" "I") (by decide +kernel)
  have lk_146 := hts (.fieldLink RX9 146 "PauseLogModel" "numbers" "I") (by decide +kernel)
  have loop : ¬ x < 200 → ¬ x = 400 → ∀ (M9 : Nat), M9 ≤ 5 → M9 = psM (V 1) nn x a0 → ∀ (q t0 : Nat) (v : Int32) (ls : Array Slot) (H : Heap) (locs : List Loc), q + t0 = M9 + a0 → a0 ≤ t0 → rdD (V 1) nn q t0 v = rdD (V 1) nn M9 a0 0 → gM D Y ad n A s.heap b σ I B V H locs →
      lv_has ls 6 [(3, .int (nI t0)), (5, .int v), (4, .int (nI M9)), (0, .ref (ad b)), (1, .int x), (2, .int (nI a0))] → W p l e (rmD 1) s m args below meth c H locs 0 0 (MQ below (mEnd D Y ad n b σ s.heap.size (pI (fun y I' B' V' => y = nI (ps (V 1) nn x a0).1 ∧ B = B' ∧ ((ps (V 1) nn x a0).2 = none → I = I' ∧ V = V') ∧ ∀ v, (ps (V 1) nn x a0).2 = some v → I' = va_up I 7 (nI (k7 + 1)) ∧ V' = va_up V 4 (upd (V 4) k7 v)))) args s 0 0 A) (F0 m 141 ls []) := by
    intro q1 q2 M9 hM5 hM9 q
    have hpsv : ∀ (t0 : Nat) (v : Int32), (t0, v) = rdD (V 1) nn M9 a0 0 → (ps (V 1) nn x a0) = (t0, some v) := by
      intro t0 v h
      simp only [ps, if_neg q1, if_neg q2]
      rw [← hM9, ← h]
    induction q with
    | zero =>
      intro t0 v ls H locs hq ht hrd hG hl
      have hps := hpsv t0 v hrd
      refine lv_iload_n hx hb dX9_pass_141 rfl (lv_at hl 0 rfl) ?_
      refine lv_iload_n hx hb dX9_pass_142 rfl (lv_at hl 5 rfl) ?_
      refine lv_isub hx hb dX9_pass_143 ?_
      refine lv_iload hx hb dX9_pass_144 (lv_at hl 2 rfl) ?_
      refine lv_icmp_ge (tgt := 180) hx hb dX9_pass_146 (by decide) (fun c_146 => ?_) (fun c_146 => ?_)
      · skip
        refine lv_aload_n hx hb dX9_pass_180 rfl (lv_at hl 3 rfl) ?_
        refine m_get hx hb hts hin hown hK hG 6 (by decide) lk_19 rfl (.ref (ad (b + 4))) rfl dX9_pass_181 ?_
        refine lv_aload_n hx hb dX9_pass_184 rfl (lv_at hl 3 rfl) ?_
        refine m_get hx hb hts hin hown hK hG 7 (by decide) lk_146 rfl (.int (I 7)) rfl dX9_pass_185 ?_
        refine lv_iload hx hb dX9_pass_188 (lv_at hl 1 rfl) ?_
        refine m_isN hx hb hK hG (j := 4) (by decide) (by decide) rfl k7 h7 (Nat.lt_of_lt_of_le hk7 (by decide)) dX9_pass_190 (fun H locs hG => ?_)
        refine lv_aload_n hx hb dX9_pass_191 rfl (lv_at hl 3 rfl) ?_
        refine lv_dup hx hb dX9_pass_192 rfl ?_
        refine m_get hx hb hts hin hown hK hG 7 (by decide) lk_146 rfl (.int (I 7)) rfl dX9_pass_193 ?_
        refine lv_iconst (v := 1) hx hb dX9_pass_196 (by decide) ?_
        refine lv_iadd hx hb dX9_pass_197 ?_
        refine m_put hx hb hts hin hown hK hG 7 (by decide) lk_146 rfl rfl (mS_7 ad b I B ((I 7) + 1)) rfl rfl dX9_pass_198 (fun H locs hG => ?_)
        refine lv_iload_n hx hb dX9_pass_201 rfl (lv_at hl 0 rfl) ?_
        exact W.iret (v := nI t0) hx hb hr (fun t ht hW => m_end hAe hG (⟨_, rfl, ⟨by rw [hps], rfl, fun h => by rw [hps] at h; cases h, fun v2 h => by rw [hps] at h; cases h; exact ⟨by rw [h7, nI_1], rfl⟩⟩⟩) ht) (m_locs hG) dX9_pass_202
      · skip
        exact absurd (by rw [pk_sub ht]; exact nI_le (by omega) (by omega)) c_146
    | succ q ih =>
      intro t0 v ls H locs hq ht hrd hG hl
      refine lv_iload_n hx hb dX9_pass_141 rfl (lv_at hl 0 rfl) ?_
      refine lv_iload_n hx hb dX9_pass_142 rfl (lv_at hl 5 rfl) ?_
      refine lv_isub hx hb dX9_pass_143 ?_
      refine lv_iload hx hb dX9_pass_144 (lv_at hl 2 rfl) ?_
      refine lv_icmp_ge (tgt := 180) hx hb dX9_pass_146 (by decide) (fun c_146 => ?_) (fun c_146 => ?_)
      · skip
        exact absurd (by rw [pk_sub ht] at c_146; exact c_146) (nI_ge (by omega) (by omega))
      · skip
        refine lv_aload_n hx hb dX9_pass_149 rfl (lv_at hl 3 rfl) ?_
        refine lv_iload_n hx hb dX9_pass_150 rfl (lv_at hl 0 rfl) ?_
        refine m_callV (As := [.int (nI t0)]) (rest := []) (c_digitAt l I B V nn t0 h1 hn (by omega)) ⟨hx, hb, hml, hown, hts⟩ (cwV 1 hts gX9_pass_X9_digitAt rfl rfl rfl (by decide +kernel) ⟨by decide, by decide⟩) hK hG hA rfl hl.1 rfl (by decide) ⟨Nat.le_refl _, Nat.le_refl _⟩ dX9_pass_151 (fun r_9 I_1 B_2 V_3 H locs hp hG => ?_)
        obtain ⟨x_4, rfl, ex_4, rfl, rfl, rfl⟩ := hp
        subst ex_4
        refine W.eq (g2 := F0 m 154 ls [.int (bI (isDg (V 1) nn t0))]) rfl ?_
        refine lv_if_eq (tgt := 180) hx hb dX9_pass_154 (by decide) (fun c_154 => ?_) (fun c_154 => ?_)
        · skip
          have hnd := bI_0 c_154
          have hps := hpsv t0 v (by rw [← hrd, rdD, if_neg hnd])
          refine lv_aload_n hx hb dX9_pass_180 rfl (lv_at hl 3 rfl) ?_
          refine m_get hx hb hts hin hown hK hG 6 (by decide) lk_19 rfl (.ref (ad (b + 4))) rfl dX9_pass_181 ?_
          refine lv_aload_n hx hb dX9_pass_184 rfl (lv_at hl 3 rfl) ?_
          refine m_get hx hb hts hin hown hK hG 7 (by decide) lk_146 rfl (.int (I 7)) rfl dX9_pass_185 ?_
          refine lv_iload hx hb dX9_pass_188 (lv_at hl 1 rfl) ?_
          refine m_isN hx hb hK hG (j := 4) (by decide) (by decide) rfl k7 h7 (Nat.lt_of_lt_of_le hk7 (by decide)) dX9_pass_190 (fun H locs hG => ?_)
          refine lv_aload_n hx hb dX9_pass_191 rfl (lv_at hl 3 rfl) ?_
          refine lv_dup hx hb dX9_pass_192 rfl ?_
          refine m_get hx hb hts hin hown hK hG 7 (by decide) lk_146 rfl (.int (I 7)) rfl dX9_pass_193 ?_
          refine lv_iconst (v := 1) hx hb dX9_pass_196 (by decide) ?_
          refine lv_iadd hx hb dX9_pass_197 ?_
          refine m_put hx hb hts hin hown hK hG 7 (by decide) lk_146 rfl rfl (mS_7 ad b I B ((I 7) + 1)) rfl rfl dX9_pass_198 (fun H locs hG => ?_)
          refine lv_iload_n hx hb dX9_pass_201 rfl (lv_at hl 0 rfl) ?_
          exact W.iret (v := nI t0) hx hb hr (fun t ht hW => m_end hAe hG (⟨_, rfl, ⟨by rw [hps], rfl, fun h => by rw [hps] at h; cases h, fun v2 h => by rw [hps] at h; cases h; exact ⟨by rw [h7, nI_1], rfl⟩⟩⟩) ht) (m_locs hG) dX9_pass_202
        · skip
          have hdg := bI_n c_154
          refine lv_bipush (v := 10) hx hb dX9_pass_157 (by decide) ?_
          refine lv_iload hx hb dX9_pass_159 (lv_at hl 1 rfl) ?_
          refine lv_imul hx hb dX9_pass_161 ?_
          refine lv_aload_n hx hb dX9_pass_162 rfl (lv_at hl 3 rfl) ?_
          refine m_get hx hb hts hin hown hK hG 0 (by decide) lk_7 rfl (.ref (ad (b + 1))) rfl dX9_pass_163 ?_
          refine lv_iload_n hx hb dX9_pass_166 rfl (lv_at hl 0 rfl) ?_
          refine m_iaN hx hb hK hG (j := 1) (by decide) (by decide) rfl t0 rfl (by show t0 < 72; have := hdg.1; omega) dX9_pass_167 ?_
          refine lv_iadd hx hb dX9_pass_168 ?_
          refine lv_bipush (v := 48) hx hb dX9_pass_169 (by decide) ?_
          refine lv_isub hx hb dX9_pass_171 ?_
          refine lv_istore (lv' := [(5, .int (((10 * v) + (V 1 t0)) - 48)), (3, .int (nI t0)), (4, .int (nI M9)), (0, .ref (ad b)), (1, .int x), (2, .int (nI a0))]) hx hb dX9_pass_172 hl (by decide) rfl (fun ls hl => ?_)
          refine lv_iinc (v := nI (t0 + 1)) (lv' := [(3, .int (nI (t0 + 1))), (5, .int (10 * v + V 1 t0 - 48)), (4, .int (nI M9)), (0, .ref (ad b)), (1, .int x), (2, .int (nI a0))]) hx hb dX9_pass_174 hl (k := 1) rfl (nI_1 t0) (by decide) rfl (fun ls hl => ?_)
          refine lv_goto (tgt := 141) hx hb dX9_pass_177 (by decide) ?_
          exact ih (t0 + 1) _ ls H locs (by omega) (by omega) (by rw [rdD, if_pos hdg] at hrd; exact hrd) hG hl
  -- body
  refine lv_iload_n hx hb dX9_pass_0 rfl (lv_at hl 2 rfl) ?_
  refine lv_istore_n (lv' := [(3, .int (nI a0)), (0, .ref (ad b)), (1, .int x), (2, .int (nI a0))]) hx hb dX9_pass_1 rfl hl (by decide) rfl (fun ls hl => ?_)
  refine lv_iload_n hx hb dX9_pass_2 rfl (lv_at hl 2 rfl) ?_
  refine lv_sipush (v := 200) hx hb dX9_pass_3 (by decide) ?_
  refine lv_icmp_ge (tgt := 35) hx hb dX9_pass_6 (by decide) (fun c_6 => ?_) (fun c_6 => ?_)
  · skip
    have c_6 : ¬ x < 200 := Int32.not_lt.mpr c_6
    refine lv_iload_n hx hb dX9_pass_35 rfl (lv_at hl 2 rfl) ?_
    refine lv_sipush (v := 400) hx hb dX9_pass_36 (by decide) ?_
    refine lv_icmp_ne (tgt := 108) hx hb dX9_pass_39 (by decide) (fun c_39 => ?_) (fun c_39 => ?_)
    · skip
      refine lv_iload_n hx hb dX9_pass_108 rfl (lv_at hl 2 rfl) ?_
      refine lv_sipush (v := 300) hx hb dX9_pass_109 (by decide) ?_
      refine lv_icmp_ne (tgt := 119) hx hb dX9_pass_112 (by decide) (fun c_112 => ?_) (fun c_112 => ?_)
      · skip
        refine lv_aload_n hx hb dX9_pass_119 rfl (lv_at hl 1 rfl) ?_
        refine lv_iload_n hx hb dX9_pass_120 rfl (lv_at hl 3 rfl) ?_
        refine m_callV (As := [.int (nI a0)]) (rest := []) (c_pad0 l I B V nn a0 h1 hn (by omega)) ⟨hx, hb, hml, hown, hts⟩ (cwV 1 hts gX9_pass_X9_pad0 rfl rfl rfl (by decide +kernel) ⟨by decide, by decide⟩) hK hG hA rfl hl.1 rfl (by decide) ⟨Nat.le_refl _, Nat.le_refl _⟩ dX9_pass_121 (fun r_9 I_5 B_6 V_7 H locs hp hG => ?_)
        obtain ⟨x_8, rfl, ex_8, rfl, rfl, rfl⟩ := hp
        subst ex_8
        refine W.eq (g2 := F0 m 124 ls [.int (bI (a0 < nn ∧ V 1 a0 = 48))]) rfl ?_
        refine lv_if_eq (tgt := 131) hx hb dX9_pass_124 (by decide) (fun c_124 => ?_) (fun c_124 => ?_)
        · skip
          refine lv_iload_n hx hb dX9_pass_131 rfl (lv_at hl 2 rfl) ?_
          refine lv_sipush (v := 200) hx hb dX9_pass_132 (by decide) ?_
          refine lv_isub hx hb dX9_pass_135 ?_
          refine W.eq (g2 := F0 m 136 ls [.int (nI (psM (V 1) nn x a0))]) (by rw [show (x - 200 : Int32) = nI (psM (V 1) nn x a0) from by first | exact (psM_le hxo c_6 c_39).2 c_112 (bI_0 c_124) | (unfold psM; rw [if_pos c_112]; rfl) | (unfold psM; rw [if_neg c_112, if_pos (bI_n c_124)]; rfl)]) ?_
          refine lv_istore (lv' := [(4, .int (nI (psM (V 1) nn x a0))), (3, .int (nI a0)), (0, .ref (ad b)), (1, .int x), (2, .int (nI a0))]) hx hb dX9_pass_136 hl (by decide) rfl (fun ls hl => ?_)
          refine lv_iconst (v := 0) hx hb dX9_pass_138 (by decide) ?_
          refine lv_istore (lv' := [(5, .int 0), (4, .int (nI (psM (V 1) nn x a0))), (3, .int (nI a0)), (0, .ref (ad b)), (1, .int x), (2, .int (nI a0))]) hx hb dX9_pass_139 hl (by decide) rfl (fun ls hl => ?_)
          exact loop c_6 c_39 _ (psM_le hxo c_6 c_39).1 rfl _ a0 0 ls H locs rfl (Nat.le_refl _) rfl hG (lv_sub hl [2, 0, 1, 3, 4, 5] rfl)
        · skip
          refine lv_iconst (v := 1) hx hb dX9_pass_127 (by decide) ?_
          refine lv_goto (tgt := 136) hx hb dX9_pass_128 (by decide) ?_
          refine W.eq (g2 := F0 m 136 ls [.int (nI (psM (V 1) nn x a0))]) (by rw [show (1 : Int32) = nI (psM (V 1) nn x a0) from by first | exact (psM_le hxo c_6 c_39).2 c_112 (bI_0 c_124) | (unfold psM; rw [if_pos c_112]; rfl) | (unfold psM; rw [if_neg c_112, if_pos (bI_n c_124)]; rfl)]) ?_
          refine lv_istore (lv' := [(4, .int (nI (psM (V 1) nn x a0))), (3, .int (nI a0)), (0, .ref (ad b)), (1, .int x), (2, .int (nI a0))]) hx hb dX9_pass_136 hl (by decide) rfl (fun ls hl => ?_)
          refine lv_iconst (v := 0) hx hb dX9_pass_138 (by decide) ?_
          refine lv_istore (lv' := [(5, .int 0), (4, .int (nI (psM (V 1) nn x a0))), (3, .int (nI a0)), (0, .ref (ad b)), (1, .int x), (2, .int (nI a0))]) hx hb dX9_pass_139 hl (by decide) rfl (fun ls hl => ?_)
          exact loop c_6 c_39 _ (psM_le hxo c_6 c_39).1 rfl _ a0 0 ls H locs rfl (Nat.le_refl _) rfl hG (lv_sub hl [2, 0, 1, 3, 4, 5] rfl)
      · skip
        refine lv_iconst (v := 3) hx hb dX9_pass_115 (by decide) ?_
        refine lv_goto (tgt := 136) hx hb dX9_pass_116 (by decide) ?_
        refine W.eq (g2 := F0 m 136 ls [.int (nI (psM (V 1) nn x a0))]) (by rw [show (3 : Int32) = nI (psM (V 1) nn x a0) from by first | exact (psM_le hxo c_6 c_39).2 c_112 (bI_0 c_124) | (unfold psM; rw [if_pos c_112]; rfl) | (unfold psM; rw [if_neg c_112, if_pos (bI_n c_124)]; rfl)]) ?_
        refine lv_istore (lv' := [(4, .int (nI (psM (V 1) nn x a0))), (3, .int (nI a0)), (0, .ref (ad b)), (1, .int x), (2, .int (nI a0))]) hx hb dX9_pass_136 hl (by decide) rfl (fun ls hl => ?_)
        refine lv_iconst (v := 0) hx hb dX9_pass_138 (by decide) ?_
        refine lv_istore (lv' := [(5, .int 0), (4, .int (nI (psM (V 1) nn x a0))), (3, .int (nI a0)), (0, .ref (ad b)), (1, .int x), (2, .int (nI a0))]) hx hb dX9_pass_139 hl (by decide) rfl (fun ls hl => ?_)
        exact loop c_6 c_39 _ (psM_le hxo c_6 c_39).1 rfl _ a0 0 ls H locs rfl (Nat.le_refl _) rfl hG (lv_sub hl [2, 0, 1, 3, 4, 5] rfl)
    · skip
      refine lv_iload_n hx hb dX9_pass_42 rfl (lv_at hl 3 rfl) ?_
      refine lv_aload_n hx hb dX9_pass_43 rfl (lv_at hl 1 rfl) ?_
      refine m_get hx hb hts hin hown hK hG 1 (by decide) lk_143 rfl (.int (I 1)) rfl dX9_pass_44 ?_
      refine lv_icmp_ge (tgt := 75) hx hb dX9_pass_47 (by decide) (fun c_47 => ?_) (fun c_47 => ?_)
      · skip
        rw [h1] at c_47
        have hge : nn ≤ a0 := Nat.not_lt.mp fun q => nI_ge q hnn c_47
        have hto : ¬ (a0 < nn ∧ (V 1 a0 = 75 ∨ V 1 a0 = 77)) := fun q => by first | exact absurd q.1 (Nat.not_lt.mpr hge) | exact q.2.elim c_58 c_69
        refine lv_aload_n hx hb dX9_pass_75 rfl (lv_at hl 1 rfl) ?_
        refine m_get hx hb hts hin hown hK hG 6 (by decide) lk_19 rfl (.ref (ad (b + 4))) rfl dX9_pass_76 ?_
        refine lv_aload_n hx hb dX9_pass_79 rfl (lv_at hl 1 rfl) ?_
        refine m_get hx hb hts hin hown hK hG 7 (by decide) lk_146 rfl (.int (I 7)) rfl dX9_pass_80 ?_
        refine lv_iload_n hx hb dX9_pass_83 rfl (lv_at hl 0 rfl) ?_
        refine lv_iload_n hx hb dX9_pass_84 rfl (lv_at hl 3 rfl) ?_
        refine lv_icmp_le (tgt := 103) hx hb dX9_pass_85 (by decide) (fun c_85 => ?_) (fun c_85 => ?_)
        · skip
          have hps : ps (V 1) nn x a0 = (a0, some 0) := by simp only [ps, if_neg c_6, if_pos c_39, if_neg hto, if_neg (show ¬ (a0 < nn ∧ V 1 a0 = 77) from fun q => hto ⟨q.1, Or.inr q.2⟩)]
          refine lv_iconst (v := 0) hx hb dX9_pass_103 (by decide) ?_
          refine m_isN hx hb hK hG (j := 4) (by decide) (by decide) rfl k7 h7 (Nat.lt_of_lt_of_le hk7 (by decide)) dX9_pass_104 (fun H locs hG => ?_)
          refine lv_goto (tgt := 191) hx hb dX9_pass_105 (by decide) ?_
          refine lv_aload_n hx hb dX9_pass_191 rfl (lv_at hl 1 rfl) ?_
          refine lv_dup hx hb dX9_pass_192 rfl ?_
          refine m_get hx hb hts hin hown hK hG 7 (by decide) lk_146 rfl (.int (I 7)) rfl dX9_pass_193 ?_
          refine lv_iconst (v := 1) hx hb dX9_pass_196 (by decide) ?_
          refine lv_iadd hx hb dX9_pass_197 ?_
          refine m_put hx hb hts hin hown hK hG 7 (by decide) lk_146 rfl rfl (mS_7 ad b I B ((I 7) + 1)) rfl rfl dX9_pass_198 (fun H locs hG => ?_)
          refine lv_iload_n hx hb dX9_pass_201 rfl (lv_at hl 0 rfl) ?_
          exact W.iret (v := nI a0) hx hb hr (fun t ht hW => m_end hAe hG (⟨_, rfl, ⟨by rw [hps], rfl, fun h => by rw [hps] at h; cases h, fun v2 h => by rw [hps] at h; cases h; exact ⟨by rw [h7, nI_1], rfl⟩⟩⟩) ht) (m_locs hG) dX9_pass_202
        · skip
          exact absurd (Int32.le_refl _) c_85
      · skip
        rw [h1] at c_47
        have hlt : a0 < nn := Nat.not_le.mp fun q => c_47 (nI_le q ha2)
        refine lv_aload_n hx hb dX9_pass_50 rfl (lv_at hl 1 rfl) ?_
        refine m_get hx hb hts hin hown hK hG 0 (by decide) lk_7 rfl (.ref (ad (b + 1))) rfl dX9_pass_51 ?_
        refine lv_iload_n hx hb dX9_pass_54 rfl (lv_at hl 3 rfl) ?_
        refine m_iaN hx hb hK hG (j := 1) (by decide) (by decide) rfl a0 rfl (by show a0 < 72; omega) dX9_pass_55 ?_
        refine lv_bipush (v := 75) hx hb dX9_pass_56 (by decide) ?_
        refine lv_icmp_eq (tgt := 72) hx hb dX9_pass_58 (by decide) (fun c_58 => ?_) (fun c_58 => ?_)
        · skip
          refine lv_iinc (v := (nI a0) + 1) (lv' := [(3, .int ((nI a0) + 1)), (0, .ref (ad b)), (1, .int x), (2, .int (nI a0))]) hx hb dX9_pass_72 hl (k := 0) rfl rfl (by decide) rfl (fun ls hl => ?_)
          have hto : a0 < nn ∧ (V 1 a0 = 75 ∨ V 1 a0 = 77) := ⟨hlt, by first | exact Or.inl c_58 | exact Or.inr c_69⟩
          have hl : lv_has ls 6 [(3, .int (nI (a0 + 1))), (0, .ref (ad b)), (1, .int x), (2, .int (nI a0))] := by rw [← nI_1]; exact lv_sub hl [0, 1, 2, 3] rfl
          refine lv_aload_n hx hb dX9_pass_75 rfl (lv_at hl 1 rfl) ?_
          refine m_get hx hb hts hin hown hK hG 6 (by decide) lk_19 rfl (.ref (ad (b + 4))) rfl dX9_pass_76 ?_
          refine lv_aload_n hx hb dX9_pass_79 rfl (lv_at hl 1 rfl) ?_
          refine m_get hx hb hts hin hown hK hG 7 (by decide) lk_146 rfl (.int (I 7)) rfl dX9_pass_80 ?_
          refine lv_iload_n hx hb dX9_pass_83 rfl (lv_at hl 0 rfl) ?_
          refine lv_iload_n hx hb dX9_pass_84 rfl (lv_at hl 3 rfl) ?_
          refine lv_icmp_le (tgt := 103) hx hb dX9_pass_85 (by decide) (fun c_85 => ?_) (fun c_85 => ?_)
          · skip
            exact absurd c_85 (nI_ge (by omega) (by omega))
          · skip
            refine lv_aload_n hx hb dX9_pass_88 rfl (lv_at hl 1 rfl) ?_
            refine m_get hx hb hts hin hown hK hG 0 (by decide) lk_7 rfl (.ref (ad (b + 1))) rfl dX9_pass_89 ?_
            refine lv_iload_n hx hb dX9_pass_92 rfl (lv_at hl 3 rfl) ?_
            refine m_iaN hx hb hK hG (j := 1) (by decide) (by decide) rfl a0 rfl (by show a0 < 72; omega) dX9_pass_93 ?_
            refine lv_bipush (v := 77) hx hb dX9_pass_94 (by decide) ?_
            refine lv_icmp_ne (tgt := 103) hx hb dX9_pass_96 (by decide) (fun c_96 => ?_) (fun c_96 => ?_)
            · skip
              have hps : ps (V 1) nn x a0 = (a0 + 1, some 0) := by simp only [ps, if_neg c_6, if_pos c_39, if_pos hto, if_neg (show ¬ (a0 < nn ∧ V 1 a0 = 77) from fun q => c_96 q.2)]
              refine lv_iconst (v := 0) hx hb dX9_pass_103 (by decide) ?_
              refine m_isN hx hb hK hG (j := 4) (by decide) (by decide) rfl k7 h7 (Nat.lt_of_lt_of_le hk7 (by decide)) dX9_pass_104 (fun H locs hG => ?_)
              refine lv_goto (tgt := 191) hx hb dX9_pass_105 (by decide) ?_
              refine lv_aload_n hx hb dX9_pass_191 rfl (lv_at hl 1 rfl) ?_
              refine lv_dup hx hb dX9_pass_192 rfl ?_
              refine m_get hx hb hts hin hown hK hG 7 (by decide) lk_146 rfl (.int (I 7)) rfl dX9_pass_193 ?_
              refine lv_iconst (v := 1) hx hb dX9_pass_196 (by decide) ?_
              refine lv_iadd hx hb dX9_pass_197 ?_
              refine m_put hx hb hts hin hown hK hG 7 (by decide) lk_146 rfl rfl (mS_7 ad b I B ((I 7) + 1)) rfl rfl dX9_pass_198 (fun H locs hG => ?_)
              refine lv_iload_n hx hb dX9_pass_201 rfl (lv_at hl 0 rfl) ?_
              exact W.iret (v := nI (a0 + 1)) hx hb hr (fun t ht hW => m_end hAe hG (⟨_, rfl, ⟨by rw [hps], rfl, fun h => by rw [hps] at h; cases h, fun v2 h => by rw [hps] at h; cases h; exact ⟨by rw [h7, nI_1], rfl⟩⟩⟩) ht) (m_locs hG) dX9_pass_202
            · skip
              have hps : ps (V 1) nn x a0 = (a0 + 1, some 1) := by simp only [ps, if_neg c_6, if_pos c_39, if_pos hto, if_pos (show a0 < nn ∧ V 1 a0 = 77 from ⟨hto.1, c_96⟩)]
              refine lv_iconst (v := 1) hx hb dX9_pass_99 (by decide) ?_
              refine lv_goto (tgt := 104) hx hb dX9_pass_100 (by decide) ?_
              refine m_isN hx hb hK hG (j := 4) (by decide) (by decide) rfl k7 h7 (Nat.lt_of_lt_of_le hk7 (by decide)) dX9_pass_104 (fun H locs hG => ?_)
              refine lv_goto (tgt := 191) hx hb dX9_pass_105 (by decide) ?_
              refine lv_aload_n hx hb dX9_pass_191 rfl (lv_at hl 1 rfl) ?_
              refine lv_dup hx hb dX9_pass_192 rfl ?_
              refine m_get hx hb hts hin hown hK hG 7 (by decide) lk_146 rfl (.int (I 7)) rfl dX9_pass_193 ?_
              refine lv_iconst (v := 1) hx hb dX9_pass_196 (by decide) ?_
              refine lv_iadd hx hb dX9_pass_197 ?_
              refine m_put hx hb hts hin hown hK hG 7 (by decide) lk_146 rfl rfl (mS_7 ad b I B ((I 7) + 1)) rfl rfl dX9_pass_198 (fun H locs hG => ?_)
              refine lv_iload_n hx hb dX9_pass_201 rfl (lv_at hl 0 rfl) ?_
              exact W.iret (v := nI (a0 + 1)) hx hb hr (fun t ht hW => m_end hAe hG (⟨_, rfl, ⟨by rw [hps], rfl, fun h => by rw [hps] at h; cases h, fun v2 h => by rw [hps] at h; cases h; exact ⟨by rw [h7, nI_1], rfl⟩⟩⟩) ht) (m_locs hG) dX9_pass_202
        · skip
          refine lv_aload_n hx hb dX9_pass_61 rfl (lv_at hl 1 rfl) ?_
          refine m_get hx hb hts hin hown hK hG 0 (by decide) lk_7 rfl (.ref (ad (b + 1))) rfl dX9_pass_62 ?_
          refine lv_iload_n hx hb dX9_pass_65 rfl (lv_at hl 3 rfl) ?_
          refine m_iaN hx hb hK hG (j := 1) (by decide) (by decide) rfl a0 rfl (by show a0 < 72; omega) dX9_pass_66 ?_
          refine lv_bipush (v := 77) hx hb dX9_pass_67 (by decide) ?_
          refine lv_icmp_ne (tgt := 75) hx hb dX9_pass_69 (by decide) (fun c_69 => ?_) (fun c_69 => ?_)
          · skip
            have hto : ¬ (a0 < nn ∧ (V 1 a0 = 75 ∨ V 1 a0 = 77)) := fun q => by first | exact absurd q.1 (Nat.not_lt.mpr hge) | exact q.2.elim c_58 c_69
            refine lv_aload_n hx hb dX9_pass_75 rfl (lv_at hl 1 rfl) ?_
            refine m_get hx hb hts hin hown hK hG 6 (by decide) lk_19 rfl (.ref (ad (b + 4))) rfl dX9_pass_76 ?_
            refine lv_aload_n hx hb dX9_pass_79 rfl (lv_at hl 1 rfl) ?_
            refine m_get hx hb hts hin hown hK hG 7 (by decide) lk_146 rfl (.int (I 7)) rfl dX9_pass_80 ?_
            refine lv_iload_n hx hb dX9_pass_83 rfl (lv_at hl 0 rfl) ?_
            refine lv_iload_n hx hb dX9_pass_84 rfl (lv_at hl 3 rfl) ?_
            refine lv_icmp_le (tgt := 103) hx hb dX9_pass_85 (by decide) (fun c_85 => ?_) (fun c_85 => ?_)
            · skip
              have hps : ps (V 1) nn x a0 = (a0, some 0) := by simp only [ps, if_neg c_6, if_pos c_39, if_neg hto, if_neg (show ¬ (a0 < nn ∧ V 1 a0 = 77) from fun q => hto ⟨q.1, Or.inr q.2⟩)]
              refine lv_iconst (v := 0) hx hb dX9_pass_103 (by decide) ?_
              refine m_isN hx hb hK hG (j := 4) (by decide) (by decide) rfl k7 h7 (Nat.lt_of_lt_of_le hk7 (by decide)) dX9_pass_104 (fun H locs hG => ?_)
              refine lv_goto (tgt := 191) hx hb dX9_pass_105 (by decide) ?_
              refine lv_aload_n hx hb dX9_pass_191 rfl (lv_at hl 1 rfl) ?_
              refine lv_dup hx hb dX9_pass_192 rfl ?_
              refine m_get hx hb hts hin hown hK hG 7 (by decide) lk_146 rfl (.int (I 7)) rfl dX9_pass_193 ?_
              refine lv_iconst (v := 1) hx hb dX9_pass_196 (by decide) ?_
              refine lv_iadd hx hb dX9_pass_197 ?_
              refine m_put hx hb hts hin hown hK hG 7 (by decide) lk_146 rfl rfl (mS_7 ad b I B ((I 7) + 1)) rfl rfl dX9_pass_198 (fun H locs hG => ?_)
              refine lv_iload_n hx hb dX9_pass_201 rfl (lv_at hl 0 rfl) ?_
              exact W.iret (v := nI a0) hx hb hr (fun t ht hW => m_end hAe hG (⟨_, rfl, ⟨by rw [hps], rfl, fun h => by rw [hps] at h; cases h, fun v2 h => by rw [hps] at h; cases h; exact ⟨by rw [h7, nI_1], rfl⟩⟩⟩) ht) (m_locs hG) dX9_pass_202
            · skip
              exact absurd (Int32.le_refl _) c_85
          · skip
            refine lv_iinc (v := (nI a0) + 1) (lv' := [(3, .int ((nI a0) + 1)), (0, .ref (ad b)), (1, .int x), (2, .int (nI a0))]) hx hb dX9_pass_72 hl (k := 0) rfl rfl (by decide) rfl (fun ls hl => ?_)
            have hto : a0 < nn ∧ (V 1 a0 = 75 ∨ V 1 a0 = 77) := ⟨hlt, by first | exact Or.inl c_58 | exact Or.inr c_69⟩
            have hl : lv_has ls 6 [(3, .int (nI (a0 + 1))), (0, .ref (ad b)), (1, .int x), (2, .int (nI a0))] := by rw [← nI_1]; exact lv_sub hl [0, 1, 2, 3] rfl
            refine lv_aload_n hx hb dX9_pass_75 rfl (lv_at hl 1 rfl) ?_
            refine m_get hx hb hts hin hown hK hG 6 (by decide) lk_19 rfl (.ref (ad (b + 4))) rfl dX9_pass_76 ?_
            refine lv_aload_n hx hb dX9_pass_79 rfl (lv_at hl 1 rfl) ?_
            refine m_get hx hb hts hin hown hK hG 7 (by decide) lk_146 rfl (.int (I 7)) rfl dX9_pass_80 ?_
            refine lv_iload_n hx hb dX9_pass_83 rfl (lv_at hl 0 rfl) ?_
            refine lv_iload_n hx hb dX9_pass_84 rfl (lv_at hl 3 rfl) ?_
            refine lv_icmp_le (tgt := 103) hx hb dX9_pass_85 (by decide) (fun c_85 => ?_) (fun c_85 => ?_)
            · skip
              exact absurd c_85 (nI_ge (by omega) (by omega))
            · skip
              refine lv_aload_n hx hb dX9_pass_88 rfl (lv_at hl 1 rfl) ?_
              refine m_get hx hb hts hin hown hK hG 0 (by decide) lk_7 rfl (.ref (ad (b + 1))) rfl dX9_pass_89 ?_
              refine lv_iload_n hx hb dX9_pass_92 rfl (lv_at hl 3 rfl) ?_
              refine m_iaN hx hb hK hG (j := 1) (by decide) (by decide) rfl a0 rfl (by show a0 < 72; omega) dX9_pass_93 ?_
              refine lv_bipush (v := 77) hx hb dX9_pass_94 (by decide) ?_
              refine lv_icmp_ne (tgt := 103) hx hb dX9_pass_96 (by decide) (fun c_96 => ?_) (fun c_96 => ?_)
              · skip
                have hps : ps (V 1) nn x a0 = (a0 + 1, some 0) := by simp only [ps, if_neg c_6, if_pos c_39, if_pos hto, if_neg (show ¬ (a0 < nn ∧ V 1 a0 = 77) from fun q => c_96 q.2)]
                refine lv_iconst (v := 0) hx hb dX9_pass_103 (by decide) ?_
                refine m_isN hx hb hK hG (j := 4) (by decide) (by decide) rfl k7 h7 (Nat.lt_of_lt_of_le hk7 (by decide)) dX9_pass_104 (fun H locs hG => ?_)
                refine lv_goto (tgt := 191) hx hb dX9_pass_105 (by decide) ?_
                refine lv_aload_n hx hb dX9_pass_191 rfl (lv_at hl 1 rfl) ?_
                refine lv_dup hx hb dX9_pass_192 rfl ?_
                refine m_get hx hb hts hin hown hK hG 7 (by decide) lk_146 rfl (.int (I 7)) rfl dX9_pass_193 ?_
                refine lv_iconst (v := 1) hx hb dX9_pass_196 (by decide) ?_
                refine lv_iadd hx hb dX9_pass_197 ?_
                refine m_put hx hb hts hin hown hK hG 7 (by decide) lk_146 rfl rfl (mS_7 ad b I B ((I 7) + 1)) rfl rfl dX9_pass_198 (fun H locs hG => ?_)
                refine lv_iload_n hx hb dX9_pass_201 rfl (lv_at hl 0 rfl) ?_
                exact W.iret (v := nI (a0 + 1)) hx hb hr (fun t ht hW => m_end hAe hG (⟨_, rfl, ⟨by rw [hps], rfl, fun h => by rw [hps] at h; cases h, fun v2 h => by rw [hps] at h; cases h; exact ⟨by rw [h7, nI_1], rfl⟩⟩⟩) ht) (m_locs hG) dX9_pass_202
              · skip
                have hps : ps (V 1) nn x a0 = (a0 + 1, some 1) := by simp only [ps, if_neg c_6, if_pos c_39, if_pos hto, if_pos (show a0 < nn ∧ V 1 a0 = 77 from ⟨hto.1, c_96⟩)]
                refine lv_iconst (v := 1) hx hb dX9_pass_99 (by decide) ?_
                refine lv_goto (tgt := 104) hx hb dX9_pass_100 (by decide) ?_
                refine m_isN hx hb hK hG (j := 4) (by decide) (by decide) rfl k7 h7 (Nat.lt_of_lt_of_le hk7 (by decide)) dX9_pass_104 (fun H locs hG => ?_)
                refine lv_goto (tgt := 191) hx hb dX9_pass_105 (by decide) ?_
                refine lv_aload_n hx hb dX9_pass_191 rfl (lv_at hl 1 rfl) ?_
                refine lv_dup hx hb dX9_pass_192 rfl ?_
                refine m_get hx hb hts hin hown hK hG 7 (by decide) lk_146 rfl (.int (I 7)) rfl dX9_pass_193 ?_
                refine lv_iconst (v := 1) hx hb dX9_pass_196 (by decide) ?_
                refine lv_iadd hx hb dX9_pass_197 ?_
                refine m_put hx hb hts hin hown hK hG 7 (by decide) lk_146 rfl rfl (mS_7 ad b I B ((I 7) + 1)) rfl rfl dX9_pass_198 (fun H locs hG => ?_)
                refine lv_iload_n hx hb dX9_pass_201 rfl (lv_at hl 0 rfl) ?_
                exact W.iret (v := nI (a0 + 1)) hx hb hr (fun t ht hW => m_end hAe hG (⟨_, rfl, ⟨by rw [hps], rfl, fun h => by rw [hps] at h; cases h, fun v2 h => by rw [hps] at h; cases h; exact ⟨by rw [h7, nI_1], rfl⟩⟩⟩) ht) (m_locs hG) dX9_pass_202
  · skip
    have c_6 : x < 200 := Int32.not_le.mp c_6
    refine lv_iload_n hx hb dX9_pass_9 rfl (lv_at hl 3 rfl) ?_
    refine lv_aload_n hx hb dX9_pass_10 rfl (lv_at hl 1 rfl) ?_
    refine m_get hx hb hts hin hown hK hG 1 (by decide) lk_143 rfl (.int (I 1)) rfl dX9_pass_11 ?_
    refine lv_icmp_ge (tgt := 33) hx hb dX9_pass_14 (by decide) (fun c_14 => ?_) (fun c_14 => ?_)
    · skip
      rw [h1] at c_14
      have hge : nn ≤ a0 := Nat.not_lt.mp fun q => nI_ge q hnn c_14
      refine lv_iload_n hx hb dX9_pass_33 rfl (lv_at hl 3 rfl) ?_
      exact W.iret (v := nI a0) hx hb hr (fun t ht hW => m_end hAe hG (⟨_, rfl, ⟨by first | (simp only [ps, if_pos c_6, if_neg (show ¬ (a0 < nn ∧ V 1 a0 = x) from fun q => absurd q.1 (Nat.not_lt.mpr hge))]; done) | (simp only [ps, if_pos c_6, if_neg (show ¬ (a0 < nn ∧ V 1 a0 = x) from fun q => c_24 q.2)]; done) | (simp only [ps, if_pos c_6, if_pos (show a0 < nn ∧ V 1 a0 = x from ⟨hlt, c_24⟩)]; exact nI_1 a0), rfl, fun _ => ⟨rfl, rfl⟩, fun v h => by simp only [ps, if_pos c_6] at h; cases h⟩⟩) ht) (m_locs hG) dX9_pass_34
    · skip
      rw [h1] at c_14
      have hlt : a0 < nn := Nat.not_le.mp fun q => c_14 (nI_le q ha2)
      refine lv_aload_n hx hb dX9_pass_17 rfl (lv_at hl 1 rfl) ?_
      refine m_get hx hb hts hin hown hK hG 0 (by decide) lk_7 rfl (.ref (ad (b + 1))) rfl dX9_pass_18 ?_
      refine lv_iload_n hx hb dX9_pass_21 rfl (lv_at hl 3 rfl) ?_
      refine m_iaN hx hb hK hG (j := 1) (by decide) (by decide) rfl a0 rfl (by show a0 < 72; omega) dX9_pass_22 ?_
      refine lv_iload_n hx hb dX9_pass_23 rfl (lv_at hl 2 rfl) ?_
      refine lv_icmp_ne (tgt := 33) hx hb dX9_pass_24 (by decide) (fun c_24 => ?_) (fun c_24 => ?_)
      · skip
        refine lv_iload_n hx hb dX9_pass_33 rfl (lv_at hl 3 rfl) ?_
        exact W.iret (v := nI a0) hx hb hr (fun t ht hW => m_end hAe hG (⟨_, rfl, ⟨by first | (simp only [ps, if_pos c_6, if_neg (show ¬ (a0 < nn ∧ V 1 a0 = x) from fun q => absurd q.1 (Nat.not_lt.mpr hge))]; done) | (simp only [ps, if_pos c_6, if_neg (show ¬ (a0 < nn ∧ V 1 a0 = x) from fun q => c_24 q.2)]; done) | (simp only [ps, if_pos c_6, if_pos (show a0 < nn ∧ V 1 a0 = x from ⟨hlt, c_24⟩)]; exact nI_1 a0), rfl, fun _ => ⟨rfl, rfl⟩, fun v h => by simp only [ps, if_pos c_6] at h; cases h⟩⟩) ht) (m_locs hG) dX9_pass_34
      · skip
        refine lv_iload_n hx hb dX9_pass_27 rfl (lv_at hl 3 rfl) ?_
        refine lv_iconst (v := 1) hx hb dX9_pass_28 (by decide) ?_
        refine lv_iadd hx hb dX9_pass_29 ?_
        refine lv_goto (tgt := 34) hx hb dX9_pass_30 (by decide) ?_
        exact W.iret (v := (nI a0) + 1) hx hb hr (fun t ht hW => m_end hAe hG (⟨_, rfl, ⟨by first | (simp only [ps, if_pos c_6, if_neg (show ¬ (a0 < nn ∧ V 1 a0 = x) from fun q => absurd q.1 (Nat.not_lt.mpr hge))]; done) | (simp only [ps, if_pos c_6, if_neg (show ¬ (a0 < nn ∧ V 1 a0 = x) from fun q => c_24 q.2)]; done) | (simp only [ps, if_pos c_6, if_pos (show a0 < nn ∧ V 1 a0 = x from ⟨hlt, c_24⟩)]; exact nI_1 a0), rfl, fun _ => ⟨rfl, rfl⟩, fun v h => by simp only [ps, if_pos c_6] at h; cases h⟩⟩) ht) (m_locs hG) dX9_pass_34
