/-! COUNTS OVER THE EVENTS, both sides. -/
/-- what the class knows of event i -/
def Evc (S : GS) (n E : Nat) : Prop := ∀ i, i < E → ∃ q b e, gR S 7 i = some q ∧ evP S q ∧ b < n ∧ e < n ∧ gX S 30 i = nI b ∧ gX S 31 i = nI e ∧ ((2 : Int32) < gX S q 4 ↔ ¬ isP (gX S 23) (gX S 31) i = true) ∧ gX S q 9 = tkE S i ∧ (isP (gX S 23) (gX S 31) i = true → gX S q 2 = gX S 25 b ∧ tkE S i = gX S 29 e ∧ 0 ≤ (gX S 29 e).toInt ∧ (gX S 29 e).toInt ≤ 9999999) ∧ (isP (gX S 23) (gX S 31) i = true ↔ gX S 23 e = 1)
theorem Inw.evc {S : GS} {cap n E P lg pl : Nat} {oP oM : Option Nat} {dP : Int32 × Int32} (h : Inw S cap n E P lg pl oP oM dP) : Evc S n E := by
  obtain ⟨⟨hF, hcl⟩, i2, i3, i4, i5, i6, i7⟩ := h
  have hn : n ≤ 48 := by have := i3.1; have := i3.2.1; omega
  intro i hi
  obtain ⟨q, e1, e2, b, e, hb, he, hbe, h30, h31, h3, h4, h5, h6, h7, h8, h9, h10, _⟩ := i6.2.2 i hi
  have hcb := nj_clamp (show b < 2147483648 by omega)
  have hce := nj_clamp (show e < 2147483648 by omega)
  have hip : isP (gX S 23) (gX S 31) i = true ↔ gX S 23 e = 1 := by simp only [isP, h31, hce, decide_eq_true_eq]
  have htk : gX S q 9 = tkE S i := by unfold tkE; rw [h30, h31, hcb, hce]; exact h10
  refine ⟨q, b, e, e1, e2, hb, he, h30, h31, ?_, htk, fun z => ?_, hip⟩
  · rw [hip]
    rcases h6 with g | g
    · obtain ⟨_, _, _, g4, g5, _⟩ := i4 b hb
      obtain ⟨s', k', c', r1, r2, r3, r4, r5, r6, r7⟩ := g5 (g4 h3)
      have e4 : gX S q 4 = nI k' := by rw [g.2.2.2.2.1]; exact r5
      rw [e4]
      have : (2 : Int32) < nI k' ↔ 2 < k' := nj_lt (a := 2) (by omega) (by omega)
      rw [this]
      exact ⟨fun y => absurd y (by omega), fun y => absurd g.1 y⟩
    · have hn1 : ¬ gX S 23 e = 1 := by rcases g.1 with y | y <;> rw [y] <;> decide
      refine ⟨fun _ => hn1, fun _ => ?_⟩
      rw [g.2.2.1]
      split <;> decide
  · have h23 := hip.mp z
    have ht : tkE S i = gX S 29 e := by
      rw [← htk, h10]
      unfold tkO
      rw [if_neg (by rw [h23]; decide)]
    obtain ⟨_, _, _, g4, g5, _⟩ := i4 e he
    obtain ⟨s', k', c', r1, r2, r3, r4, r5, r6, r7⟩ := g5 (g4 h4)
    have hs1 : s' = 1 := by
      rw [r4] at h23
      exact (nj_eq (b := 1) (by omega) (by omega)).mp h23
    have hr := r7.2.2.2.2 (Or.inl hs1)
    refine ⟨?_, ht, hr.1, hr.2⟩
    rcases h6 with g | g
    · exact g.2.2.2.2.2.1
    · exfalso
      rcases g.1 with y | y <;> rw [y] at h23 <;> exact absurd h23 (by decide)
def btw (S : GS) (lo hi : Int32) : Nat → Nat
  | 0 => 0
  | i + 1 => btw S lo hi i + if isP (gX S 23) (gX S 31) i = true ∧ ¬ tkE S i < lo ∧ ¬ hi < tkE S i then 1 else 0
theorem btw_le (S : GS) (lo hi : Int32) (i : Nat) : btw S lo hi i ≤ i := by
  induction i with
  | zero => exact Nat.le_refl _
  | succ i ih => rw [btw]; split <;> omega
theorem q_isPauseC {S : GS} {q : Nat} {Q : Int32 → GS → Prop} (hp : evP S q) (h0 : (2 : Int32) < gX S q 4 → Q 0 S) (h1 : ¬ (2 : Int32) < gX S q 4 → Q 1 S) : wX2_isPause S q Q :=
  ⟨hp.2.1, hp.2.2, fun z => ⟨Or.inl rfl, h0 z⟩, fun z => ⟨Or.inr rfl, h1 z⟩⟩
theorem q_ptt5 {S : GS} {n E : Nat} {lo hi : Int32} {Q : Int32 → GS → Prop} (hF : Fix S) (hE : gX S 6 1 = nI E) (hE40 : E ≤ 40) (hv : Evc S n E) (hQ : Q (nI (btw S lo hi E)) S) : ∀ (r j : Nat), j + r = E → wX3_pausesThatTook_5 Q 6 (r + 1) lo hi (nI (btw S lo hi j)) (nI j) S := by
  intro r
  induction r with
  | zero =>
    intro j hj
    have ej : j = E := by omega
    subst ej
    unfold wX3_pausesThatTook_5
    rw [hE]
    exact ⟨fn_6 hF, fk_6 hF, fun _ => hQ, fun z => absurd ((nj_le (by omega) (by omega)).mpr (Nat.le_refl _)) z⟩
  | succ r ih =>
    intro j hj
    obtain ⟨q, b, e, e1, e2, _, _, _, _, hk, h9, _⟩ := hv j (by omega)
    have hgo := ih (j + 1) (by omega)
    rw [btw] at hgo
    unfold wX3_pausesThatTook_5 wX3_pausesThatTook_56
    rw [hE, nj_succ]
    refine ⟨fn_6 hF, fk_6 hF, fun z => absurd ((nj_le (by omega) (by omega)).mp z) (by omega), fun _ => q_getE hF hE hE40 (fun i hi' ei _ => ?_) (fun hb => ?_)⟩
    · have eij : i = j := ((nj_eq (by omega) (by omega)).mp ei).symm
      subst eij
      rw [e1]
      refine ⟨fun z => absurd z (by simp), fun q' hq' => ?_⟩
      injection hq' with hq'
      subst hq'
      refine ⟨e2.2.1, e2.2.2, q_isPauseC e2 (fun z _ => ⟨fun _ => ?_, fun y => absurd rfl y⟩) (fun z _ => ⟨fun y => absurd y (by decide), fun _ => ⟨q, rfl, e2.2.1, e2.2.2, ?_⟩⟩)⟩
      · rw [if_neg (fun y => (hk.mp z) y.1)] at hgo; exact hgo
      · have hp : isP (gX S 23) (gX S 31) i = true := Classical.byContradiction (fun y => z (hk.mpr y))
        rw [h9]
        refine ⟨fun y => ?_, fun y => ⟨fun y2 => ?_, fun y2 => ?_⟩⟩
        · rw [if_neg (fun w => w.2.1 y)] at hgo; exact hgo
        · rw [if_neg (fun w => w.2.2 y2)] at hgo; exact hgo
        · rw [if_pos ⟨hp, y, y2⟩] at hgo
          rw [nj_succ]; exact hgo
    · exfalso
      rcases hb with z | z
      · exact nj_nneg (by omega) z
      · have := (nj_le (by omega) (by omega)).mp z; omega
theorem q_ptt {S : GS} {n E : Nat} {lo hi : Int32} {Q : Int32 → GS → Prop} (hF : Fix S) (hE : gX S 6 1 = nI E) (hE40 : E ≤ 40) (hv : Evc S n E) (hQ : Q (nI (btw S lo hi E)) S) : wX3_pausesThatTook S 6 lo hi Q :=
  ⟨E + 1, q_ptt5 hF hE hE40 hv hQ E 0 (by omega)⟩
theorem q_btw5 {S : GS} {n E : Nat} {lo hi : Int32} {Q : Int32 → GS → Prop} (hF : Fix S) (hE : gX S 14 25 = nI E) (hE40 : E ≤ 40) (hn : n ≤ 512) (hv : Evc S n E) (hQ : Q (nI (btw S lo hi E)) S) : ∀ (r j : Nat), j + r = E → wX9_between_5 Q 14 (r + 1) lo hi (nI (btw S lo hi j)) (nI j) S := by
  intro r
  induction r with
  | zero =>
    intro j hj
    have ej : j = E := by omega
    subst ej
    unfold wX9_between_5
    rw [hE]
    exact ⟨fn_14 hF, fk_14 hF, fun _ => hQ, fun z => absurd ((nj_le (by omega) (by omega)).mpr (Nat.le_refl _)) z⟩
  | succ r ih =>
    intro j hj
    obtain ⟨q, b, e, e1, e2, hb, he, h30, h31, hk, h9, hp9, hip⟩ := hv j (by omega)
    have hgo := ih (j + 1) (by omega)
    rw [btw] at hgo
    have htk : tkO S b e = tkE S j := by unfold tkE; rw [h30, h31, nj_clamp (by omega), nj_clamp (by omega)]
    unfold wX9_between_5 wX9_between_46
    rw [hE, nj_succ]
    refine ⟨fn_14 hF, fk_14 hF, fun z => absurd ((nj_le (by omega) (by omega)).mp z) (by omega), fun _ => q_isPause9 hF (by omega) h31 (by omega) (fun z _ => ⟨fun y => absurd y (by decide), fun _ => q_tookOf hF (by omega) h30 h31 (by omega) (by omega) (fun _ => ?_)⟩) (fun z _ => ⟨fun _ => ?_, fun y => absurd rfl y⟩)⟩
    · rw [htk]
      refine ⟨fun y => ?_, fun y => q_tookOf hF (by omega) h30 h31 (by omega) (by omega) (fun _ => ?_)⟩
      · rw [if_neg (fun w => w.2.1 y)] at hgo; exact hgo
      · rw [htk]
        refine ⟨fun y2 => ?_, fun y2 => ?_⟩
        · rw [if_neg (fun w => w.2.2 y2)] at hgo; exact hgo
        · rw [if_pos ⟨hip.mpr z, y, y2⟩] at hgo
          rw [nj_succ]; exact hgo
    · rw [if_neg (fun w => z (hip.mp w.1))] at hgo; exact hgo
theorem q_btw {S : GS} {n E : Nat} {lo hi : Int32} {Q : Int32 → GS → Prop} (hF : Fix S) (hE : gX S 14 25 = nI E) (hE40 : E ≤ 40) (hn : n ≤ 512) (hv : Evc S n E) (hQ : Q (nI (btw S lo hi E)) S) : wX9_between S 14 lo hi Q :=
  ⟨E + 1, q_btw5 hF hE hE40 hn hv hQ E 0 (by omega)⟩
theorem isP_X {S S' : GS} (h : ∀ k j, k ≠ 14 → gX S' k j = gX S k j) (i : Nat) : isP (gX S' 23) (gX S' 31) i = isP (gX S 23) (gX S 31) i := by
  unfold isP
  rw [h 31 i (by omega), h 23 _ (by omega)]
theorem tkE_X {S S' : GS} (h : ∀ k j, k ≠ 14 → gX S' k j = gX S k j) (i : Nat) : tkE S' i = tkE S i := by
  unfold tkE tkO
  rw [h 31 i (by omega), h 30 i (by omega), h 23 _ (by omega), h 26 _ (by omega), h 26 _ (by omega), h 29 _ (by omega)]
theorem btw_X {S S' : GS} (h : ∀ k j, k ≠ 14 → gX S' k j = gX S k j) (lo hi : Int32) (i : Nat) : btw S' lo hi i = btw S lo hi i := by
  induction i with
  | zero => rfl
  | succ i ih => rw [btw, btw, ih, isP_X h, tkE_X h]
theorem thr_X {S S1 : GS} (ha : Oa S S1) (v : Int32) : ∀ k j, k ≠ 14 → gX (sX S1 14 32 v) k j = gX S k j := fun k j hk => by rw [x_sX, if_neg (fun y => hk y.1), ha.X]
theorem bucket_ok {S : GS} {cap n E P lg pl : Nat} {oP oM : Option Nat} {dP : Int32 × Int32} {x : Int32} (h : Inw S cap n E P lg pl oP oM dP) (hcap : cap < 48) : wX8_bucket S 0 x (fun r S1 => ∀ S1', Oa S1 S1' → wX9_bucket S1' 14 x (fun b S2 => b = r ∧ Rq S1' S2 0 cap)) (fun X S1 => X = "java/lang/IndexOutOfBoundsException" ∧ ∀ S1', Oa S1 S1' → wX9_bucket S1' 14 x (fun _ S2 => Rq S1' S2 1 cap)) := by
  obtain ⟨⟨hF, hcl⟩, i2, i3, i4, i5, i6, i7⟩ := id h
  have hE : E ≤ 24 := by have := i3.1; have := i3.2.1; have := i3.2.2.2.2.1; omega
  have hn : n ≤ 48 := by have := i3.1; have := i3.2.1; omega
  have v23 : (23 : Int32).toInt = 23 := by decide
  have v24 : (24 : Int32).toInt = 24 := by decide
  have bad : ¬ (0 ≤ x.toInt ∧ x.toInt ≤ 23) → ∀ S1', Oa S S1' → wX9_bucket S1' 14 x (fun _ S2 => Rq S1' S2 1 cap) := by
    intro hb S1' ha
    have h1 := h.oa (by omega) ha
    have f1 := h1.1.1
    refine q_tells (fun r => ?_) (fun r _ => ⟨fun _ => ⟨fn_14 f1, fk_14 f1, fun S9 e9 => ?_⟩, fun w => absurd rfl w⟩)
    · rw [v23] at r; exact absurd r hb
    · have t9 : gX S9 14 32 = 1 := by rw [e9, x_sX, if_pos ⟨rfl, rfl⟩]
      rw [t9]
      refine ⟨by rw [e9]; exact fn_14 f1, by rw [e9]; exact fk_14 f1, fun w => absurd w (by decide), fun _ => ?_⟩
      show Rq S1' S9 1 cap
      rw [e9]
      exact rq_thr h1 hcap (by decide)
  unfold wX8_bucket wX8_bucket_10
  refine ⟨fun z => ⟨rfl, bad (fun w => ?_)⟩, fun z => ⟨fun z2 => ?_, fun z2 => ⟨rfl, bad (fun w => ?_)⟩⟩⟩
  · have := le_of_lt32 z; rw [t0] at this; omega
  · have hx0 : 0 ≤ x.toInt := by have := le_32 (Int32.not_lt.mp z); rw [t0] at this; exact this
    have hx1 : x.toInt ≤ 23 := by have := le_of_lt32 z2; rw [v24] at this; omega
    have hsh : (1 : Int32) <<< ((x + 1) &&& 31) = 2 <<< (x &&& 31) := by
      obtain ⟨m, hm, em⟩ : ∃ m : Nat, m < 24 ∧ x = nI m := ⟨x.toInt.toNat, by omega, nj_of hx0⟩
      subst em
      have : ∀ m, m < 24 → (1 : Int32) <<< ((nI m + 1) &&& 31) = 2 <<< (nI m &&& 31) := by decide
      exact this m hm
    -- both count alike
    have both : ∀ t : Int32, t = (if x = 0 then (0 : Int32) else (1 : Int32) <<< (x &&& 31)) → wX8_bucket_31 (fun r S1 => ∀ S1', Oa S1 S1' → wX9_bucket S1' 14 x (fun b S2 => b = r ∧ Rq S1' S2 0 cap)) (fun X S1 => X = "java/lang/IndexOutOfBoundsException" ∧ ∀ S1', Oa S1 S1' → wX9_bucket S1' 14 x (fun _ S2 => Rq S1' S2 1 cap)) 0 x t S := by
      intro t ht
      refine ⟨fn_0 hF, fk_0 hF, 6, fr_0_3 hF, fn_6 hF, fk_6 hF, q_ptt hF i6.1 (by omega) h.evc (fun _ S1' ha => ?_)⟩
      have h1 := h.oa (by omega) ha
      have f1 := h1.1.1
      refine q_tells (fun r _ => ⟨fun w => absurd w (by decide), fun _ => ⟨fn_14 f1, fk_14 f1, fun S9 e9 => ?_⟩⟩) (fun r => ?_)
      · have t9 : gX S9 14 32 = 0 := by rw [e9, x_sX, if_pos ⟨rfl, rfl⟩]
        have h9 := h1.thr (by omega) 0
        rw [← e9] at h9
        have f9 := h9.1.1
        have hb41 : wX9_bucket_41 (fun b S2 => b = nI (btw S t (1 <<< ((x + 1) &&& 31) - 1) E) ∧ Rq S1' S2 0 cap) 14 x 14 t S9 := by
          refine ⟨fn_14 f9, fk_14 f9, q_btw f9 h9.2.2.2.2.2.1.2.1 (by omega) (by omega) h9.evc (fun _ => ⟨?_, ?_⟩)⟩
          · rw [hsh, e9, btw_X (thr_X ha 0)]
          · rw [e9]; exact rq_thr h1 hcap (by decide)
        rw [t9]
        refine ⟨fn_14 f9, fk_14 f9, fun _ => ⟨fun w => ?_, fun w => ?_⟩, fun w => absurd rfl w⟩
        · rw [if_neg w] at ht; rw [ht] at hb41; rw [ht]; exact hb41
        · rw [if_pos w] at ht; rw [ht] at hb41; rw [ht]; exact hb41
      · exfalso
        apply r
        rw [v23]
        exact ⟨hx0, hx1⟩
    exact ⟨fun w => both _ (by rw [if_neg w]), fun w => both _ (by rw [if_pos w])⟩
  · have := le_32 (Int32.not_lt.mp z2); rw [v24] at this; omega
def sumC (S : GS) (c : Int32) : Nat → Int64
  | 0 => 0
  | i + 1 => if isP (gX S 23) (gX S 31) i = true ∧ gX S 25 (gX S 30 i).toNatClampNeg = c then sumC S c i + (tkE S i).toInt64 else sumC S c i
theorem sumC_X {S S' : GS} (h : ∀ k j, k ≠ 14 → gX S' k j = gX S k j) (c : Int32) (i : Nat) : sumC S' c i = sumC S c i := by
  induction i with
  | zero => rfl
  | succ i ih => rw [sumC, sumC, ih, isP_X h, tkE_X h, h 30 i (by omega), h 25 _ (by omega)]
theorem ofCause_ok {S : GS} {cap n E P lg pl : Nat} {oP oM : Option Nat} {dP : Int32 × Int32} {x : Int32} (h : Inw S cap n E P lg pl oP oM dP) (hcap : cap < 48) : wX8_ofCause S 0 x (fun r S1 => ∀ S1', Oa S1 S1' → wX9_ofCause S1' 14 x (fun b S2 => b = r ∧ Rq S1' S2 0 cap)) (fun X S1 => X = "java/lang/IndexOutOfBoundsException" ∧ ∀ S1', Oa S1 S1' → wX9_ofCause S1' 14 x (fun _ S2 => Rq S1' S2 1 cap)) := by
  obtain ⟨⟨hF, hcl⟩, i2, i3, i4, i5, i6, i7⟩ := id h
  have hE : E ≤ 24 := by have := i3.1; have := i3.2.1; have := i3.2.2.2.2.1; omega
  have hn : n ≤ 48 := by have := i3.1; have := i3.2.1; omega
  have hv := h.evc
  have v2 : (2 : Int32).toInt = 2 := by decide
  have bad : ¬ (0 ≤ x.toInt ∧ x.toInt ≤ 2) → ∀ S1', Oa S S1' → wX9_ofCause S1' 14 x (fun _ S2 => Rq S1' S2 1 cap) := by
    intro hb S1' ha
    have h1 := h.oa (by omega) ha
    have f1 := h1.1.1
    refine q_tells (fun r => ?_) (fun r _ => ⟨fun _ => ⟨fn_14 f1, fk_14 f1, fun S9 e9 => ⟨1, ?_⟩⟩, fun w => absurd rfl w⟩)
    · rw [v2] at r; exact absurd r hb
    · have t9 : gX S9 14 32 = 1 := by rw [e9, x_sX, if_pos ⟨rfl, rfl⟩]
      have hfin : Rq S1' S9 1 cap := by rw [e9]; exact rq_thr h1 hcap (by decide)
      unfold wX9_ofCause_22 wX9_ofCause_79
      rw [t9]
      exact ⟨by rw [e9]; exact fn_14 f1, by rw [e9]; exact fk_14 f1, fun _ => hfin, fun _ => ⟨fun _ => hfin, fun w => absurd w (by decide)⟩⟩
  unfold wX8_ofCause wX8_ofCause_9
  refine ⟨fun z => ⟨rfl, bad (fun w => ?_)⟩, fun z => ⟨fun z2 => ⟨E + 1, ?_⟩, fun z2 => ⟨rfl, bad (fun w => ?_)⟩⟩⟩
  · have := le_of_lt32 z; rw [t0] at this; omega
  · have hx0 : 0 ≤ x.toInt := by have := le_32 (Int32.not_lt.mp z); rw [t0] at this; exact this
    have hx1 : x.toInt ≤ 2 := by have := le_32 z2; rw [v2] at this; exact this
    -- the reference's loop
    have ref : ∀ S1', Oa S S1' → wX9_ofCause S1' 14 x (fun b S2 => b = sumC S x E ∧ Rq S1' S2 0 cap) := by
      intro S1' ha
      have h1 := h.oa (by omega) ha
      have f1 := h1.1.1
      refine q_tells (fun r _ => ⟨fun w => absurd w (by decide), fun _ => ⟨fn_14 f1, fk_14 f1, fun S9 e9 => ⟨E + 1, ?_⟩⟩⟩) (fun r => ?_)
      · have t9 : gX S9 14 32 = 0 := by rw [e9, x_sX, if_pos ⟨rfl, rfl⟩]
        have h9 := h1.thr (by omega) 0
        rw [← e9] at h9
        have f9 := h9.1.1
        have v9 := h9.evc
        have hfin : (fun b S2 => b = sumC S x E ∧ Rq S1' S2 0 cap) (sumC S9 x E) S9 := ⟨by rw [e9, sumC_X (thr_X ha 0)], by rw [e9]; exact rq_thr h1 hcap (by decide)⟩
        have loop : ∀ (r j : Nat), j + r = E → wX9_ofCause_22 (fun b S2 => b = sumC S x E ∧ Rq S1' S2 0 cap) 14 (r + 1) x (sumC S9 x j) (nI j) S9 := by
          intro r
          induction r with
          | zero =>
            intro j hj
            have ej : j = E := by omega
            subst ej
            unfold wX9_ofCause_22 wX9_ofCause_79
            rw [h9.2.2.2.2.2.1.2.1]
            exact ⟨fn_14 f9, fk_14 f9, fun _ => hfin, fun w => absurd ((nj_le (by omega) (by omega)).mpr (Nat.le_refl _)) w⟩
          | succ r ih =>
            intro j hj
            obtain ⟨q, b, e, e1, e2, hb, he, h30, h31, hk, h9', hp9, hip⟩ := v9 j (by omega)
            have hgo := ih (j + 1) (by omega)
            rw [sumC, h30, nj_clamp (by omega)] at hgo
            have htk : tkO S9 b e = tkE S9 j := by unfold tkE; rw [h30, h31, nj_clamp (by omega), nj_clamp (by omega)]
            unfold wX9_ofCause_22 wX9_ofCause_73
            rw [h9.2.2.2.2.2.1.2.1, t9, nj_succ]
            refine ⟨fn_14 f9, fk_14 f9, fun w => absurd ((nj_le (by omega) (by omega)).mp w) (by omega), fun _ => ⟨fun w => absurd rfl w, fun _ => q_isPause9 f9 (by omega) h31 (by omega) (fun w _ => ⟨fun y => absurd y (by decide), fun _ => ⟨30, fr_14_21 f9, fn_30 f9, fk_30 f9, by rw [fl_30 f9]; exact nj_in (by omega) (by omega), 25, fr_14_14 f9, fn_25 f9, fk_25 f9, ?_⟩⟩) (fun w _ => ⟨fun _ => ?_, fun y => absurd rfl y⟩)⟩⟩
            · rw [nj_clamp (by omega), h30, nj_clamp (by omega), fl_25 f9]
              refine ⟨nj_in (by omega) (by omega), fun y => ?_, fun y => q_tookOf f9 (by omega) h30 h31 (by omega) (by omega) (fun _ => ?_)⟩
              · rw [if_neg (fun u => y u.2)] at hgo; exact hgo
              · rw [htk]
                rw [if_pos ⟨hip.mpr w, y⟩] at hgo; exact hgo
            · rw [if_neg (fun u => w (hip.mp u.1))] at hgo; exact hgo
        have z0 : (0 : Int32) = nI 0 := by decide
        rw [z0]
        exact loop E 0 (by omega)
      · exfalso
        apply r
        rw [v2]
        exact ⟨hx0, hx1⟩
    -- the class's loop
    have loop : ∀ (r j : Nat), j + r = E → wX8_ofCause_24 (fun r S1 => ∀ S1', Oa S1 S1' → wX9_ofCause S1' 14 x (fun b S2 => b = r ∧ Rq S1' S2 0 cap)) (fun X S1 => X = "java/lang/IndexOutOfBoundsException" ∧ ∀ S1', Oa S1 S1' → wX9_ofCause S1' 14 x (fun _ S2 => Rq S1' S2 1 cap)) 0 (r + 1) x (sumC S x j) (nI j) S := by
      intro r
      induction r with
      | zero =>
        intro j hj
        have ej : j = E := by omega
        subst ej
        unfold wX8_ofCause_24
        refine ⟨fn_0 hF, fk_0 hF, 6, fr_0_3 hF, fn_6 hF, fk_6 hF, ?_⟩
        rw [i6.1]
        exact ⟨fun _ => ref, fun w => absurd ((nj_le (by omega) (by omega)).mpr (Nat.le_refl _)) w⟩
      | succ r ih =>
        intro j hj
        obtain ⟨q, b, e, e1, e2, hb, he, h30, h31, hk, h9', hp9, hip⟩ := hv j (by omega)
        have hgo := ih (j + 1) (by omega)
        rw [sumC, h30, nj_clamp (by omega)] at hgo
        unfold wX8_ofCause_24 wX8_ofCause_78
        refine ⟨fn_0 hF, fk_0 hF, 6, fr_0_3 hF, fn_6 hF, fk_6 hF, ?_⟩
        rw [i6.1, nj_succ]
        refine ⟨fun w => absurd ((nj_le (by omega) (by omega)).mp w) (by omega), fun _ => q_getE hF i6.1 (by omega) (fun i hi' ei _ => ?_) (fun hb => ?_)⟩
        · have eij : i = j := ((nj_eq (by omega) (by omega)).mp ei).symm
          subst eij
          rw [e1]
          refine ⟨fun w => absurd w (by simp), fun q' hq' => ?_⟩
          injection hq' with hq'
          subst hq'
          refine ⟨e2.2.1, e2.2.2, q_isPauseC e2 (fun w _ => ⟨fun _ => ?_, fun y => absurd rfl y⟩) (fun w _ => ⟨fun y => absurd y (by decide), fun _ => ⟨q, rfl, e2.2.1, e2.2.2, ?_⟩⟩)⟩
          · rw [if_neg (fun u => (hk.mp w) u.1)] at hgo; exact hgo
          · have hp : isP (gX S 23) (gX S 31) i = true := Classical.byContradiction (fun y => w (hk.mpr y))
            rw [(hp9 hp).1, h9']
            refine ⟨fun y => ?_, fun y => ?_⟩
            · rw [if_neg (fun u => y u.2)] at hgo; exact hgo
            · rw [if_pos ⟨hp, y⟩] at hgo; exact hgo
        · exfalso
          rcases hb with w | w
          · exact nj_nneg (by omega) w
          · have := (nj_le (by omega) (by omega)).mp w; omega
    have z0 : (0 : Int32) = nI 0 := by decide
    rw [z0]
    exact loop E 0 (by omega)
  · have := le_of_lt32 (Int32.not_le.mp z2); rw [v2] at this; omega
