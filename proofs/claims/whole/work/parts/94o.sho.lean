/-! SHOWN, both sides. -/
theorem q_getP {S0 S : GS} {L : List Int32} {k : Int32} {Q : Int32 → GS → Prop} (h : Tx S0 S 3 4 L) (hk : 0 ≤ k.toInt) (hQ : Q (if k.toInt < L.length then L.getD k.toNatClampNeg 0 else -1) S) : wX6_get S 3 k Q := by
  have hF := h.fix
  obtain ⟨_, _, _, hl, h72, hi, _⟩ := h
  have ek := nj_of hk
  unfold wX6_get wX6_get_21
  rw [hl]
  refine ⟨fun z => ?_, fun _ => ⟨fn_3 hF, fk_3 hF, fun z => ?_, fun z => ⟨4, fr_3_0 hF, fn_4 hF, fk_4 hF, fun z2 => ?_, fun z2 => ?_⟩⟩⟩
  · have := le_of_lt32 z; rw [t0] at this; omega
  · have := le_32 z
    rw [nj_int (by omega)] at this
    rw [if_neg (by omega)] at hQ; exact hQ
  · have := le_of_lt32 (Int32.not_le.mp z)
    rw [nj_int (by omega)] at this
    rw [if_pos (by omega)] at hQ
    have hc : k.toNatClampNeg = k.toInt.toNat := rfl
    rw [fl_4 hF, hi _ (by rw [hc]; omega)]
    refine ⟨?_, hQ⟩
    rw [fl_4 hF] at z2
    rw [ek]
    exact nj_in (by omega) (by omega)
  · exfalso
    have := le_of_lt32 (Int32.not_le.mp z)
    rw [nj_int (by omega)] at this
    apply z2
    rw [fl_4 hF, ek]
    exact (nj_lt (by omega) (by omega)).mpr (by omega)
theorem shown_ok {S : GS} {cap n E P lg pl : Nat} {oP oM : Option Nat} {dP : Int32 × Int32} {x y z : Int32} (h : Inw S cap n E P lg pl oP oM dP) (hcap : cap < 48) : wX8_shown S 0 x y z (fun r S1 => ∀ S1', Oa S1 S1' → wX9_shown S1' 14 x y z (fun b S2 => b = r ∧ Rq S1' S2 0 cap)) (fun X S1 => X = "java/lang/IndexOutOfBoundsException" ∧ ∀ S1', Oa S1 S1' → wX9_shown S1' 14 x y z (fun _ S2 => Rq S1' S2 1 cap)) := by
  obtain ⟨⟨hF, hcl⟩, i2, i3, i4, i5, i6, i7⟩ := id h
  have hE : E ≤ 24 := by have := i3.1; have := i3.2.1; have := i3.2.2.2.2.1; omega
  have hn : n ≤ 48 := by have := i3.1; have := i3.2.1; omega
  have bad31 : ∀ S1', Oa S S1' → wX9_shown_31 (fun _ S2 => Rq S1' S2 1 cap) 14 x y z 14 1 S1' := by
    intro S1' ha
    have h1 := h.oa (by omega) ha
    have f1 := h1.1.1
    refine ⟨fn_14 f1, fk_14 f1, fun S3 e3 => ?_⟩
    have t3 : gX S3 14 32 = 1 := by rw [e3, x_sX, if_pos ⟨rfl, rfl⟩]
    have hR : Rq S1' S3 1 cap := by rw [e3]; exact rq_thr h1 hcap (by decide)
    rw [t3]
    exact ⟨by rw [e3]; exact fn_14 f1, by rw [e3]; exact fk_14 f1, fun w => absurd w (by decide), fun _ => hR⟩
  have bad : ((x < 0 ∨ nI E ≤ x) ∨ ∃ i, i < E ∧ x = nI i ∧ (y < 0 ∨ nI (2 + one (gX S 32 i) + one (gX S 33 i)) ≤ y ∨ z < 0)) → ∀ S1', Oa S S1' → wX9_shown S1' 14 x y z (fun _ S2 => Rq S1' S2 1 cap) := by
    intro hb S1' ha
    have h1 := h.oa (by omega) ha
    have f1 := h1.1.1
    unfold wX9_shown wX9_shown_30
    refine ⟨fn_14 f1, fk_14 f1, q_isEvent (E := E) f1 h1.2.2.2.2.2.1.2.1 (by omega) (fun i hi ei _ => ⟨fun w => absurd w (by decide), fun _ => ⟨fun _ => bad31 S1' ha, fun z0 => ?_⟩⟩) (fun _ _ => ⟨fun _ => bad31 S1' ha, fun w => absurd rfl w⟩)⟩
    rw [ei]
    refine q_linesOf f1 (by omega) (fun _ => ?_)
    rw [← ei]
    refine ⟨fun _ => bad31 S1' ha, fun z1 => ⟨fun _ => bad31 S1' ha, fun z2 => ?_⟩⟩
    exfalso
    rw [ha.X] at z1
    rcases hb with (w | w) | ⟨i', hi', ei', w⟩
    · rw [ei] at w; exact nj_nneg (by omega) w
    · rw [ei] at w; have := (nj_le (by omega) (by omega)).mp w; omega
    · have : i' = i := by
        rw [ei] at ei'
        exact ((nj_eq (by omega) (by omega)).mp ei').symm
      subst this
      rcases w with w | w | w
      · exact z0 w
      · exact z1 w
      · exact z2 w
  unfold wX8_shown wX8_shown_32
  refine ⟨fn_0 hF, fk_0 hF, 6, fr_0_3 hF, fn_6 hF, fk_6 hF, q_getE hF i6.1 (by omega) (fun i hi ei _ => ?_) (fun hb _ => ⟨fun _ => ⟨rfl, bad (Or.inl hb)⟩, fun q hq => absurd hq (by simp)⟩)⟩
  obtain ⟨q, e1, e2, e3⟩ := i6.2.2 i hi
  obtain ⟨b, e, hv⟩ := e3.b
  have h14 : gX S q 14 = nI (2 + one (gX S 32 i) + one (gX S 33 i)) := by
    obtain ⟨_, _, _, _, _, _, _, _, _, _, _, _, _, _, _, _, _, w, _, _⟩ := hv
    exact w
  rw [e1]
  refine ⟨fun w => absurd w (by simp), fun q' hq' => ?_⟩
  injection hq' with hq'
  subst hq'
  rw [h14]
  refine ⟨fun w => ⟨rfl, bad (Or.inr ⟨i, hi, ei, Or.inl w⟩)⟩, fun w0 => ⟨e2.2.1, e2.2.2, fun w => ⟨rfl, bad (Or.inr ⟨i, hi, ei, Or.inr (Or.inl w)⟩)⟩, fun w1 => ⟨fun w2 => ?_, fun w => ⟨rfl, bad (Or.inr ⟨i, hi, ei, Or.inr (Or.inr (Int32.not_le.mp w))⟩)⟩⟩⟩⟩
  have c1 := one_cases (gX S 32 i)
  have c2 := one_cases (gX S 33 i)
  have hy0 : 0 ≤ y.toInt := by have := le_32 (Int32.not_lt.mp w0); rw [t0] at this; exact this
  have hz0 : 0 ≤ z.toInt := by have := le_32 w2; rw [t0] at this; exact this
  obtain ⟨l, hl, el⟩ : ∃ l : Nat, l < 2 + one (gX S 32 i) + one (gX S 33 i) ∧ y = nI l := by
    refine ⟨y.toInt.toNat, ?_, nj_of hy0⟩
    have := le_of_lt32 (Int32.not_le.mp w1)
    rw [nj_int (by omega)] at this
    omega
  subst el ei
  obtain ⟨hmn, hm21⟩ := lnO_ok hv (by omega) hl
  have hev := hv
  obtain ⟨hb, he, hbe, h30, h31, h3, h4e, h5, h6, h7, h8, h9, h10, h11, h12, h13, h14', h15, h16, h17⟩ := hev
  generalize hm : lnO (gX S 32 i) (gX S 33 i) b e l = m at hmn hm21
  obtain ⟨_, _, _, g4, g5, _⟩ := i4 m hmn
  obtain ⟨s, k, c, hs, hk, hc, r23, r24, r25, hok⟩ := g5 (g4 hm21)
  obtain ⟨_, _, _, gb4, gb5, _⟩ := i4 b hb
  have tb := rng_time (gb5 (gb4 h3))
  obtain ⟨_, _, _, ge4, ge5, _⟩ := i4 e he
  have te := rng_time (ge5 (ge4 h4e))
  -- its time
  obtain ⟨t, ht⟩ : ∃ t, t = (if m = e then gX S 26 e else gX S 26 b) := ⟨_, rfl⟩
  have tt : 0 ≤ t.toInt ∧ t.toInt ≤ 99999999 := by rw [ht]; split <;> assumption
  have hokt : okT s (gX S 27 m) t (gX S 28 (3 * m)) (gX S 28 (3 * m + 1)) (gX S 28 (3 * m + 2)) (gX S 29 m) := okT_eq hok tt (fun _ => ⟨rfl, rfl⟩) (fun _ => rfl) (fun _ => rfl)
  obtain ⟨p1, p2, p3⟩ := wr_pr (k := k) (c := c) hs hokt
  refine ⟨5, fr_0_2 hF, q_tell hF i4 (by omega) e2 hv hl (fun S19 h19 _ => ?_)⟩
  rw [hm, ← ht] at h19
  obtain ⟨a19, n0, n1, n3, n4, n5, n7, n8⟩ := h19
  have f19 : Fix S19 := hF.ag a19
  have hs1 : s = 1 → gX S 23 m = 1 := fun w => by rw [r23, w]; rfl
  have q2 : (s = 1 ∨ s = 2 ∨ s = 3) → gX S19 5 5 = gX S 28 (3 * m) ∧ gX S19 5 6 = gX S 28 (3 * m + 1) := fun w => n5 (by rw [r23]; rcases w with w | w | w <;> rw [w] <;> decide)
  have q3 : s = 1 → gX S19 5 7 = gX S 28 (3 * m + 2) := fun w => n7 (hs1 w)
  have q4 : (s = 1 ∨ s = 5) → gX S19 5 8 = gX S 29 m := fun w => n8 (by rw [r23]; rcases w with w | w <;> rw [w] <;> decide)
  refine ⟨3, fr_0_1 f19, 5, fr_0_2 f19, fn_5 f19, fk_5 f19, q_putOn (tx := 3) (rw := 4) (s := s) (k := k) (c := c) f19 (Or.inr ⟨rfl, rfl⟩) (by rw [n0, r23]) hs (fun w => ?_) ?_ (fun S33 h33 _ => ?_)⟩
  · have := n1 (by rw [r23]; have : s = 0 ∨ s = 1 := by omega
                   rcases this with w | w <;> rw [w] <;> decide)
    rw [this.1, this.2, r24, r25]
    exact ⟨⟨rfl, hk⟩, ⟨rfl, hc⟩⟩
  · rw [n3, n4]
    exact okT_eq hokt tt q2 q3 q4
  rw [n3, n4, wrL_eq hs q2 q3 q4] at h33
  refine ⟨3, fr_0_1 h33.fix, fn_3 h33.fix, fk_3 h33.fix, q_getP h33 hz0 (fun _ S1' ha => ?_)⟩
  obtain ⟨_, _, a33, _, _, _, _⟩ := h33
  have s1 : Sc S S1' := ((Sc.ag a19 (fun k j y => by unfold scP; omega)).tr (Sc.ag a33 (fun k j y => by unfold pT at y; unfold scP; omega))).tr ha.sc
  have x1 := ha.X
  have j2 : I2 S1' pl := i2.sc (by rw [x1, a33.X 1 1 (by unfold pT; omega), a19.X 1 1 (by omega)]) (by rw [x1, a33.X 14 1 (by unfold pT; omega), a19.X 14 1 (by omega)]) (fun i => by rw [x1, a33.X 2 i (by unfold pT; omega), a19.X 2 i (by omega)]) (fun i => by rw [x1, a33.X 15 i (by unfold pT; omega), a19.X 15 i (by omega)])
  have h1 := h.sc s1 j2 (Nat.le_refl _) (by omega)
  have f1 := h1.1.1
  have y1 : ∀ a j, 19 ≤ a → a ≤ 33 → gX S1' a j = gX S a j := fun a j u1 u2 => s1.2.2.2.2.1 a j (by unfold scP; omega)
  have okd := h16.okD (by omega)
  have oko := h17.okD (by omega)
  have hvm := nj_in (n := 512) (show m < 512 by omega) (by omega)
  have hcm := nj_clamp (show m < 2147483648 by omega)
  have hvi := nj_in (n := 40) (show i < 40 by omega) (by omega)
  have hci := nj_clamp (show i < 2147483648 by omega)
  -- the reference
  refine ⟨fn_14 f1, fk_14 f1, q_isEvent (E := E) f1 h1.2.2.2.2.2.1.2.1 (by omega) (fun j hj ej _ => ⟨fun w => absurd w (by decide), fun _ => ⟨fun w => absurd w w0, fun _ => ?_⟩⟩) (fun hb' => ?_)⟩
  · refine q_linesOf f1 (by omega) (fun _ => ?_)
    rw [y1 32 i (by omega) (by omega), y1 33 i (by omega) (by omega)]
    refine ⟨fun w => absurd w w1, fun _ => ⟨fun w => ?_, fun _ => ⟨fn_14 f1, fk_14 f1, fun S44 e44 => ?_⟩⟩⟩
    · exfalso
      have := le_of_lt32 w; rw [t0] at this; omega
    have t44 : gX S44 14 32 = 0 := by rw [e44, x_sX, if_pos ⟨rfl, rfl⟩]
    have f44 : Fix S44 := by rw [e44]; exact f1.x _ _ _
    have y44 : ∀ a j, 19 ≤ a → a ≤ 33 → gX S44 a j = gX S a j := fun a j u1 u2 => by rw [e44, x_sX, if_neg (by omega)]; exact y1 a j u1 u2
    rw [t44]
    refine ⟨fn_14 f44, fk_14 f44, fun _ => q_lineOf f44 (by omega) ((y44 30 i (by omega) (by omega)).trans h30) ((y44 31 i (by omega) (by omega)).trans h31) (y44 32 i (by omega) (by omega)) (y44 33 i (by omega) (by omega)) okd oko hl (fun _ => ?_), fun w => absurd rfl w⟩
    rw [hm, hcm]
    refine ⟨23, fr_14_12 f44, fn_23 f44, fk_23 f44, by rw [fl_23 f44]; exact hvm, 24, fr_14_13 f44, fn_24 f44, fk_24 f44, by rw [fl_24 f44]; exact hvm, 25, fr_14_14 f44, fn_25 f44, fk_25 f44, by rw [fl_25 f44]; exact hvm, ?_⟩
    rw [y44 23 m (by omega) (by omega), y44 24 m (by omega) (by omega), y44 25 m (by omega) (by omega), r23, r24, r25]
    refine q_makeMould f44 hs hk hc (fun S70 h70 _ => ?_)
    have f70 := h70.fix
    have y70 : ∀ a j, 19 ≤ a → a ≤ 33 → gX S70 a j = gX S a j := fun a j u1 u2 => by rw [h70.2.1.X a j (by unfold pM; omega)]; exact y44 a j u1 u2
    have fin : wX9_shown_108 (fun b S2 => b = (if z.toInt < ((wrL s k c (gX S 27 m) t (gX S 28 (3 * m)) (gX S 28 (3 * m + 1)) (gX S 28 (3 * m + 2)) (gX S 29 m)).length : Int) then (wrL s k c (gX S 27 m) t (gX S 28 (3 * m)) (gX S 28 (3 * m + 1)) (gX S 28 (3 * m + 2)) (gX S 29 m)).getD z.toNatClampNeg 0 else -1) ∧ Rq S1' S2 0 cap) 14 z (nI m) t S70 := by
      refine ⟨fn_14 f70, fk_14 f70, 23, fr_14_12 f70, fn_23 f70, fk_23 f70, by rw [fl_23 f70]; exact hvm, 27, fr_14_16 f70, fn_27 f70, fk_27 f70, by rw [fl_27 f70]; exact hvm, 28, fr_14_17 f70, fn_28 f70, fk_28 f70, ?_⟩
      have m2 : 3 * nI m + 2 = nI (3 * m + 2) := mul3 m 2
      rw [m2, mul3o, mul3z, fl_28 f70, hcm, nj_clamp (show 3 * m < 2147483648 by omega), nj_clamp (show 3 * m + 1 < 2147483648 by omega), nj_clamp (show 3 * m + 2 < 2147483648 by omega), y70 23 m (by omega) (by omega), y70 27 m (by omega) (by omega), y70 28 _ (by omega) (by omega), y70 28 _ (by omega) (by omega), y70 28 _ (by omega) (by omega), r23]
      refine ⟨nj_in (by omega) (by omega), nj_in (by omega) (by omega), nj_in (by omega) (by omega), 29, fr_14_18 f70, fn_29 f70, fk_29 f70, by rw [fl_29 f70]; exact hvm, ?_⟩
      rw [y70 29 m (by omega) (by omega)]
      refine q_pourNumbers f70 hs h70.2.2.1 h70.2.2.2.1 h70.2.2.2.2 p2 (by rw [p1]; omega) (fun S25 h25 _ => ?_)
      rw [p1] at h25
      obtain ⟨a25, b5, b80, b17⟩ := h25
      have f25 : Fix S25 := f70.ag a25
      have sA : Ag (fun k j => k = 16 ∨ k = 17 ∨ k = 18 ∨ (k = 14 ∧ (j = 3 ∨ j = 5 ∨ j = 7 ∨ j = 32))) S1' S25 := by
        have u1 : Ag (fun k j => k = 16 ∨ k = 17 ∨ k = 18 ∨ (k = 14 ∧ (j = 3 ∨ j = 5 ∨ j = 7 ∨ j = 32))) S1' S44 := by rw [e44]; exact (Ag.rf _ _).x _ _ _ (by omega)
        exact (u1.tr (h70.2.1.mono (fun k j y => by unfold pM at y; omega))).tr (a25.mono (fun k j y => by unfold pW at y; omega))
      have hR : Rq S1' S25 0 cap := by
        refine ⟨?_, by rw [sA.Z], sA.2.2.2.2.2.1, n, E, P, lg, pl, oP, oM, dP, h1.sc (Sc.ag sA (fun k j y => by unfold scP; omega)) (j2.sc (sA.X 1 1 (by omega)) (sA.X 14 1 (by omega)) (fun i => sA.X 2 i (by omega)) (fun i => sA.X 15 i (by omega))) (by omega) (by omega)⟩
        rw [a25.X 14 32 (by unfold pW; omega), h70.2.1.X 14 32 (by unfold pM; omega), t44]
        decide
      rw [b5]
      refine ⟨fun w => ⟨?_, hR⟩, fun w => ⟨17, fr_14_4 f25, fn_17 f25, fk_17 f25, ?_, ?_, hR⟩⟩
      · have := le_32 w
        rw [nj_int (by omega)] at this
        rw [if_neg (by omega)]
      · rw [fl_17 f25, nj_of hz0]
        have := le_of_lt32 (Int32.not_le.mp w)
        rw [nj_int (by omega)] at this
        exact nj_in (by omega) (by omega)
      · have := le_of_lt32 (Int32.not_le.mp w)
        rw [nj_int (by omega)] at this
        have hcz : z.toNatClampNeg = z.toInt.toNat := rfl
        rw [if_pos (by omega)]
        exact b17 _ (by rw [hcz]; omega)
    refine ⟨31, fr_14_22 f70, fn_31 f70, fk_31 f70, by rw [fl_31 f70]; exact hvi, ?_⟩
    rw [hci, y70 31 i (by omega) (by omega), h31]
    refine ⟨fun w => ⟨30, fr_14_21 f70, fn_30 f70, fk_30 f70, by rw [fl_30 f70]; exact hvi, 26, fr_14_15 f70, fn_26 f70, fk_26 f70, ?_⟩, fun w => ⟨26, fr_14_15 f70, fn_26 f70, fk_26 f70, by rw [fl_26 f70]; exact hvm, ?_⟩⟩
    · rw [y70 30 i (by omega) (by omega), h30, nj_clamp (show b < 2147483648 by omega), fl_26 f70, y70 26 b (by omega) (by omega)]
      have hme : ¬ m = e := fun u => w (by rw [u])
      rw [if_neg hme] at ht
      rw [ht] at fin
      refine ⟨nj_in (by omega) (by omega), ?_⟩
      rw [ht]; exact fin
    · have hme : m = e := (nj_eq (by omega) (by omega)).mp w
      rw [if_pos hme] at ht
      rw [y70 26 m (by omega) (by omega)]
      have : gX S 26 m = t := by rw [ht, hme]
      rw [this]; exact fin
  · exfalso
    rcases hb' with w | w
    · exact nj_nneg (by omega) w
    · have := (nj_le (by omega) (by omega)).mp w; omega
