/-! CLASS AND REFERENCE JUDGE ALIKE. S: before the line (with the invariant); S4: where the reference judges. -/
/-- S4 is S below line n, and line n stands in it as it was read -/
def Vw (S S4 : GS) (n E lg s k c : Nat) (ns : List Int32) : Prop := Fix S4 ∧ Old S S4 n E ∧ gX S4 14 20 = nI lg ∧ gX S4 14 19 = nI n ∧ gX S4 14 25 = nI E ∧ gX S4 14 30 = gX S 14 30 ∧ gX S4 14 31 = gX S 14 31 ∧ Lf S4 n s k c ns
theorem le_of_lt32 {a b : Int32} (h : a < b) : a.toInt < b.toInt := Int32.lt_iff_toInt_lt.mp h
theorem lt32 {a b : Int32} (h : a.toInt < b.toInt) : a < b := Int32.lt_iff_toInt_lt.mpr h
theorem le32 {a b : Int32} (h : a.toInt ≤ b.toInt) : a ≤ b := Int32.le_iff_toInt_le.mpr h
theorem le_32 {a b : Int32} (h : a ≤ b) : a.toInt ≤ b.toInt := Int32.le_iff_toInt_le.mp h
theorem m1_int : (-1 : Int32).toInt = -1 := by decide
theorem bit_ne {x : Int32} (h : bit x) (h2 : x ≠ 0) : x = 1 := by
  rcases h with a | a
  · exact absurd a h2
  · exact a
theorem back_iff {S S4 : GS} {n E lg s k c : Nat} {ns : List Int32} (hv : Vw S S4 n E lg s k c ns) (h4 : I4 S n lg) (ha : I1a S n lg) (hx : 0 ≤ (fTm ns).toInt) : (∃ j, j < n ∧ cBk S4 n j) ↔ ¬ gX S 12 2 ≤ fTm ns := by
  obtain ⟨_, ho, h20, _, _, _, _, hl⟩ := hv
  have h26 : gX S4 26 n = fTm ns := hl.2.2.2.1
  constructor
  · rintro ⟨j, hj, a, b, d⟩ e
    rw [ho.1 19 (by omega) j hj, h20] at a
    rw [ho.1 20 (by omega) j hj] at b
    rw [h26, ho.1 26 (by omega) j hj] at d
    have h1 := ha.1 j hj a (bit_ne (h4 j hj).2.1 b)
    have h2 := le_of_lt32 d
    have h3 := le_32 e
    omega
  · intro e
    have e2 : (fTm ns).toInt < (gX S 12 2).toInt := le_of_lt32 (Int32.not_le.mp e)
    rcases ha.2 with a | ⟨j, hj, a, b, d⟩
    · rw [a, m1_int] at e2; omega
    · refine ⟨j, hj, ?_, ?_, ?_⟩
      · rw [ho.1 19 (by omega) j hj, h20]; exact a
      · rw [ho.1 20 (by omega) j hj, b]; decide
      · rw [h26, ho.1 26 (by omega) j hj, d]; exact lt32 e2
theorem stale_iff {S S4 : GS} {n E lg s k c : Nat} {ns : List Int32} (hv : Vw S S4 n E lg s k c ns) (h4 : I4 S n lg) (hb : I1b S n lg) (hx : 0 ≤ (fId ns).toInt) : (∃ j, j < n ∧ cSt S4 n j) ↔ ¬ gX S 0 9 < fId ns := by
  obtain ⟨_, ho, h20, _, _, _, _, hl⟩ := hv
  have h27 : gX S4 27 n = fId ns := hl.2.2.2.2.1
  constructor
  · rintro ⟨j, hj, a, b, z, d⟩ e
    rw [ho.1 19 (by omega) j hj, h20] at a
    rw [ho.1 21 (by omega) j hj] at b
    rw [ho.1 23 (by omega) j hj] at z
    rw [h27, ho.1 27 (by omega) j hj] at d
    have h1 := hb.1 j hj a (bit_ne (h4 j hj).2.2.1 b) z
    have h2 := le_32 d
    have h3 := le_of_lt32 e
    omega
  · intro e
    have e2 : (fId ns).toInt ≤ (gX S 0 9).toInt := le_32 (Int32.not_lt.mp e)
    rcases hb.2 with a | ⟨j, hj, a, b, z, d⟩
    · rw [a, m1_int] at e2; omega
    · refine ⟨j, hj, ?_, ?_, ?_, ?_⟩
      · rw [ho.1 19 (by omega) j hj, h20]; exact a
      · rw [ho.1 21 (by omega) j hj, b]; decide
      · rw [ho.1 23 (by omega) j hj]; exact z
      · rw [h27, ho.1 27 (by omega) j hj, d]; exact le32 e2
/-- the open pause's lines, as the reference finds them -/
theorem OpP.isD {S S4 : GS} {n E lg q b : Nat} {d o : Int32} (h : OpP S n q b d o) (h4 : I4 S n lg) (ho : Old S S4 n E) (hn : n ≤ 512) : isD S4 n b 2 d ∧ isD S4 n b 3 o := by
  obtain ⟨h0, h1, h2, h3, h4', h5, f0, f1, f2, f3, f4, f6, f7, f8, f10, f11, f12, f13, f14, l1, l2, w1, w2, u1, u2⟩ := h
  refine ⟨⟨fun j hb hj ht hs => ?_, ?_⟩, ⟨fun j hb hj ht hs => ?_, ?_⟩⟩
  · rw [ho.1 21 (by omega) j hj] at ht
    rw [ho.1 23 (by omega) j hj] at hs
    exact u1 j hb hj (bit_ne (h4 j hj).2.2.1 ht) hs
  · rcases l1 with e | ⟨j, hj, e, e1, e2, _⟩
    · exact Or.inl e
    · rcases w1 with w | w
      · exact Or.inl w
      · rw [e, nj_clamp (by omega)] at w
        exact Or.inr ⟨j, w.2, hj, by rw [ho.1 21 (by omega) j hj, e1]; decide, by rw [ho.1 23 (by omega) j hj]; exact e2, e⟩
  · rw [ho.1 21 (by omega) j hj] at ht
    rw [ho.1 23 (by omega) j hj] at hs
    exact u2 j hb hj (bit_ne (h4 j hj).2.2.1 ht) hs
  · rcases l2 with e | ⟨j, hj, e, e1, e2, _⟩
    · exact Or.inl e
    · rcases w2 with w | w
      · exact Or.inl w
      · rw [e, nj_clamp (by omega)] at w
        exact Or.inr ⟨j, w.2, hj, by rw [ho.1 21 (by omega) j hj, e1]; decide, by rw [ho.1 23 (by omega) j hj]; exact e2, e⟩
theorem mx_szo {S S4 : GS} {n E lg b : Nat} {s x : Int32} {t : Nat} (ht : t < 2) (hs : s = 2 ∨ s = 3) (h4 : I4 S n lg) (ho : Old S S4 n E) (hn : n ≤ 512) (h : Ln S n b s x) : mx (szo (gX S 28) x t) = vz (gX S4 28) x t := by
  unfold mx vz szo
  by_cases c : x = -1
  · rw [if_pos c, if_pos c, if_pos (by decide)]
  · rw [if_neg c, if_neg c]
    rcases h with z | ⟨j, hj, z, h1, h2, _⟩
    · exact absurd z c
    · obtain ⟨_, _, _, g4, g5, _⟩ := h4 j hj
      obtain ⟨s', k', c', r1, r2, r3, r4, r5, r6, r7⟩ := g5 (g4 h1)
      have hs' : s' = 2 ∨ s' = 3 := by
        rw [r4] at h2
        rcases hs with y | y
        · left; rw [y] at h2; exact (nj_eq (b := 2) (by omega) (by omega)).mp h2
        · right; rw [y] at h2; exact (nj_eq (b := 3) (by omega) (by omega)).mp h2
      have ok := r7.2.2.1 (by omega)
      rw [z, nj_clamp (by omega), ho.2.1 (3 * j + t) (by omega)]
      rw [if_neg]
      intro a
      have a := le_of_lt32 a
      rw [t0] at a
      have ht2 : t = 0 ∨ t = 1 := by omega
      rcases ht2 with y | y
      · subst y
        have := ok.1.1
        rw [Nat.add_zero] at a
        omega
      · subst y
        have := ok.2.1
        omega
/-- the end of a pause is wrong for both or for neither -/
theorem wrong_iff {S S2 S4 : GS} {n E lg q b k c : Nat} {d o : Int32} {ns : List Int32} (hv : Vw S S4 n E lg 1 k c ns) (h4 : I4 S n lg) (hop : OpP S n q b d o) (hn : n ≤ 512) (he : ∀ j, gX S2 5 j = gX S2 5 j) (hq : ∀ j, gX S2 q j = gX S q j) (e1 : gX S2 5 1 = nI k) (e2 : gX S2 5 2 = nI c) (e4 : gX S2 5 4 = fTm ns) (e5 : gX S2 5 5 = fSz ns 0) (e6 : gX S2 5 6 = fSz ns 1) (e7 : gX S2 5 7 = fSz ns 2) (e8 : gX S2 5 8 = fTk 1 ns) : cw1 S2 q ↔ wr1 S4 n b d o := by
  obtain ⟨_, ho, _, _, _, _, _, l23, l24, l25, l26, l27, l28, l29⟩ := hv
  obtain ⟨h0, h1, h2, h3, h4', h5, f0, f1, f2, f3, f4, f6, f7, f8, f10, f11, f12, f13, f14, l1, l2, w1, w2, u1, u2⟩ := hop
  have z0 := l28 0 (by decide)
  have z1 := l28 1 (by decide)
  have z2 := l28 2 (by decide)
  rw [Nat.add_zero] at z0
  unfold cw1 wr1
  rw [hq, hq, hq, hq, hq, hq, hq, e1, e2, e4, e5, e6, e7, e8, f2, f3, f4, f10, f11, f12, f13, mx_szo (by omega) (Or.inl rfl) h4 ho hn l1, mx_szo (by omega) (Or.inr rfl) h4 ho hn l2, mx_szo (by omega) (Or.inl rfl) h4 ho hn l1, mx_szo (by omega) (Or.inr rfl) h4 ho hn l2, l24, l25, l26, l29, z0, z1, z2, ho.1 24 (by omega) b h1, ho.1 25 (by omega) b h1, ho.1 26 (by omega) b h1]
  constructor
  · rintro (a | a | a | a | a | a | a)
    · exact Or.inl a
    · exact Or.inr (Or.inl a)
    · exact Or.inr (Or.inr (Or.inr (Or.inl a)))
    · exact Or.inr (Or.inr (Or.inr (Or.inr (Or.inr (Or.inl a)))))
    · exact Or.inr (Or.inr (Or.inr (Or.inr (Or.inl a))))
    · exact Or.inr (Or.inr (Or.inr (Or.inr (Or.inr (Or.inr a)))))
    · exact Or.inr (Or.inr (Or.inl a))
  · rintro (a | a | a | a | a | a | a)
    · exact Or.inl a
    · exact Or.inr (Or.inl a)
    · exact Or.inr (Or.inr (Or.inr (Or.inr (Or.inr (Or.inr a)))))
    · exact Or.inr (Or.inr (Or.inl a))
    · exact Or.inr (Or.inr (Or.inr (Or.inr (Or.inl a))))
    · exact Or.inr (Or.inr (Or.inr (Or.inl a)))
    · exact Or.inr (Or.inr (Or.inr (Or.inr (Or.inr (Or.inl a)))))
