/-! ONE LINE MORE: each part of the invariant. -/
/-- rows and places that a line leaves alone -/
theorem evP.nx {S S6 : GS} {q : Nat} (hN : gN S ≤ gN S6) (hK : ∀ k, k < gN S → gK S6 k = gK S k) (h : evP S q) : evP S6 q :=
  ⟨h.1, by have := h.2.1; omega, by rw [hK q h.2.1]; exact h.2.2⟩
theorem I4.nx {S S6 : GS} {n E lg : Nat} (h : I4 S n lg) (ho : Old S S6 n E) (how : ∀ j, j < n → gX S6 22 j = 0 ∨ gX S6 22 j = 1 ∨ gX S6 22 j = 2) (h19 : gX S6 19 n = nI lg) (h20 : bit (gX S6 20 n)) (h21 : bit (gX S6 21 n)) (ht : gX S6 21 n = 1 → gX S6 20 n = 1) (hr : gX S6 20 n = 1 → Rng S6 n) (hw : gX S6 22 n = 0 ∨ gX S6 22 n = 1 ∨ gX S6 22 n = 2) : I4 S6 (n + 1) lg := by
  have h' := I4.old ho how h
  intro j hj
  by_cases e : j = n
  · subst e
    exact ⟨⟨lg, Nat.le_refl _, h19⟩, h20, h21, ht, hr, hw⟩
  · exact h' j (by omega)
theorem I5.nx {S S6 : GS} {P n : Nat} {w fa : Int32} (h : I5 S P) (hP : P < 512) (h29 : gX S6 14 29 = nI (P + 1)) (h34 : gX S6 34 P = w) (h35 : gX S6 35 P = nI n) (h36 : gX S6 36 P = fa) (hold : ∀ k, (k = 34 ∨ k = 35 ∨ k = 36) → ∀ j, j < P → gX S6 k j = gX S k j) (h83 : gX S6 8 3 = gX S 8 3 + 1) (r9 : ∀ k, k < 12 → gX S6 9 k = if k = 0 then w else gX S 9 (k - 1)) (r10 : ∀ k, k < 12 → gX S6 10 k = if k = 0 then nI (n + 1) else gX S 10 (k - 1)) (r11 : ∀ k, k < 12 → gX S6 11 k = if k = 0 then fa else gX S 11 (k - 1)) : I5 S6 (P + 1) := by
  obtain ⟨a, b, c⟩ := h
  refine ⟨h29, by rw [h83, b, nj_succ], fun k hk hkP => ?_⟩
  rw [r9 k hk, r10 k hk, r11 k hk]
  by_cases e : k = 0
  · subst e
    rw [if_pos rfl, if_pos rfl, if_pos rfl, show P + 1 - 1 - 0 = P by omega, h34, h35, h36, nj_succ]
    exact ⟨rfl, rfl, rfl⟩
  · rw [if_neg e, if_neg e, if_neg e, show P + 1 - 1 - k = P - 1 - (k - 1) by omega]
    obtain ⟨c1, c2, c3⟩ := c (k - 1) (by omega) (by omega)
    rw [hold 34 (by omega) _ (by omega), hold 35 (by omega) _ (by omega), hold 36 (by omega) _ (by omega)]
    exact ⟨c1, c2, c3⟩
theorem I5.same {S S6 : GS} {P : Nat} (h : I5 S P) (h29 : gX S6 14 29 = gX S 14 29) (hold : ∀ k, (k = 34 ∨ k = 35 ∨ k = 36) → ∀ j, j < P → gX S6 k j = gX S k j) (h83 : gX S6 8 3 = gX S 8 3) (r : ∀ a, (a = 9 ∨ a = 10 ∨ a = 11) → ∀ k, gX S6 a k = gX S a k) : I5 S6 P := by
  obtain ⟨a, b, c⟩ := h
  refine ⟨by rw [h29]; exact a, by rw [h83]; exact b, fun k hk hkP => ?_⟩
  rw [r 9 (by omega), r 10 (by omega), r 11 (by omega), hold 34 (by omega) _ (by omega), hold 35 (by omega) _ (by omega), hold 36 (by omega) _ (by omega)]
  exact c k hk hkP
theorem I6.nx {S S6 : GS} {n E : Nat} (h : I6 S n E) (hn5 : n ≤ 512) (ho : Old S S6 n E) (hN : gN S ≤ gN S6) (hK : ∀ k, k < gN S → gK S6 k = gK S k) (h61 : gX S6 6 1 = gX S 6 1) (h25 : gX S6 14 25 = gX S 14 25) (hr : ∀ i, i < E → gR S6 7 i = gR S 7 i) (hq : ∀ i q, i < E → gR S 7 i = some q → ∀ j, gX S6 q j = gX S q j) : I6 S6 (n + 1) E := by
  refine ⟨by rw [h61]; exact h.1, by rw [h25]; exact h.2.1, fun i hi => ?_⟩
  obtain ⟨q, h1, h2, h3⟩ := h.2.2 i hi
  exact ⟨q, by rw [hr i hi]; exact h1, h2.nx hN hK, h3.old ho (by omega) hn5 hi (hq i q hi h1)⟩
theorem OpP.nx {S S6 : GS} {n E q b : Nat} {d o : Int32} (h : OpP S n q b d o) (hn5 : n ≤ 512) (ho : Old S S6 n E) (hN : gN S ≤ gN S6) (hK : ∀ k, k < gN S → gK S6 k = gK S k) (h30 : gX S6 14 30 = gX S 14 30) (how : ∀ j, j < n → gX S6 22 j = gX S 22 j) (hq : ∀ j, gX S6 q j = gX S q j) (hn2 : gX S6 21 n = 1 → gX S6 23 n ≠ 2 ∧ gX S6 23 n ≠ 3) : OpP S6 (n + 1) q b d o := by
  obtain ⟨h0, h1, h2, h3, h4, h5, f0, f1, f2, f3, f4, f6, f7, f8, f10, f11, f12, f13, f14, l1, l2, w1, w2, u1, u2⟩ := h
  have r23 := ho.1 23 (by omega) b h1
  have r24 := ho.1 24 (by omega) b h1
  have r25 := ho.1 25 (by omega) b h1
  have r26 := ho.1 26 (by omega) b h1
  have r27 := ho.1 27 (by omega) b h1
  have r21 := ho.1 21 (by omega) b h1
  refine ⟨h0.nx hN hK, by omega, by rw [h30]; exact h2, by rw [r21]; exact h3, by rw [r23]; exact h4, by rw [how b h1]; exact h5, by rw [hq]; exact f0, by rw [hq, r27]; exact f1, by rw [hq, r25]; exact f2, by rw [hq, r26]; exact f3, by rw [hq, r24]; exact f4, by rw [hq]; exact f6, by rw [hq]; exact f7, by rw [hq]; exact f8, ?_, ?_, ?_, ?_, by rw [hq]; exact f14, l1.old ho h1 (by omega), l2.old ho h1 (by omega), ?_, ?_, ?_, ?_⟩
  · rw [hq, szo_old ho hn5 l1.lno 0 (by omega)]; exact f10
  · rw [hq, szo_old ho hn5 l1.lno 1 (by omega)]; exact f11
  · rw [hq, szo_old ho hn5 l2.lno 0 (by omega)]; exact f12
  · rw [hq, szo_old ho hn5 l2.lno 1 (by omega)]; exact f13
  · rcases l1.lno with e | ⟨j, hj, e⟩
    · exact Or.inl e
    · rcases w1 with w | w
      · exact Or.inl w
      · right
        rw [e, nj_clamp (by omega)] at w ⊢
        rw [how j hj]; exact w
  · rcases l2.lno with e | ⟨j, hj, e⟩
    · exact Or.inl e
    · rcases w2 with w | w
      · exact Or.inl w
      · right
        rw [e, nj_clamp (by omega)] at w ⊢
        rw [how j hj]; exact w
  · intro j hb hj ht hs
    by_cases e : j = n
    · subst e; exact absurd hs (hn2 ht).1
    · rw [ho.1 21 (by omega) j (by omega)] at ht
      rw [ho.1 23 (by omega) j (by omega)] at hs
      exact u1 j hb (by omega) ht hs
  · intro j hb hj ht hs
    by_cases e : j = n
    · subst e; exact absurd hs (hn2 ht).2
    · rw [ho.1 21 (by omega) j (by omega)] at ht
      rw [ho.1 23 (by omega) j (by omega)] at hs
      exact u2 j hb (by omega) ht hs
theorem OpM.nx {S S6 : GS} {n E q b : Nat} (h : OpM S n q b) (ho : Old S S6 n E) (hN : gN S ≤ gN S6) (hK : ∀ k, k < gN S → gK S6 k = gK S k) (h31 : gX S6 14 31 = gX S 14 31) (how : gX S6 22 b = gX S 22 b) (hq : ∀ j, gX S6 q j = gX S q j) : OpM S6 (n + 1) q b := by
  obtain ⟨h0, h1, h2, h3, h4, h5, f0, f1, f2, f3, f4, f6, f7, f8, f10, f11, f12, f13, f14⟩ := h
  have r23 := ho.1 23 (by omega) b h1
  have r26 := ho.1 26 (by omega) b h1
  have r27 := ho.1 27 (by omega) b h1
  have r21 := ho.1 21 (by omega) b h1
  exact ⟨h0.nx hN hK, by omega, by rw [h31]; exact h2, by rw [r21]; exact h3, by rw [r23]; exact h4, by rw [how]; exact h5, by rw [hq]; exact f0, by rw [hq, r27]; exact f1, by rw [hq]; exact f2, by rw [hq, r26]; exact f3, by rw [hq]; exact f4, by rw [hq]; exact f6, by rw [hq]; exact f7, by rw [hq]; exact f8, by rw [hq]; exact f10, by rw [hq]; exact f11, by rw [hq]; exact f12, by rw [hq]; exact f13, by rw [hq]; exact f14⟩
theorem I7.nx {S S6 : GS} {n E : Nat} {oP : Option Nat} {dP : Int32 × Int32} (h : I7 S n E oP dP) (hn5 : n ≤ 512) (ho : Old S S6 n E) (hN : gN S ≤ gN S6) (hK : ∀ k, k < gN S → gK S6 k = gK S k) (h07 : gR S6 0 7 = gR S 0 7) (h30 : gX S6 14 30 = gX S 14 30) (how : ∀ j, j < n → gX S6 22 j = gX S 22 j) (hr : ∀ i, i < E → gR S6 7 i = gR S 7 i) (hq : ∀ q, oP = some q → evP S q → ∀ j, gX S6 q j = gX S q j) (hn2 : gX S6 21 n = 1 → gX S6 23 n ≠ 2 ∧ gX S6 23 n ≠ 3) : I7 S6 (n + 1) E oP dP := by
  cases oP with
  | none =>
    obtain ⟨a, b⟩ : gR S 0 7 = none ∧ gX S 14 30 = -1 := h
    exact ⟨by rw [h07]; exact a, by rw [h30]; exact b⟩
  | some q =>
    obtain ⟨a, ⟨b, hb⟩, c⟩ : gR S 0 7 = some q ∧ (∃ b, OpP S n q b dP.1 dP.2) ∧ ∀ i, i < E → gR S 7 i ≠ some q := h
    exact ⟨by rw [h07]; exact a, ⟨b, hb.nx hn5 ho hN hK h30 how (hq q rfl hb.1) hn2⟩, fun i hi => by rw [hr i hi]; exact c i hi⟩
theorem I8.nx {S S6 : GS} {n E : Nat} {oP oM : Option Nat} (h : I8 S n E oP oM) (ho : Old S S6 n E) (hN : gN S ≤ gN S6) (hK : ∀ k, k < gN S → gK S6 k = gK S k) (h08 : gR S6 0 8 = gR S 0 8) (h31 : gX S6 14 31 = gX S 14 31) (how : ∀ j, j < n → gX S 23 j = 4 → gX S6 22 j = gX S 22 j) (hr : ∀ i, i < E → gR S6 7 i = gR S 7 i) (hq : ∀ q, oM = some q → evP S q → oP ≠ some q → ∀ j, gX S6 q j = gX S q j) : I8 S6 (n + 1) E oP oM := by
  cases oM with
  | none =>
    obtain ⟨a, b⟩ : gR S 0 8 = none ∧ gX S 14 31 = -1 := h
    exact ⟨by rw [h08]; exact a, by rw [h31]; exact b⟩
  | some q =>
    obtain ⟨a, ⟨b, hb⟩, c, d⟩ : gR S 0 8 = some q ∧ (∃ b, OpM S n q b) ∧ (∀ i, i < E → gR S 7 i ≠ some q) ∧ oP ≠ some q := h
    exact ⟨by rw [h08]; exact a, ⟨b, hb.nx ho hN hK h31 (how b hb.2.1 hb.2.2.2.2.1) (hq q rfl hb.1 d)⟩, fun i hi => by rw [hr i hi]; exact c i hi, d⟩
theorem I9.nx {S S6 : GS} {n E lg : Nat} (h : I9 S E lg) (h6 : I6 S n E) (hn5 : n ≤ 512) (ho : Old S S6 n E) (h1 : gX S6 13 1 = gX S 13 1) (hz : ∀ j, gZ S6 13 j = gZ S 13 j) (hr0 : gR S6 13 0 = gR S 13 0) (hr : ∀ i, i < E → gR S6 7 i = gR S 7 i) : I9 S6 E lg := by
  have hx := h6.idx
  obtain ⟨a, b, c, d, e, f⟩ := h
  refine ⟨by rw [h1, cntP_old ho hx hn5 E (Nat.le_refl _)]; exact a, by rw [hz, sumT_old ho hx hn5 E (Nat.le_refl _)]; exact b, by rw [hz, sumO_old ho hx hn5 E (Nat.le_refl _)]; exact c, by rw [hz, sumA_old ho hx hn5 E (Nat.le_refl _)]; exact d, by rw [hz, sumB_old ho hx hn5 E (Nat.le_refl _)]; exact e, ?_⟩
  rw [hr0, ahd_old ho hx hn5 _ E (Nat.le_refl _), f]
  cases ha : ahd S (nI lg) E with
  | none => rfl
  | some i =>
    have := ahd_lt S _ _ _ ha
    simp only [Option.bind_some]
    rw [hr i this]
theorem I10.no {S S6 : GS} {n E lg : Nat} (h : I10 S n lg) (ho : Old S S6 n E) (hz : gZ S6 12 0 = gZ S 12 0) (h1 : gX S6 12 1 = gX S 12 1) (h2 : gX S6 12 2 = gX S 12 2) (h20 : gX S6 20 n = 0) : I10 S6 (n + 1) lg := by
  have hs : spn S6 (n + 1) = spn S n := by
    rw [spn, if_pos h20, spn_old ho n (Nat.le_refl _)]
  unfold I10
  rw [hs, hz, h1, h2]
  refine ⟨h.1, ?_⟩
  rcases h.2 with ⟨a, b, c⟩ | ⟨a, b, c, j, d, e, f⟩
  · refine Or.inl ⟨a, b, fun j hj => ?_⟩
    rw [ho.1 19 (by omega) j (spn_lt S n j hj)]
    exact c j hj
  · refine Or.inr ⟨a, b, c, j, d, ?_, ?_⟩
    · rw [ho.1 19 (by omega) j (spn_lt S n j d)]; exact e
    · rw [ho.1 26 (by omega) j (spn_lt S n j d)]; exact f
theorem i64_sub3 {a b c : Int32} (ha : 0 ≤ a.toInt) (hab : a.toInt ≤ b.toInt) (hbc : b.toInt ≤ c.toInt) : (b - a).toInt64 + (c - b).toInt64 = (c - a).toInt64 := by
  have hc := Int32.toInt_lt c
  have hb := Int32.toInt_lt b
  have e1 : (b - a).toInt = b.toInt - a.toInt := i32_sub (by omega) (by omega)
  have e2 : (c - b).toInt = c.toInt - b.toInt := i32_sub (by omega) (by omega)
  have e3 : (c - a).toInt = c.toInt - a.toInt := i32_sub (by omega) (by omega)
  apply Int64.toInt_inj.mp
  rw [lg_i2l_add, Int32.toInt_toInt64, e1, e2, e3]
  omega
theorem I10.yes {S S6 : GS} {n E lg : Nat} {x : Int32} (h : I10 S n lg) (ho : Old S S6 n E) (hz : gZ S6 12 0 = gZ S 12 0) (h1 : gX S6 12 1 = (if gX S 12 1 = -1 then x else gX S 12 1)) (h2 : gX S6 12 2 = x) (h20 : gX S6 20 n = 1) (h19 : gX S6 19 n = nI lg) (h26 : gX S6 26 n = x) (hx : 0 ≤ x.toInt ∧ x.toInt ≤ 99999999) (hle : (gX S 12 2).toInt ≤ x.toInt) : I10 S6 (n + 1) lg := by
  have h20' : ¬ gX S6 20 n = 0 := by rw [h20]; decide
  have hm1 : (-1 : Int32).toInt = -1 := by decide
  have h0 : ∀ y : Int32, (y - y).toInt64 = 0 := by
    intro y
    have : y - y = 0 := Int32.sub_self y
    rw [this]; decide
  have hso := spn_old ho n (Nat.le_refl _)
  obtain ⟨a, b⟩ := h
  unfold I10
  rw [hz, h2]
  rcases b with ⟨b1, b2, b3⟩ | ⟨b1, b2, b3, j, b4, b5, b6⟩
  · rw [if_pos b1] at h1
    rw [h1]
    rw [b1, b2, h0] at a
    have hk : spn S6 (n + 1) = ((spn S n).1, some n) := by
      rw [spn, if_neg h20', hso]
      cases hz2 : (spn S n).2 with
      | none => rfl
      | some b =>
        have hb := b3 b hz2
        have hlt := spn_lt S n b hz2
        simp only
        rw [if_neg]
        rw [ho.1 19 (by omega) b hlt, h19]
        exact hb
    rw [hk]
    refine ⟨by rw [h0]; exact a, Or.inr ⟨hx.1, Int.le_refl _, hx.2, n, rfl, h19, h26⟩⟩
  · have hlt := spn_lt S n j b4
    have hne : ¬ gX S 12 1 = -1 := by intro c; rw [c, hm1] at b1; omega
    rw [if_neg hne] at h1
    have c19 : gX S6 19 j = gX S6 19 n := by rw [ho.1 19 (by omega) j hlt, h19]; exact b5
    have hk : spn S6 (n + 1) = ((spn S n).1 + (x - gX S 12 2).toInt64, some n) := by
      rw [spn, if_neg h20', hso, b4]
      simp only
      rw [if_pos c19, h26, ho.1 26 (by omega) j hlt, b6]
    rw [h1, hk]
    refine ⟨?_, Or.inr ⟨b1, by omega, hx.2, n, rfl, h19, h26⟩⟩
    rw [← a, Int64.add_assoc, i64_sub3 b1 b2 hle]
def I1a (S : GS) (n lg : Nat) : Prop := (∀ j, j < n → gX S 19 j = nI lg → gX S 20 j = 1 → (gX S 26 j).toInt ≤ (gX S 12 2).toInt) ∧ (gX S 12 2 = -1 ∨ ∃ j, j < n ∧ gX S 19 j = nI lg ∧ gX S 20 j = 1 ∧ gX S 26 j = gX S 12 2)
def I1b (S : GS) (n lg : Nat) : Prop := (∀ j, j < n → gX S 19 j = nI lg → gX S 21 j = 1 → (gX S 23 j = 0 ∨ gX S 23 j = 4) → (gX S 27 j).toInt ≤ (gX S 0 9).toInt) ∧ (gX S 0 9 = -1 ∨ ∃ j, j < n ∧ gX S 19 j = nI lg ∧ gX S 21 j = 1 ∧ (gX S 23 j = 0 ∨ gX S 23 j = 4) ∧ gX S 27 j = gX S 0 9)
theorem I11_ab {S : GS} {n lg : Nat} : I11 S n lg ↔ I1a S n lg ∧ I1b S n lg := by
  unfold I11 I1a I1b
  constructor
  · intro h; exact ⟨⟨h.1, h.2.1⟩, h.2.2.1, h.2.2.2⟩
  · intro h; exact ⟨h.1.1, h.1.2, h.2.1, h.2.2⟩
theorem I1a.no {S S6 : GS} {n E lg : Nat} (h : I1a S n lg) (ho : Old S S6 n E) (h2 : gX S6 12 2 = gX S 12 2) (h20 : gX S6 20 n = 0) : I1a S6 (n + 1) lg := by
  refine ⟨fun j hj a b => ?_, ?_⟩
  · by_cases e : j = n
    · subst e; rw [h20] at b; exact absurd b (by decide)
    · rw [ho.1 19 (by omega) j (by omega)] at a
      rw [ho.1 20 (by omega) j (by omega)] at b
      rw [ho.1 26 (by omega) j (by omega), h2]
      exact h.1 j (by omega) a b
  · rw [h2]
    rcases h.2 with c | ⟨j, c1, c2, c3, c4⟩
    · exact Or.inl c
    · exact Or.inr ⟨j, by omega, by rw [ho.1 19 (by omega) j c1]; exact c2, by rw [ho.1 20 (by omega) j c1]; exact c3, by rw [ho.1 26 (by omega) j c1]; exact c4⟩
theorem I1a.yes {S S6 : GS} {n E lg : Nat} {x : Int32} (h : I1a S n lg) (ho : Old S S6 n E) (h2 : gX S6 12 2 = x) (h20 : gX S6 20 n = 1) (h19 : gX S6 19 n = nI lg) (h26 : gX S6 26 n = x) (hle : (gX S 12 2).toInt ≤ x.toInt) : I1a S6 (n + 1) lg := by
  refine ⟨fun j hj a b => ?_, Or.inr ⟨n, by omega, h19, h20, by rw [h2]; exact h26⟩⟩
  rw [h2]
  by_cases e : j = n
  · subst e; rw [h26]; exact Int.le_refl _
  · rw [ho.1 19 (by omega) j (by omega)] at a
    rw [ho.1 20 (by omega) j (by omega)] at b
    rw [ho.1 26 (by omega) j (by omega)]
    exact Int.le_trans (h.1 j (by omega) a b) hle
theorem I1b.no {S S6 : GS} {n E lg : Nat} (h : I1b S n lg) (ho : Old S S6 n E) (h9 : gX S6 0 9 = gX S 0 9) (hn : gX S6 21 n = 1 → gX S6 23 n ≠ 0 ∧ gX S6 23 n ≠ 4) : I1b S6 (n + 1) lg := by
  refine ⟨fun j hj a b c => ?_, ?_⟩
  · by_cases e : j = n
    · subst e
      rcases c with c | c
      · exact absurd c (hn b).1
      · exact absurd c (hn b).2
    · rw [ho.1 19 (by omega) j (by omega)] at a
      rw [ho.1 21 (by omega) j (by omega)] at b
      rw [ho.1 23 (by omega) j (by omega)] at c
      rw [ho.1 27 (by omega) j (by omega), h9]
      exact h.1 j (by omega) a b c
  · rw [h9]
    rcases h.2 with c | ⟨j, c1, c2, c3, c4, c5⟩
    · exact Or.inl c
    · exact Or.inr ⟨j, by omega, by rw [ho.1 19 (by omega) j c1]; exact c2, by rw [ho.1 21 (by omega) j c1]; exact c3, by rw [ho.1 23 (by omega) j c1]; exact c4, by rw [ho.1 27 (by omega) j c1]; exact c5⟩
theorem I1b.yes {S S6 : GS} {n E lg : Nat} {x : Int32} (h : I1b S n lg) (ho : Old S S6 n E) (h9 : gX S6 0 9 = x) (h21 : gX S6 21 n = 1) (h19 : gX S6 19 n = nI lg) (h23 : gX S6 23 n = 0 ∨ gX S6 23 n = 4) (h27 : gX S6 27 n = x) (hle : (gX S 0 9).toInt ≤ x.toInt) : I1b S6 (n + 1) lg := by
  refine ⟨fun j hj a b c => ?_, Or.inr ⟨n, by omega, h19, h21, h23, by rw [h9]; exact h27⟩⟩
  rw [h9]
  by_cases e : j = n
  · subst e; rw [h27]; exact Int.le_refl _
  · rw [ho.1 19 (by omega) j (by omega)] at a
    rw [ho.1 21 (by omega) j (by omega)] at b
    rw [ho.1 23 (by omega) j (by omega)] at c
    rw [ho.1 27 (by omega) j (by omega)]
    exact Int.le_trans (h.1 j (by omega) a b c) hle
theorem cnt_nx {f g : Nat → Int32} {n : Nat} (v : Int32) (h : ∀ j, j < n → g j = f j) : cnt g v (n + 1) = cnt f v n + if g n = v then 1 else 0 := by
  rw [cnt, cnt_congr v n h]
theorem I12.bad {S S6 : GS} {n : Nat} {oP oM : Option Nat} {dP : Int32 × Int32} (h : I12 S n oP oM dP) (how : ∀ j, j < n → gX S6 22 j = gX S 22 j) (hn : gX S6 22 n = 2) (h11 : gX S6 0 11 = gX S 0 11) (h84 : gX S6 8 4 = gX S 8 4 + 1) : I12 S6 (n + 1) oP oM dP := by
  obtain ⟨a, b, c⟩ := h
  unfold I12
  rw [cnt_nx 0 how, cnt_nx 1 how, cnt_nx 2 how, hn, if_neg (by decide), if_neg (by decide), if_pos rfl, h11, h84, c]
  exact ⟨by omega, by rw [b]; rfl, by rw [nj_succ]⟩
