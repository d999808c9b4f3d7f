/-! WHAT STANDS STILL when a line is added: rows below n, events below E. -/
def Old (S S2 : GS) (n E : Nat) : Prop := (∀ k, (k = 19 ∨ k = 20 ∨ k = 21 ∨ k = 23 ∨ k = 24 ∨ k = 25 ∨ k = 26 ∨ k = 27 ∨ k = 29) → ∀ j, j < n → gX S2 k j = gX S k j) ∧ (∀ j, j < 3 * n → gX S2 28 j = gX S 28 j) ∧ (∀ k, (k = 30 ∨ k = 31 ∨ k = 32 ∨ k = 33) → ∀ i, i < E → gX S2 k i = gX S k i)
theorem Rng.old {S S2 : GS} {n E j : Nat} (ho : Old S S2 n E) (hj : j < n) (h : Rng S j) : Rng S2 j := by
  obtain ⟨s, k, c, h1, h2, h3, h4, h5, h6, h7⟩ := h
  refine ⟨s, k, c, h1, h2, h3, ?_, ?_, ?_, ?_⟩
  · rw [ho.1 23 (by omega) j hj]; exact h4
  · rw [ho.1 24 (by omega) j hj]; exact h5
  · rw [ho.1 25 (by omega) j hj]; exact h6
  · rw [ho.1 27 (by omega) j hj, ho.1 26 (by omega) j hj, ho.2.1 (3 * j) (by omega), ho.2.1 (3 * j + 1) (by omega), ho.2.1 (3 * j + 2) (by omega), ho.1 29 (by omega) j hj]; exact h7
theorem Ln.lno {S : GS} {n b : Nat} {s x : Int32} (h : Ln S n b s x) : lno n x := by
  rcases h with h | ⟨j, h1, h2, _⟩
  · exact Or.inl h
  · exact Or.inr ⟨j, h1, h2⟩
theorem szo_old {S S2 : GS} {n E : Nat} {x : Int32} (ho : Old S S2 n E) (hn : n ≤ 512) (h : lno n x) (t : Nat) (ht : t < 3) : szo (gX S2 28) x t = szo (gX S 28) x t := by
  unfold szo
  rcases h with h | ⟨j, h1, h2⟩
  · rw [if_pos h, if_pos h]
  · have hx : ¬ x = -1 := by rw [h2]; exact nI_ne (by omega)
    rw [if_neg hx, if_neg hx, h2, nj_clamp (by omega)]
    exact ho.2.1 _ (by omega)
theorem Ln.old {S S2 : GS} {n n' E b : Nat} {s x : Int32} (ho : Old S S2 n E) (hb : b < n) (hn : n ≤ n') (h : Ln S n b s x) : Ln S2 n' b s x := by
  rcases h with h | ⟨j, h1, h2, h3, h4, h5⟩
  · exact Or.inl h
  · refine Or.inr ⟨j, by omega, h2, ?_, ?_, ?_⟩
    · rw [ho.1 21 (by omega) j h1]; exact h3
    · rw [ho.1 23 (by omega) j h1]; exact h4
    · rw [ho.1 27 (by omega) j h1, ho.1 27 (by omega) b hb]; exact h5
theorem tkO_old {S S2 : GS} {n E b e : Nat} (ho : Old S S2 n E) (hb : b < n) (he : e < n) : tkO S2 b e = tkO S b e := by
  unfold tkO
  rw [ho.1 23 (by omega) e he, ho.1 26 (by omega) e he, ho.1 26 (by omega) b hb, ho.1 29 (by omega) e he]
theorem EvI.old {S S2 : GS} {n n' E i q : Nat} (ho : Old S S2 n E) (hn : n ≤ n') (hn5 : n ≤ 512) (hi : i < E) (hq : ∀ j, gX S2 q j = gX S q j) (h : EvI S n i q) : EvI S2 n' i q := by
  obtain ⟨b, e, hb, he, hbe, h1, h2, h3, h4, h5, h6, h7, h8, h9, h10, h11, h12, h13, h14, h15, h16, h17⟩ := h
  have r23b := ho.1 23 (by omega) b hb
  have r23e := ho.1 23 (by omega) e he
  have r24b := ho.1 24 (by omega) b hb
  have r24e := ho.1 24 (by omega) e he
  have r25b := ho.1 25 (by omega) b hb
  have r25e := ho.1 25 (by omega) e he
  have r27b := ho.1 27 (by omega) b hb
  have r27e := ho.1 27 (by omega) e he
  have r26b := ho.1 26 (by omega) b hb
  have r26e := ho.1 26 (by omega) e he
  have r30 := ho.2.2 30 (by omega) i hi
  have r31 := ho.2.2 31 (by omega) i hi
  have r32 := ho.2.2 32 (by omega) i hi
  have r33 := ho.2.2 33 (by omega) i hi
  have l16 := Ln.lno h16
  have l17 := Ln.lno h17
  refine ⟨b, e, by omega, by omega, hbe, ?_, ?_, ?_, ?_, ?_, ?_, ?_, ?_, ?_, ?_, ?_, ?_, ?_, ?_, ?_, ?_, ?_⟩
  · rw [r30]; exact h1
  · rw [r31]; exact h2
  · rw [ho.1 21 (by omega) b hb]; exact h3
  · rw [ho.1 21 (by omega) e he]; exact h4
  · rw [r27b, r27e]; exact h5
  · rcases h6 with g | g
    · left
      rw [r23e, r23b, r24e, r24b, r25e, r25b, hq, hq, hq, hq, hq, ho.2.1 (3 * e) (by omega), ho.2.1 (3 * e + 1) (by omega), ho.2.1 (3 * e + 2) (by omega)]
      exact g
    · right
      rw [r23e, r23b, hq, hq, hq, hq, hq, r32, r33]
      exact g
  · rw [hq, r27b]; exact h7
  · rw [hq, r26b]; exact h8
  · rw [hq, r26e]; exact h9
  · rw [hq, tkO_old ho hb he]; exact h10
  · rw [hq, r32, szo_old ho hn5 l16 0 (by omega)]; exact h11
  · rw [hq, r32, szo_old ho hn5 l16 1 (by omega)]; exact h12
  · rw [hq, r33, szo_old ho hn5 l17 0 (by omega)]; exact h13
  · rw [hq, r33, szo_old ho hn5 l17 1 (by omega)]; exact h14
  · rw [hq, r32, r33]; exact h15
  · rw [r32]; exact Ln.old ho hb hn h16
  · rw [r33]; exact Ln.old ho hb hn h17
/-- the events' lines stand below n -/
def Idx (S : GS) (n E : Nat) : Prop := ∀ i, i < E → ∃ b e : Nat, b < n ∧ e < n ∧ gX S 30 i = nI b ∧ gX S 31 i = nI e ∧ lno n (gX S 33 i)
theorem I6.idx {S : GS} {n E : Nat} (h : I6 S n E) : Idx S n E := by
  intro i hi
  obtain ⟨q, _, _, b, e, hb, he, _, h1, h2, h3⟩ := h.2.2 i hi
  exact ⟨b, e, hb, he, h1, h2, Ln.lno h3.2.2.2.2.2.2.2.2.2.2.2.2.2.2⟩
theorem isP_old {S S2 : GS} {n E : Nat} (ho : Old S S2 n E) (hx : Idx S n E) (hn : n ≤ 512) (i : Nat) (hi : i < E) : isP (gX S2 23) (gX S2 31) i = isP (gX S 23) (gX S 31) i := by
  obtain ⟨b, e, hb, he, h1, h2, _⟩ := hx i hi
  unfold isP
  rw [ho.2.2 31 (by omega) i hi, h2, nj_clamp (by omega), ho.1 23 (by omega) e he]
theorem cntP_old {S S2 : GS} {n E : Nat} (ho : Old S S2 n E) (hx : Idx S n E) (hn : n ≤ 512) : ∀ i, i ≤ E → cntP (gX S2 23) (gX S2 31) i = cntP (gX S 23) (gX S 31) i := by
  intro i
  induction i with
  | zero => intro _; rfl
  | succ i ih =>
    intro hi
    rw [cntP, cntP, ih (by omega), isP_old ho hx hn i (by omega)]
theorem tkE_old {S S2 : GS} {n E : Nat} (ho : Old S S2 n E) (hx : Idx S n E) (hn : n ≤ 512) (i : Nat) (hi : i < E) : tkE S2 i = tkE S i := by
  obtain ⟨b, e, hb, he, h1, h2, _⟩ := hx i hi
  unfold tkE
  rw [ho.2.2 31 (by omega) i hi, ho.2.2 30 (by omega) i hi, h1, h2, nj_clamp (by omega), nj_clamp (by omega), tkO_old ho hb he]
theorem sumT_old {S S2 : GS} {n E : Nat} (ho : Old S S2 n E) (hx : Idx S n E) (hn : n ≤ 512) : ∀ i, i ≤ E → sumT S2 i = sumT S i := by
  intro i
  induction i with
  | zero => intro _; rfl
  | succ i ih =>
    intro hi
    rw [sumT, sumT, ih (by omega), isP_old ho hx hn i (by omega), tkE_old ho hx hn i (by omega)]
theorem sumO_old {S S2 : GS} {n E : Nat} (ho : Old S S2 n E) (hx : Idx S n E) (hn : n ≤ 512) : ∀ i, i ≤ E → sumO S2 i = sumO S i := by
  intro i
  induction i with
  | zero => intro _; rfl
  | succ i ih =>
    intro hi
    obtain ⟨b, e, hb, he, h1, h2, h3⟩ := hx i (by omega)
    rw [sumO, sumO, ih (by omega), ho.2.2 33 (by omega) i (by omega), szo_old ho hn h3 0 (by omega), szo_old ho hn h3 1 (by omega)]
theorem log_old {S S2 : GS} {n E : Nat} (ho : Old S S2 n E) (hx : Idx S n E) (hn : n ≤ 512) (i : Nat) (hi : i < E) : gX S2 19 (gX S2 31 i).toNatClampNeg = gX S 19 (gX S 31 i).toNatClampNeg := by
  obtain ⟨b, e, hb, he, h1, h2, _⟩ := hx i hi
  rw [ho.2.2 31 (by omega) i hi, h2, nj_clamp (by omega), ho.1 19 (by omega) e he]
theorem ahd_old {S S2 : GS} {n E : Nat} (ho : Old S S2 n E) (hx : Idx S n E) (hn : n ≤ 512) (x : Int32) : ∀ i, i ≤ E → ahd S2 x i = ahd S x i := by
  intro i
  induction i with
  | zero => intro _; rfl
  | succ i ih =>
    intro hi
    rw [ahd, ahd, ih (by omega), isP_old ho hx hn i (by omega), log_old ho hx hn i (by omega)]
theorem ahd_lt (S : GS) (x : Int32) : ∀ i j, ahd S x i = some j → j < i := by
  intro i
  induction i with
  | zero => intro j h; simp [ahd] at h
  | succ i ih =>
    intro j h
    unfold ahd at h
    split at h
    · split at h
      · injection h with h; omega
      · simp at h
    · have := ih j h; omega
theorem aI_old {S S2 : GS} {n E : Nat} (ho : Old S S2 n E) (hx : Idx S n E) (hn : n ≤ 512) (i : Nat) (hi : i < E) : aI S2 i = aI S i := by
  unfold aI
  rw [isP_old ho hx hn i hi, log_old ho hx hn i hi, ahd_old ho hx hn _ i (by omega)]
theorem aI_lt {S : GS} {i j : Nat} (h : aI S i = some j) : j < i := by
  unfold aI at h
  split at h
  · exact ahd_lt S _ i j h
  · simp at h
theorem sumA_old {S S2 : GS} {n E : Nat} (ho : Old S S2 n E) (hx : Idx S n E) (hn : n ≤ 512) : ∀ i, i ≤ E → sumA S2 i = sumA S i := by
  intro i
  induction i with
  | zero => intro _; rfl
  | succ i ih =>
    intro hi
    obtain ⟨b, e, hb, he, h1, h2, _⟩ := hx i (by omega)
    rw [sumA, sumA, ih (by omega), aI_old ho hx hn i (by omega)]
    cases ha : aI S i with
    | none => rfl
    | some j =>
      have hj := aI_lt ha
      obtain ⟨b', e', hb', he', h1', h2', _⟩ := hx j (by omega)
      simp only
      rw [ho.2.2 31 (by omega) i (by omega), ho.2.2 31 (by omega) j (by omega), h2, h2', nj_clamp (by omega), nj_clamp (by omega), ho.2.1 (3 * e) (by omega), ho.2.1 (3 * e' + 1) (by omega)]
theorem sumB_old {S S2 : GS} {n E : Nat} (ho : Old S S2 n E) (hx : Idx S n E) (hn : n ≤ 512) : ∀ i, i ≤ E → sumB S2 i = sumB S i := by
  intro i
  induction i with
  | zero => intro _; rfl
  | succ i ih =>
    intro hi
    obtain ⟨b, e, hb, he, h1, h2, _⟩ := hx i (by omega)
    rw [sumB, sumB, ih (by omega), aI_old ho hx hn i (by omega)]
    cases ha : aI S i with
    | none => rfl
    | some j =>
      have hj := aI_lt ha
      obtain ⟨b', e', hb', he', h1', h2', _⟩ := hx j (by omega)
      simp only
      rw [ho.2.2 30 (by omega) i (by omega), ho.2.2 31 (by omega) j (by omega), h1, h2', nj_clamp (by omega), nj_clamp (by omega), ho.1 26 (by omega) b (by omega), ho.1 26 (by omega) e' (by omega)]
theorem spn_lt (S : GS) : ∀ n b, (spn S n).2 = some b → b < n := by
  intro n
  induction n with
  | zero => intro b h; simp [spn] at h
  | succ n ih =>
    intro b h
    unfold spn at h
    split at h
    · have := ih b h; omega
    · split at h
      · injection h with h; omega
      · injection h with h; omega
theorem spn_old {S S2 : GS} {n E : Nat} (ho : Old S S2 n E) : ∀ m, m ≤ n → spn S2 m = spn S m := by
  intro m
  induction m with
  | zero => intro _; rfl
  | succ m ih =>
    intro hm
    rw [spn, spn, ih (by omega), ho.1 20 (by omega) m (by omega)]
    cases hb : (spn S m).2 with
    | none => rfl
    | some b =>
      have := spn_lt S m b hb
      simp only
      rw [ho.1 19 (by omega) m (by omega), ho.1 26 (by omega) m (by omega), ho.1 19 (by omega) b (by omega), ho.1 26 (by omega) b (by omega)]
theorem I4.old {S S2 : GS} {n E lg : Nat} (ho : Old S S2 n E) (h22 : ∀ j, j < n → gX S2 22 j = 0 ∨ gX S2 22 j = 1 ∨ gX S2 22 j = 2) (h : I4 S n lg) : I4 S2 n lg := by
  intro j hj
  obtain ⟨h1, h2, h3, h4, h5, h6⟩ := h j hj
  refine ⟨?_, ?_, ?_, ?_, ?_, h22 j hj⟩
  · rw [ho.1 19 (by omega) j hj]; exact h1
  · rw [ho.1 20 (by omega) j hj]; exact h2
  · rw [ho.1 21 (by omega) j hj]; exact h3
  · rw [ho.1 20 (by omega) j hj, ho.1 21 (by omega) j hj]; exact h4
  · rw [ho.1 20 (by omega) j hj]; exact fun a => (h5 a).old ho hj
theorem cnt_congr {f g : Nat → Int32} (v : Int32) : ∀ n, (∀ j, j < n → f j = g j) → cnt f v n = cnt g v n := by
  intro n
  induction n with
  | zero => intro _; rfl
  | succ n ih =>
    intro h
    rw [cnt, cnt, ih (fun j hj => h j (by omega)), h n (by omega)]
theorem cnt_le (f : Nat → Int32) (v : Int32) (n : Nat) : cnt f v n ≤ n := by
  induction n with
  | zero => exact Nat.le_refl _
  | succ n ih => rw [cnt]; split <;> omega
