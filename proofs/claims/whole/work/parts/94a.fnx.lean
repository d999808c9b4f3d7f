/-! FINISH, BOTH SIDES. -/
def I5f (a b c x y z : Nat → Int32) (P : Nat) : Prop := ∀ k, k < 12 → k < P → a k = x (P - 1 - k) ∧ b k = y (P - 1 - k) + 1 ∧ c k = z (P - 1 - k)
theorem I5f.push {a b c a' b' c' x y z : Nat → Int32} {P n : Nat} {w fa : Int32} (h : I5f a b c x y z P) (hx : x P = w) (hy : y P = nI n) (hz : z P = fa) (ha : ∀ k, k < 12 → a' k = if k = 0 then w else a (k - 1)) (hb : ∀ k, k < 12 → b' k = if k = 0 then nI (n + 1) else b (k - 1)) (hc : ∀ k, k < 12 → c' k = if k = 0 then fa else c (k - 1)) : I5f a' b' c' x y z (P + 1) := by
  intro k hk hkP
  rw [ha k hk, hb k hk, hc k hk]
  by_cases e : k = 0
  · subst e
    rw [if_pos rfl, if_pos rfl, if_pos rfl, show P + 1 - 1 - 0 = P by omega, hx, hy, hz, nj_succ]
    exact ⟨rfl, rfl, rfl⟩
  · rw [if_neg e, if_neg e, if_neg e, show P + 1 - 1 - k = P - 1 - (k - 1) by omega]
    exact h (k - 1) (by omega) (by omega)
theorem I5f.ref {a b c x y z x' y' z' : Nat → Int32} {P : Nat} (h : I5f a b c x y z P) (hx : ∀ j, j < P → x' j = x j) (hy : ∀ j, j < P → y' j = y j) (hz : ∀ j, j < P → z' j = z j) : I5f a b c x' y' z' P := by
  intro k hk hkP
  rw [hx _ (by omega), hy _ (by omega), hz _ (by omega)]
  exact h k hk hkP
theorem q_truncate {S : GS} {o : Option Nat} {Q : Int32 → GS → Prop} (hF : Fix S) (h0 : o = none → Q 0 S) (h1 : ∀ q, o = some q → evP S q ∧ ∀ S2, Da S S2 8 (gX S q 0) 0 (gX S q 14) → Q (gX S q 14) S2) : wX8_truncate S 0 o Q := by
  refine ⟨h0, fun q e => ?_⟩
  obtain ⟨hp, hQ⟩ := h1 q e
  have h39 := hp.1
  refine ⟨fn_0 hF, fk_0 hF, hp.2.1, hp.2.2, 8, fr_0_4 hF, fn_8 hF, fk_8 hF, q_dadd hF (fun S2 h2 _ => ⟨q, e, ?_, ?_, ?_⟩)⟩
  · rw [h2.1.1]; exact hp.2.1
  · rw [h2.1.2.1]; exact hp.2.2
  · rw [h2.1.X q 14 (by unfold pDg; omega)]
    exact hQ S2 h2
/-- the class's finish behind both truncations -/
def Cz (S7 S3 : GS) : Prop := Gf (fun k j => (k = 0 ∧ j = 9) ∨ (k = 12 ∧ (j = 1 ∨ j = 2))) (fun k j => k = 12 ∧ j = 0) (fun k j => (k = 0 ∧ (j = 7 ∨ j = 8)) ∨ (k = 13 ∧ j = 0)) S7 S3 ∧ gX S3 0 9 = -1 ∧ gX S3 12 1 = -1 ∧ gX S3 12 2 = -1 ∧ gZ S3 12 0 = gZ S7 12 0 + (gX S7 12 2 - gX S7 12 1).toInt64 ∧ gR S3 0 7 = none ∧ gR S3 0 8 = none ∧ gR S3 13 0 = none
theorem fR_cz : ∀ t ∈ fR, ¬ ((t.1 = 0 ∧ (t.2.1 = 7 ∨ t.2.1 = 8)) ∨ (t.1 = 13 ∧ t.2.1 = 0)) := by decide
theorem q_finEnd {S7 : GS} {v : Int32} {Q : Int32 → GS → Prop} (hF : Fix S7) (hQ : ∀ S3, Cz S7 S3 → Q v S3) : ∀ S11 : GS, S11 = sR S7 0 7 none → ∀ S14 : GS, S14 = sR S11 0 8 none → ∀ S17 : GS, S17 = sX S14 0 9 (-1) → ∃ q20 : Nat, gR S17 0 5 = some q20 ∧ q20 < gN S17 ∧ gK S17 q20 = 7 ∧ wX7_endLog S17 q20 (fun S24 => gSh S24 S17 → ∃ q30 : Nat, gR S24 0 6 = some q30 ∧ q30 < gN S24 ∧ gK S24 q30 = 5 ∧ wX5_endLog S24 q30 (fun S34 => gSh S34 S24 → Q v S34)) := by
  intro S11 e11 S14 e14 S17 e17
  have g17 : Gf (fun k j => (k = 0 ∧ j = 9) ∨ (k = 12 ∧ (j = 1 ∨ j = 2))) (fun k j => k = 12 ∧ j = 0) (fun k j => (k = 0 ∧ (j = 7 ∨ j = 8)) ∨ (k = 13 ∧ j = 0)) S7 S17 := by
    rw [e17, e14, e11]
    exact (((Gf.rf _ _ _ _).r _ _ _ (Or.inl ⟨rfl, Or.inl rfl⟩)).r _ _ _ (Or.inl ⟨rfl, Or.inr rfl⟩)).x _ _ _ (Or.inl ⟨rfl, rfl⟩)
  have f17 : Fix S17 := g17.fix hF fR_cz
  refine ⟨12, fr_0_5 f17, fn_12 f17, fk_12 f17, fn_12 f17, fk_12 f17, fn_12 f17, fk_12 f17, fun _ S7' e7 S10 e10 S13 e13 _ => ?_⟩
  have t2 : gX S17 12 2 = gX S7 12 2 := by rw [e17, x_sX, if_neg (by omega), e14, e11]; rfl
  have t1 : gX S17 12 1 = gX S7 12 1 := by rw [e17, x_sX, if_neg (by omega), e14, e11]; rfl
  have tz : gZ S17 12 0 = gZ S7 12 0 := by rw [e17, e14, e11]; rfl
  rw [t2, t1, tz] at e7
  have g13 : Gf (fun k j => (k = 0 ∧ j = 9) ∨ (k = 12 ∧ (j = 1 ∨ j = 2))) (fun k j => k = 12 ∧ j = 0) (fun k j => (k = 0 ∧ (j = 7 ∨ j = 8)) ∨ (k = 13 ∧ j = 0)) S7 S13 := by
    rw [e13, e10, e7]
    exact ((g17.z _ _ _ ⟨rfl, rfl⟩).x _ _ _ (Or.inr ⟨rfl, Or.inl rfl⟩)).x _ _ _ (Or.inr ⟨rfl, Or.inr rfl⟩)
  have f13 : Fix S13 := g13.fix hF fR_cz
  refine ⟨13, fr_0_6 f13, fn_13 f13, fk_13 f13, fn_13 f13, fk_13 f13, fun S34 e34 _ => hQ S34 ?_⟩
  have r13 : ∀ k j, gR S13 k j = gR S17 k j := fun k j => by rw [e13, e10, e7]; rfl
  refine ⟨by rw [e34]; exact g13.r _ _ _ (Or.inr ⟨rfl, rfl⟩), ?_, ?_, ?_, ?_, ?_, ?_, ?_⟩
  · rw [e34]; show gX S13 0 9 = _; rw [e13, x_sX, if_neg (by omega), e10, x_sX, if_neg (by omega), e7]; show gX S17 0 9 = _; rw [e17, x_sX, if_pos ⟨rfl, rfl⟩]
  · rw [e34]; show gX S13 12 1 = _; rw [e13, x_sX, if_neg (by omega), e10, x_sX, if_pos ⟨rfl, rfl⟩]
  · rw [e34]; show gX S13 12 2 = _; rw [e13, x_sX, if_pos ⟨rfl, rfl⟩]
  · rw [e34]; show gZ S13 12 0 = _; rw [e13, e10]; show gZ S7' 12 0 = _; rw [e7, z_sZ, if_pos ⟨rfl, rfl⟩]
  · rw [e34, r_sR, if_neg (by omega), r13, e17]; show gR S14 0 7 = _; rw [e14, r_sR, if_neg (by omega), e11, r_sR, if_pos ⟨rfl, rfl⟩]
  · rw [e34, r_sR, if_neg (by omega), r13, e17]; show gR S14 0 8 = _; rw [e14, r_sR, if_pos ⟨rfl, rfl⟩]
  · rw [e34, r_sR, if_pos ⟨rfl, rfl⟩]
theorem ahd_none (S : GS) (x : Int32) : ∀ i, (∀ j, j < i → gX S 19 (gX S 31 j).toNatClampNeg ≠ x) → ahd S x i = none := by
  intro i
  induction i with
  | zero => intro _; rfl
  | succ i ih =>
    intro h
    rw [ahd, ih (fun j hj => h j (by omega))]
    split
    · rw [if_neg (h i (by omega))]
    · rfl
def Kf (S : GS) (cap : Nat) (r1 : Int32) (S1 : GS) : Prop := gSh S1 S → wX9_finish S1 14 (fun r2 S2 => gSh S2 S1 → r1 = r2 ∧ Inv S2 (cap + 1))
theorem finish_ok {S : GS} {cap n E P lg pl : Nat} {oP oM : Option Nat} {dP : Int32 × Int32} (h : Inw S cap n E P lg pl oP oM dP) (hcap : cap < 48) : wX8_finish S 0 (Kf S cap) := by
  have h39 := h.1.1.1
  obtain ⟨⟨hF, hcl⟩, i2, i3, i4, i5, i6, i7, i8, i9, i10, i11, i12⟩ := id h
  obtain ⟨k1, k2, k3, k4, k5, k6, k7, k8⟩ := i3
  -- the open pause
  have hP : (oP = none ∧ gR S 0 7 = none ∧ gX S 14 30 = -1) ∨ ∃ q b, oP = some q ∧ gR S 0 7 = some q ∧ OpP S n q b dP.1 dP.2 := by
    cases oP with
    | none => exact Or.inl ⟨rfl, i7⟩
    | some q =>
      obtain ⟨a, ⟨b, hb⟩, _⟩ : gR S 0 7 = some q ∧ (∃ b, OpP S n q b dP.1 dP.2) ∧ ∀ i, i < E → gR S 7 i ≠ some q := i7
      exact Or.inr ⟨q, b, rfl, a, hb⟩
  have hM : (oM = none ∧ gR S 0 8 = none ∧ gX S 14 31 = -1) ∨ ∃ q b, oM = some q ∧ gR S 0 8 = some q ∧ OpM S n q b := by
    cases oM with
    | none => exact Or.inl ⟨rfl, i8⟩
    | some q =>
      obtain ⟨a, ⟨b, hb⟩, _⟩ : gR S 0 8 = some q ∧ (∃ b, OpM S n q b) ∧ (∀ i, i < E → gR S 7 i ≠ some q) ∧ oP ≠ some q := i8
      exact Or.inr ⟨q, b, rfl, a, hb⟩
  obtain ⟨bP, hbP⟩ : ∃ bP, (oP = none ∧ gX S 14 30 = -1) ∨ (oP ≠ none ∧ gX S 14 30 = nI bP ∧ bP < n ∧ gX S 22 bP = 0 ∧ ∃ q, gR S 0 7 = some q ∧ evP S q ∧ gX S q 0 = nI (bP + 1) ∧ gX S q 14 = nI (lnP oP dP)) := by
    rcases hP with z | ⟨q, b, z1, z2, z3⟩
    · exact ⟨0, Or.inl ⟨z.1, z.2.2⟩⟩
    · refine ⟨b, Or.inr ⟨by rw [z1]; simp, z3.2.2.1, z3.2.1, z3.2.2.2.2.2.1, q, z2, z3.1, z3.2.2.2.2.2.2.1, ?_⟩⟩
      rw [z1]
      exact z3.2.2.2.2.2.2.2.2.2.2.2.2.2.2.2.2.2.2.1
  obtain ⟨bM, hbM⟩ : ∃ bM, (oM = none ∧ gX S 14 31 = -1) ∨ (oM ≠ none ∧ gX S 14 31 = nI bM ∧ bM < n ∧ gX S 22 bM = 0 ∧ ∃ q, gR S 0 8 = some q ∧ evP S q ∧ gX S q 0 = nI (bM + 1) ∧ gX S q 14 = nI (lnM oM)) := by
    rcases hM with z | ⟨q, b, z1, z2, z3⟩
    · exact ⟨0, Or.inl ⟨z.1, z.2.2⟩⟩
    · refine ⟨b, Or.inr ⟨by rw [z1]; simp, z3.2.2.1, z3.2.1, z3.2.2.2.2.2.1, q, z2, z3.1, z3.2.2.2.2.2.2.1, ?_⟩⟩
      rw [z1, z3.2.2.2.2.2.2.2.2.2.2.2.2.2.2.2.2.2.2]
      rfl
  -- the reference, behind the class's last state
  have key : ∀ (S7 S3 : GS) (v : Int32), Ag pDg S S7 → gX S7 8 3 = nI (P + oc oP + oc oM) → gX S7 8 4 = nI (cnt (gX S 22) 2 n + (lnP oP dP + lnM oM)) → (∀ x y z : Nat → Int32, I5f (gX S 9) (gX S 10) (gX S 11) x y z P → (oP ≠ none → x P = 8 ∧ y P = nI bP ∧ z P = 0) → (oM ≠ none → x (P + oc oP) = 8 ∧ y (P + oc oP) = nI bM ∧ z (P + oc oP) = 0) → I5f (gX S7 9) (gX S7 10) (gX S7 11) x y z (P + oc oP + oc oM)) → v = nI (lnP oP dP + lnM oM) → Cz S7 S3 → wX9_finish S3 14 (fun r2 S2 => gSh S2 S3 → v = r2 ∧ Inv S2 (cap + 1)) := by
    intro S7 S3 v a7 c83 c84 cdg hv hz
    obtain ⟨g3, z9, z121, z122, zz, zr7, zr8, zr13⟩ := hz
    have f7 : Fix S7 := hF.ag a7
    have f3 : Fix S3 := g3.fix f7 fR_cz
    have x3 : ∀ k j, ¬ ((k = 0 ∧ j = 9) ∨ (k = 12 ∧ (j = 1 ∨ j = 2)) ∨ pDg k j) → gX S3 k j = gX S k j := fun k j hk => by rw [g3.2.2.2.1 k j (by omega), a7.X k j (fun y => hk (Or.inr (Or.inr y)))]
    have r3 : ∀ k j, 14 ≤ k → gX S3 k j = gX S k j := fun k j hk => x3 k j (by unfold pDg; omega)
    have R3 : ∀ k j, ¬ ((k = 0 ∧ (j = 7 ∨ j = 8)) ∨ (k = 13 ∧ j = 0)) → gR S3 k j = gR S k j := fun k j hk => by rw [g3.2.2.2.2.2 k j hk, a7.R]
    have Z3 : ∀ k j, ¬ (k = 12 ∧ j = 0) → gZ S3 k j = gZ S k j := fun k j hk => by rw [g3.2.2.2.2.1 k j hk, a7.Z]
    have hoP : oc oP ≤ 1 := by cases oP <;> simp [oc]
    have hoM : oc oM ≤ 1 := by cases oM <;> simp [oc]
    have e22 : gX S3 22 = gX S 22 := funext (fun j => r3 22 j (by omega))
    refine q_finish9 (n := n) (P := P) (lg := lg) (oP := oP) (oM := oM) (bP := bP) (bM := bM) f3 (by rw [r3 14 19 (by omega)]; exact k7) (by omega) (by rw [r3 14 20 (by omega)]; exact k8) (by rw [r3 14 29 (by omega)]; exact i5.1) (by omega) ?_ ?_ (fun S6 h6 _ => ?_)
    · rw [r3 14 30 (by omega), e22]
      rcases hbP with y | ⟨y1, y2, y3, y4, _⟩
      · exact Or.inl y
      · exact Or.inr ⟨y1, y2, y3, y4⟩
    · rw [r3 14 31 (by omega), e22]
      rcases hbM with y | ⟨y1, y2, y3, y4, _⟩
      · exact Or.inl y
      · exact Or.inr ⟨y1, y2, y3, y4⟩
    obtain ⟨f6, a6, o6, m30, m31, m20, m29, mP, mM⟩ := h6
    rw [e22] at o6
    have x6 : ∀ k j, ¬ (k = 22 ∨ (k = 14 ∧ (j = 20 ∨ j = 29 ∨ j = 30 ∨ j = 31 ∨ j = 32)) ∨ ((k = 34 ∨ k = 35 ∨ k = 36) ∧ P ≤ j)) → ¬ ((k = 0 ∧ j = 9) ∨ (k = 12 ∧ (j = 1 ∨ j = 2)) ∨ pDg k j) → gX S6 k j = gX S k j := fun k j h1 h2 => by rw [a6.X k j h1, x3 k j h2]
    have hq6 : ∀ q j, 39 ≤ q → gX S6 q j = gX S q j := fun q j hq => x6 q j (by omega) (by unfold pDg; omega)
    have N6 : gN S6 = gN S := by rw [a6.1, g3.1, a7.1]
    have K6 : ∀ k, gK S6 k = gK S k := fun k => by rw [a6.2.1, g3.2.1, a7.2.1]
    have R6 : ∀ k j, ¬ ((k = 0 ∧ (j = 7 ∨ j = 8)) ∨ (k = 13 ∧ j = 0)) → gR S6 k j = gR S k j := fun k j hk => by rw [a6.R, R3 k j hk]
    have Z6 : ∀ k j, gZ S6 k j = gZ S3 k j := fun k j => by rw [a6.Z]
    have ho : Old S S6 n E := ⟨fun k hk j hj => x6 k j (by omega) (by unfold pDg; omega), fun j hj => x6 28 j (by omega) (by unfold pDg; omega), fun k hk i hi => x6 k i (by omega) (by unfold pDg; omega)⟩
    have hidx := i6.idx
    have hnl : ∀ j, j < n → gX S 19 j ≠ nI (lg + 1) := by
      intro j hj y
      obtain ⟨m, hm, e⟩ := (i4 j hj).1
      rw [e] at y
      have := (nj_eq (by omega) (by omega)).mp y
      omega
    obtain ⟨cn0, cn1, cn2⟩ := cnt_fin n o6
    refine ⟨by rw [hv, i12.1.symm, e22], n, E, P + oc oP + oc oM, lg + 1, pl, none, none, dP, ⟨f6, ?_⟩, ⟨i2.1, ?_, ?_, fun i => ?_⟩, ⟨by omega, by omega, by omega, by omega, ?_, ?_, ?_, m20⟩, ?_, ⟨m29, ?_, ?_⟩, ⟨?_, ?_, fun i hi => ?_⟩, ⟨?_, m30⟩, ⟨?_, m31⟩, ⟨?_, ?_, ?_, ?_, ?_, ?_⟩, ⟨?_, ?_⟩, ⟨?_, ?_, ?_, ?_⟩, ⟨?_, ?_, ?_⟩⟩
    · intro a j q ha hq
      rw [N6] at ha ⊢
      by_cases y : (a = 0 ∧ (j = 7 ∨ j = 8)) ∨ (a = 13 ∧ j = 0)
      · rw [a6.R] at hq
        rcases y with ⟨y1, y2⟩ | ⟨y1, y2⟩
        · subst y1
          rcases y2 with y2 | y2
          · subst y2; rw [zr7] at hq; exact absurd hq (by simp)
          · subst y2; rw [zr8] at hq; exact absurd hq (by simp)
        · subst y1 y2; rw [zr13] at hq; exact absurd hq (by simp)
      · rw [R6 a j y] at hq
        exact hcl a j q ha hq
    · rw [x6 1 1 (by omega) (by unfold pDg; omega)]; exact i2.2.1
    · rw [x6 14 1 (by omega) (by unfold pDg; omega)]; exact i2.2.2.1
    · rw [x6 2 i (by omega) (by unfold pDg; omega), x6 15 i (by omega) (by unfold pDg; omega)]; exact i2.2.2.2 i
    · show 2 * E + 0 + 0 ≤ n
      omega
    · rw [x6 0 10 (by omega) (by unfold pDg; omega)]; exact k6
    · rw [x6 14 19 (by omega) (by unfold pDg; omega)]; exact k7
    · have h4 := I4.old ho (fun j hj => by
        rw [o6 j hj]
        split
        · exact Or.inr (Or.inr rfl)
        · exact (i4 j hj).2.2.2.2.2) i4
      intro j hj
      obtain ⟨⟨m, hm, e⟩, y2⟩ := h4 j hj
      exact ⟨⟨m, by omega, e⟩, y2⟩
    · rw [a6.X 8 3 (by omega), g3.2.2.2.1 8 3 (by omega)]; exact c83
    · have h9 : ∀ k, gX S6 9 k = gX S7 9 k := fun k => by rw [a6.X 9 k (by omega), g3.2.2.2.1 9 k (by omega)]
      have h10 : ∀ k, gX S6 10 k = gX S7 10 k := fun k => by rw [a6.X 10 k (by omega), g3.2.2.2.1 10 k (by omega)]
      have h11 : ∀ k, gX S6 11 k = gX S7 11 k := fun k => by rw [a6.X 11 k (by omega), g3.2.2.2.1 11 k (by omega)]
      have := cdg (gX S6 34) (gX S6 35) (gX S6 36) (I5f.ref (x := gX S 34) (y := gX S 35) (z := gX S 36) i5.2.2 (fun j hj => x6 34 j (by omega) (by unfold pDg; omega)) (fun j hj => x6 35 j (by omega) (by unfold pDg; omega)) (fun j hj => x6 36 j (by omega) (by unfold pDg; omega))) mP mM
      intro k hk hkP
      rw [h9, h10, h11]
      exact this k hk hkP
    · rw [x6 6 1 (by omega) (by unfold pDg; omega)]; exact i6.1
    · rw [x6 14 25 (by omega) (by unfold pDg; omega)]; exact i6.2.1
    · obtain ⟨q, e1, e2, e3⟩ := i6.2.2 i hi
      exact ⟨q, by rw [R6 7 i (by omega)]; exact e1, e2.nx (Nat.le_of_eq N6.symm) (fun k _ => K6 k), e3.old ho (Nat.le_refl _) (by omega) hi (fun j => hq6 q j e2.1)⟩
    · rw [a6.R]; exact zr7
    · rw [a6.R]; exact zr8
    · rw [x6 13 1 (by omega) (by unfold pDg; omega), cntP_old ho hidx (by omega) E (Nat.le_refl _)]; exact i9.1
    · rw [Z6, Z3 13 2 (by omega), sumT_old ho hidx (by omega) E (Nat.le_refl _)]; exact i9.2.1
    · rw [Z6, Z3 13 5 (by omega), sumO_old ho hidx (by omega) E (Nat.le_refl _)]; exact i9.2.2.1
    · rw [Z6, Z3 13 3 (by omega), sumA_old ho hidx (by omega) E (Nat.le_refl _)]; exact i9.2.2.2.1
    · rw [Z6, Z3 13 4 (by omega), sumB_old ho hidx (by omega) E (Nat.le_refl _)]; exact i9.2.2.2.2.1
    · rw [a6.R, zr13, ahd_old ho hidx (by omega) _ E (Nat.le_refl _), ahd_none S _ E (fun j hj => ?_)]
      · rfl
      · obtain ⟨b, e, hb, he, y1, y2, _⟩ := hidx j hj
        rw [y2, nj_clamp (by omega)]
        exact hnl e he
    · rw [Z6, zz, a6.X 12 2 (by omega), a6.X 12 1 (by omega), z121, z122, a7.Z, a7.X 12 2 (by unfold pDg; omega), a7.X 12 1 (by unfold pDg; omega), spn_old ho n (Nat.le_refl _), i10.1]
      have : ((-1 : Int32) - -1).toInt64 = 0 := by decide
      rw [this, Int64.add_zero]
    · refine Or.inl ⟨by rw [a6.X 12 1 (by omega)]; exact z121, by rw [a6.X 12 2 (by omega)]; exact z122, fun b hb => ?_⟩
      rw [spn_old ho n (Nat.le_refl _)] at hb
      have hlt := spn_lt S n b hb
      rw [ho.1 19 (by omega) b hlt]
      exact hnl b hlt
    · intro j hj y
      rw [ho.1 19 (by omega) j hj] at y
      exact absurd y (hnl j hj)
    · exact Or.inl (by rw [a6.X 12 2 (by omega)]; exact z122)
    · intro j hj y
      rw [ho.1 19 (by omega) j hj] at y
      exact absurd y (hnl j hj)
    · exact Or.inl (by rw [a6.X 0 9 (by omega)]; exact z9)
    · rw [cn0]; rfl
    · rw [x6 0 11 (by omega) (by unfold pDg; omega), cn1]; exact i12.2.1
    · rw [a6.X 8 4 (by omega), g3.2.2.2.1 8 4 (by omega), c84, cn2, i12.1]
  -- the class
  refine ⟨fn_0 hF, fk_0 hF, q_truncate hF (fun z _ => ?_) (fun q z => ?_)⟩
  · have hoN : oP = none := by
      rcases hP with y | ⟨q, b, y1, y2, _⟩
      · exact y.1
      · rw [y2] at z; exact absurd z (by simp)
    refine q_truncate hF (fun z2 _ => ?_) (fun q z2 => ?_)
    · have hoN2 : oM = none := by
        rcases hM with y | ⟨q, b, y1, y2, _⟩
        · exact y.1
        · rw [y2] at z2; exact absurd z2 (by simp)
      refine q_finEnd (Q := Kf S cap) hF (fun S3 h3 _ => key S S3 _ (Ag.rf _ _) ?_ ?_ (fun x y w hI _ _ => ?_) ?_ h3)
      · rw [hoN, hoN2]; exact i5.2.1
      · rw [hoN, hoN2]; exact i12.2.2
      · rw [hoN, hoN2]; exact hI
      · rw [hoN, hoN2]
        show (0 : Int32) + 0 = nI 0
        decide
    · rcases hbM with y | ⟨y1, y2, y3, y4, q', y5, y6, y7, y8⟩
      · rcases hM with x | ⟨q2, b, x1, x2, _⟩
        · rw [x.2.1] at z2; exact absurd z2 (by simp)
        · rw [y.1] at x1; exact absurd x1 (by simp)
      rw [y5] at z2
      injection z2 with z2
      subst z2
      refine ⟨y6, fun S7 h7 _ => ?_⟩
      obtain ⟨d1, d2, d3, d4, d5, d6⟩ := h7
      have hom : oc oM = 1 := by cases oM with
        | none => exact absurd rfl y1
        | some _ => rfl
      rw [y8] at d3 ⊢
      rw [y7] at d5
      refine q_finEnd (Q := Kf S cap) (hF.ag d1) (fun S3 h3 _ => key S7 S3 _ d1 ?_ ?_ (fun x y w hI _ hm => ?_) ?_ h3)
      · rw [d2, i5.2.1, hoN, hom, nj_succ]; rfl
      · rw [d3, i12.2.2, hoN, nj_add]; congr 1; simp [lnP]
      · obtain ⟨m1, m2, m3⟩ := hm y1
        rw [hoN] at m1 m2 m3
        rw [hoN, hom]
        exact I5f.push hI m1 m2 m3 d4 d5 d6
      · rw [hoN]
        have : (0 : Int32) + nI (lnM oM) = nI (0 + lnM oM) := nj_add 0 _
        rw [this]
        rfl
  · rcases hbP with y | ⟨y1, y2, y3, y4, q', y5, y6, y7, y8⟩
    · rcases hP with x | ⟨q2, b, x1, x2, _⟩
      · rw [x.2.1] at z; exact absurd z (by simp)
      · rw [y.1] at x1; exact absurd x1 (by simp)
    rw [y5] at z
    injection z with z
    subst z
    refine ⟨y6, fun S3 h3 _ => ?_⟩
    obtain ⟨d1, d2, d3, d4, d5, d6⟩ := h3
    have f3 := hF.ag d1
    have hop : oc oP = 1 := by cases oP with
      | none => exact absurd rfl y1
      | some _ => rfl
    rw [y8] at d3 ⊢
    rw [y7] at d5
    have r8 : gR S3 0 8 = gR S 0 8 := by rw [d1.R]
    refine q_truncate f3 (fun z2 _ => ?_) (fun q z2 => ?_)
    · rw [r8] at z2
      have hoN2 : oM = none := by
        rcases hM with y | ⟨q, b, y1, y2, _⟩
        · exact y.1
        · rw [y2] at z2; exact absurd z2 (by simp)
      refine q_finEnd (Q := Kf S cap) f3 (fun S9 h9 _ => key S3 S9 _ d1 ?_ ?_ (fun x y w hI hp _ => ?_) ?_ h9)
      · rw [d2, i5.2.1, hoN2, hop, nj_succ]; rfl
      · rw [d3, i12.2.2, hoN2, nj_add]; rfl
      · obtain ⟨m1, m2, m3⟩ := hp y1
        rw [hoN2, hop]
        exact I5f.push hI m1 m2 m3 d4 d5 d6
      · rw [hoN2]
        have : nI (lnP oP dP) + 0 = nI (lnP oP dP + 0) := nj_add _ 0
        rw [this]
        rfl
    · rw [r8] at z2
      rcases hbM with y | ⟨x1, x2, x3, x4, q2, x5, x6, x7, x8⟩
      · rcases hM with x | ⟨q2, b, x1, x2, _⟩
        · rw [x.2.1] at z2; exact absurd z2 (by simp)
        · rw [y.1] at x1; exact absurd x1 (by simp)
      rw [x5] at z2
      injection z2 with z2
      subst z2
      have hq2 := x6.1
      have w0 : gX S3 q2 0 = gX S q2 0 := d1.X q2 0 (by unfold pDg; omega)
      have w14 : gX S3 q2 14 = gX S q2 14 := d1.X q2 14 (by unfold pDg; omega)
      refine ⟨⟨x6.1, by rw [d1.1]; exact x6.2.1, by rw [d1.2.1]; exact x6.2.2⟩, fun S7 h7 _ => ?_⟩
      obtain ⟨e1, e2, e3, e4, e5, e6⟩ := h7
      have hom : oc oM = 1 := by cases oM with
        | none => exact absurd rfl x1
        | some _ => rfl
      rw [w14, x8] at e3 ⊢
      rw [w0, x7] at e5
      refine q_finEnd (Q := Kf S cap) (f3.ag e1) (fun S9 h9 _ => key S7 S9 _ (d1.tr e1) ?_ ?_ (fun x y w hI hp hm => ?_) ?_ h9)
      · rw [e2, d2, i5.2.1, hop, hom, nj_succ, nj_succ]
      · rw [e3, d3, i12.2.2, nj_add, nj_add]; congr 1; omega
      · obtain ⟨m1, m2, m3⟩ := hp y1
        obtain ⟨n1, n2, n3⟩ := hm x1
        rw [hop] at n1 n2 n3
        rw [hop, hom]
        exact I5f.push (I5f.push hI m1 m2 m3 d4 d5 d6) n1 n2 n3 e4 e5 e6
      · rw [nj_add]
