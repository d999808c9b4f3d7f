/-! WRITE: what may be written, on both sides. -/
theorem nd10 {m : Nat} (h : m < 2147483648) : nI m / 10 = nI (m / 10) := by
  apply Int32.toInt_inj.mp
  rw [div_nn (by rw [nj_int h]; omega) (by decide), nj_int h, nj_int (by omega), t10]
  omega
theorem nd100 {m : Nat} (h : m < 2147483648) : nI m / 100 = nI (m / 100) := by
  apply Int32.toInt_inj.mp
  rw [div_nn (by rw [nj_int h]; omega) (by decide), nj_int h, nj_int (by omega), t100]
  omega
theorem nr10 {m : Nat} (h : m < 2147483648) : nI m - nI m / 10 * 10 = nI (m % 10) := by
  apply Int32.toInt_inj.mp
  rw [rem_nn (by rw [nj_int h]; omega), nj_int h, nj_int (by omega), t10]
  omega
/-- the shape, kind and cause that x stands for -/
def shp (x : Int32) : Option (Nat × Nat × Nat) := if 0 ≤ x then (if x.toInt.toNat % 10 ≤ 1 then (if x.toInt.toNat / 10 % 10 ≤ 2 ∧ x.toInt.toNat / 100 ≤ 2 then some (x.toInt.toNat % 10, x.toInt.toNat / 10 % 10, x.toInt.toNat / 100) else none) else if x.toInt.toNat ≤ 6 then some (x.toInt.toNat, 0, 0) else none) else none
theorem shp_n {m : Nat} (h : m < 2147483648) : shp (nI m) = if m % 10 ≤ 1 then (if m / 10 % 10 ≤ 2 ∧ m / 100 ≤ 2 then some (m % 10, m / 10 % 10, m / 100) else none) else if m ≤ 6 then some (m, 0, 0) else none := by
  unfold shp
  rw [if_pos (nj_ge0 h), nj_int h, Int.toNat_natCast]
theorem shp_le {x : Int32} {s k c : Nat} (h : shp x = some (s, k, c)) : s ≤ 6 ∧ k ≤ 2 ∧ c ≤ 2 := by
  unfold shp at h
  split at h
  · split at h
    · split at h
      · injection h with h
        injection h with h1 h
        injection h with h2 h3
        omega
      · exact absurd h (by simp)
    · split at h
      · injection h with h
        injection h with h1 h
        injection h with h2 h3
        omega
      · exact absurd h (by simp)
  · exact absurd h (by simp)
theorem q_isSize {S : GS} {x : Int32} {Q : Int32 → GS → Prop} (h1 : okS x → Q 1 S) (h0 : ¬ okS x → Q 0 S) : wX1_isSize S x Q := by
  have e9 : (9999 : Int32).toInt = 9999 := by decide
  unfold wX1_isSize wX1_isSize_34 wX1_isSize_30 wX1_isSize_35
  refine ⟨fun z => ⟨Or.inl rfl, h0 (fun y => ?_)⟩, fun z => ?_⟩
  · have := le_of_lt32 z; rw [t0] at this; have := y.1; omega
  · have hx : 0 ≤ x.toInt := by have := le_32 (Int32.not_lt.mp z); rw [t0] at this; exact this
    have hr := rem_nn (m := 1024) hx
    have hd := div_nn (m := 1024) hx (by decide)
    rw [t1024] at hr hd
    refine ⟨fun z1 => ⟨Or.inr rfl, h1 ⟨hx, Or.inl ?_⟩⟩, fun z1 => ⟨fun z2 => ⟨Or.inl rfl, h0 (fun y => ?_)⟩, fun z2 => ⟨fun z3 => ⟨Or.inl rfl, h0 (fun y => ?_)⟩, fun z3 => ⟨Or.inr rfl, h1 ⟨hx, Or.inr ⟨?_, ?_⟩⟩⟩⟩⟩⟩
    · have := le_32 z1; rw [e9] at this; exact this
    · have a := le_of_lt32 (Int32.not_le.mp z1); rw [e9] at a
      rcases y.2 with w | w
      · omega
      · apply z2; apply Int32.toInt_inj.mp; rw [hr, t0]; exact w.1
    · have a := le_of_lt32 (Int32.not_le.mp z1); rw [e9] at a
      have b := le_of_lt32 z3; rw [e9, hd] at b
      rcases y.2 with w | w
      · omega
      · omega
    · have := congrArg Int32.toInt z2; rw [hr, t0] at this; exact this
    · have b := le_32 (Int32.not_lt.mp z3); rw [e9, hd] at b; exact b
theorem q_sizeTells {S : GS} {x : Int32} {Q : Int32 → GS → Prop} (h1 : okS x → Q 1 S) (h0 : ¬ okS x → Q 0 S) : wX9_sizeTells S x Q := q_isSize h1 h0
theorem q_tells {S : GS} {x y : Int32} {Q : Int32 → GS → Prop} (h1 : 0 ≤ x.toInt ∧ x.toInt ≤ y.toInt → Q 1 S) (h0 : ¬ (0 ≤ x.toInt ∧ x.toInt ≤ y.toInt) → Q 0 S) : wX9_tells S x y Q := by
  unfold wX9_tells wX9_tells_13 wX9_tells_14
  refine ⟨fun z => ⟨Or.inl rfl, h0 ?_⟩, fun z => ⟨fun z1 => ⟨Or.inl rfl, h0 ?_⟩, fun z1 => ⟨Or.inr rfl, h1 ?_⟩⟩⟩
  · have := le_of_lt32 z; rw [t0] at this; omega
  · have := le_of_lt32 z1; omega
  · have a := le_32 (Int32.not_lt.mp z); rw [t0] at a
    have b := le_32 (Int32.not_lt.mp z1)
    omega
theorem q_setShape {S : GS} {x : Int32} {Q : Int32 → GS → Prop} (hF : Fix S) (h0 : shp x = none → ∀ S2, Ag (fun k _ => k = 5) S S2 → Q 0 S2) (h1 : ∀ s k c, shp x = some (s, k, c) → ∀ S2, Ag (fun k _ => k = 5) S S2 → gX S2 5 0 = nI s → gX S2 5 1 = nI k → gX S2 5 2 = nI c → Q 1 S2) : wX1_setShape S 5 x Q := by
  refine ⟨fun hx => ?_, fun hx => h0 (by unfold shp; rw [if_neg hx]) S (Ag.rf _ _)⟩
  have hx0 : 0 ≤ x.toInt := by have := le_32 hx; rw [t0] at this; exact this
  have hlt := Int32.toInt_lt x
  obtain ⟨m, hm, em⟩ : ∃ m : Nat, m < 2147483648 ∧ x = nI m := ⟨x.toInt.toNat, by omega, nj_of hx0⟩
  subst em
  rw [shp_n hm] at h0 h1
  rw [nr10 hm, nd10 hm, nr10 (by omega), nd100 hm]
  refine ⟨fn_5 hF, fk_5 hF, fun S7 e7 S10 e10 S13 e13 => ?_⟩
  have f13 : Fix S13 := by rw [e13, e10, e7]; exact ((hF.x _ _ _).x _ _ _).x _ _ _
  have a13 : Ag (fun k _ => k = 5) S S13 := by rw [e13, e10, e7]; exact (((Ag.rf (fun k _ => k = 5) S).x 5 0 _ rfl).x 5 1 _ rfl).x 5 2 _ rfl
  have b0 : gX S13 5 0 = nI (m % 10) := by rw [e13, x_sX, if_neg (by omega), e10, x_sX, if_neg (by omega), e7, x_sX, if_pos ⟨rfl, rfl⟩]
  have b1 : gX S13 5 1 = nI (m / 10 % 10) := by rw [e13, x_sX, if_neg (by omega), e10, x_sX, if_pos ⟨rfl, rfl⟩]
  have b2 : gX S13 5 2 = nI (m / 100) := by rw [e13, x_sX, if_pos ⟨rfl, rfl⟩]
  have z0 : nI (m % 10) = 0 ↔ m % 10 = 0 := nj_eq (b := 0) (by omega) (by omega)
  have z1 : nI (m % 10) = 1 ↔ m % 10 = 1 := nj_eq (b := 1) (by omega) (by omega)
  have z6 : (6 : Int32) < nI m ↔ 6 < m := nj_lt (a := 6) (by omega) hm
  have w1 : (2 : Int32) < nI (m / 10 % 10) ↔ 2 < m / 10 % 10 := nj_lt (a := 2) (by omega) (by omega)
  have w2 : (2 : Int32) < nI (m / 100) ↔ 2 < m / 100 := nj_lt (a := 2) (by omega) (by omega)
  have h48 : m % 10 ≤ 1 → wX1_setShape_48 Q 5 S13 := by
    intro hm1
    rw [if_pos hm1] at h0 h1
    unfold wX1_setShape_48 wX1_setShape_68 wX1_setShape_69
    rw [b1, b2, w1, w2]
    refine ⟨fn_5 f13, fk_5 f13, fun y => ⟨Or.inl rfl, h0 (if_neg (by omega)) S13 a13⟩, fun y => ⟨fun y2 => ⟨Or.inl rfl, h0 (if_neg (by omega)) S13 a13⟩, fun y2 => ⟨Or.inr rfl, ?_⟩⟩⟩
    exact h1 _ _ _ (if_pos ⟨by omega, by omega⟩) S13 a13 b0 b1 b2
  rw [b0, z0, z1, z6]
  unfold wX1_setShape_81
  refine ⟨fun y => h48 (by omega), fun y => ⟨fun y1 => ⟨fun y2 => ⟨Or.inl rfl, ?_⟩, fun y2 => ⟨Or.inr rfl, ?_⟩⟩, fun y1 => h48 (by omega)⟩⟩
  · rw [if_neg (by omega)] at h0
    exact h0 (if_neg (by omega)) S13 a13
  · rw [if_neg (by omega)] at h1
    refine h1 m 0 0 (if_pos (by omega)) S13 a13 ?_ ?_ ?_
    · rw [b0]; congr 1; omega
    · rw [b1]; congr 1; omega
    · rw [b2]; congr 1; omega
theorem q_hasText {S : GS} {s : Nat} {Q : Int32 → GS → Prop} (hF : Fix S) (hs : gX S 5 0 = nI s) (hs6 : s ≤ 6) (h1 : okT s (gX S 5 3) (gX S 5 4) (gX S 5 5) (gX S 5 6) (gX S 5 7) (gX S 5 8) → Q 1 S) (h0 : ¬ okT s (gX S 5 3) (gX S 5 4) (gX S 5 5) (gX S 5 6) (gX S 5 7) (gX S 5 8) → Q 0 S) : wX1_hasText S 5 Q := by
  have p1 := fn_5 hF
  have p2 := fk_5 hF
  have e1 := sI_eq hs6 1 (by decide)
  have e2 := sI_eq hs6 2 (by decide)
  have e3 := sI_eq hs6 3 (by decide)
  have e5 := sI_eq hs6 5 (by decide)
  have v1 : (999 : Int32).toInt = 999 := by decide
  have v2 : (99999999 : Int32).toInt = 99999999 := by decide
  have v3 : (9999999 : Int32).toInt = 9999999 := by decide
  have h151 : ¬ okT s (gX S 5 3) (gX S 5 4) (gX S 5 5) (gX S 5 6) (gX S 5 7) (gX S 5 8) → wX1_hasText_151 Q 5 S := fun y => ⟨Or.inl rfl, h0 y⟩
  have h127 : ∀ x2 : Int32, (x2 = 0 ∧ ¬ (s = 1 ∨ s = 5)) ∨ (x2 = 1 ∧ (s = 1 ∨ s = 5)) → (0 ≤ (gX S 5 3).toInt ∧ (gX S 5 3).toInt ≤ 999) → (0 ≤ (gX S 5 4).toInt ∧ (gX S 5 4).toInt ≤ 99999999) → ((s = 1 ∨ s = 2 ∨ s = 3) → okS (gX S 5 5) ∧ okS (gX S 5 6)) → (s = 1 → okS (gX S 5 7)) → wX1_hasText_127 Q 5 x2 S := by
    intro x2 hx r3 r4 r56 r7
    rcases hx with ⟨y, ys⟩ | ⟨y, ys⟩
    · exact ⟨fun _ => ⟨Or.inr rfl, h1 ⟨r3, r4, r56, r7, fun w => absurd w ys⟩⟩, fun w => absurd y w⟩
    · refine ⟨fun w => absurd (y.symm.trans w) (by decide), fun _ => ⟨p1, p2, fun w => h151 (fun u => ?_), fun w => ⟨fun w2 => h151 (fun u => ?_), fun w2 => ⟨Or.inr rfl, h1 ⟨r3, r4, r56, r7, fun _ => ⟨?_, ?_⟩⟩⟩⟩⟩⟩
      · have a := le_of_lt32 w; rw [t0] at a; have := (u.2.2.2.2 ys).1; omega
      · have a := le_of_lt32 w2; rw [v3] at a; have := (u.2.2.2.2 ys).2; omega
      · have a := le_32 (Int32.not_lt.mp w); rw [t0] at a; exact a
      · have a := le_32 (Int32.not_lt.mp w2); rw [v3] at a; exact a
  have h109 : ∀ x2 : Int32, (x2 = 0 ∧ ¬ (s = 1 ∨ s = 5)) ∨ (x2 = 1 ∧ (s = 1 ∨ s = 5)) → (0 ≤ (gX S 5 3).toInt ∧ (gX S 5 3).toInt ≤ 999) → (0 ≤ (gX S 5 4).toInt ∧ (gX S 5 4).toInt ≤ 99999999) → ((s = 1 ∨ s = 2 ∨ s = 3) → okS (gX S 5 5) ∧ okS (gX S 5 6)) → wX1_hasText_109 Q 5 x2 S := by
    intro x2 hx r3 r4 r56
    refine ⟨p1, p2, ?_⟩
    rw [hs]
    refine ⟨fun y => h127 x2 hx r3 r4 r56 (fun w => absurd (e1.mpr w) y), fun y => q_isSize (fun w _ => ⟨fun u => absurd u (by decide), fun _ => h127 x2 hx r3 r4 r56 (fun _ => w)⟩) (fun w _ => ⟨fun _ => h151 (fun u => w (u.2.2.2.1 (e1.mp y))), fun u => absurd rfl u⟩)⟩
  have h51 : ∀ x1 x2 : Int32, ((x1 = 0 ∧ ¬ (s = 1 ∨ s = 2 ∨ s = 3)) ∨ (x1 = 1 ∧ (s = 1 ∨ s = 2 ∨ s = 3))) → ((x2 = 0 ∧ ¬ (s = 1 ∨ s = 5)) ∨ (x2 = 1 ∧ (s = 1 ∨ s = 5))) → wX1_hasText_51 Q 5 x1 x2 S := by
    intro x1 x2 hx1 hx
    refine ⟨p1, p2, fun y => h151 (fun u => ?_), fun y => ⟨fun y2 => h151 (fun u => ?_), fun y2 => ⟨fun y3 => h151 (fun u => ?_), fun y3 => ⟨fun y4 => h151 (fun u => ?_), fun y4 => ?_⟩⟩⟩⟩
    · have a := le_of_lt32 y; rw [t0] at a; have := u.1.1; omega
    · have a := le_of_lt32 y2; rw [v1] at a; have := u.1.2; omega
    · have a := le_of_lt32 y3; rw [t0] at a; have := u.2.1.1; omega
    · have a := le_of_lt32 y4; rw [v2] at a; have := u.2.1.2; omega
    have a1 := le_32 (Int32.not_lt.mp y)
    have a2 := le_32 (Int32.not_lt.mp y2)
    have a3 := le_32 (Int32.not_lt.mp y3)
    have a4 := le_32 (Int32.not_lt.mp y4)
    rw [t0] at a1 a3
    rw [v1] at a2
    rw [v2] at a4
    rcases hx1 with ⟨w, ws⟩ | ⟨w, ws⟩
    · exact ⟨fun _ => h109 x2 hx ⟨a1, a2⟩ ⟨a3, a4⟩ (fun u => absurd u ws), fun u => absurd w u⟩
    · refine ⟨fun u => absurd (w.symm.trans u) (by decide), fun _ => q_isSize (fun u _ => ⟨fun r => absurd r (by decide), fun _ => q_isSize (fun u2 _ => ⟨fun r => absurd r (by decide), fun _ => h109 x2 hx ⟨a1, a2⟩ ⟨a3, a4⟩ (fun _ => ⟨u, u2⟩)⟩) (fun u2 _ => ⟨fun _ => h151 (fun r => u2 (r.2.2.1 ws).2), fun r => absurd rfl r⟩)⟩) (fun u _ => ⟨fun _ => h151 (fun r => u (r.2.2.1 ws).1), fun r => absurd rfl r⟩)⟩
  have h29 : ∀ x1 : Int32, ((x1 = 0 ∧ ¬ (s = 1 ∨ s = 2 ∨ s = 3)) ∨ (x1 = 1 ∧ (s = 1 ∨ s = 2 ∨ s = 3))) → wX1_hasText_29 Q 5 x1 S := by
    intro x1 hx1
    refine ⟨p1, p2, ?_⟩
    rw [hs]
    exact ⟨fun y => h51 x1 1 hx1 (Or.inr ⟨rfl, Or.inl (e1.mp y)⟩), fun y => ⟨fun y2 => h51 x1 0 hx1 (Or.inl ⟨rfl, fun w => by rcases w with w | w; exact y (e1.mpr w); exact y2 (e5.mpr w)⟩), fun y2 => h51 x1 1 hx1 (Or.inr ⟨rfl, Or.inr (e5.mp y2)⟩)⟩⟩
  refine ⟨p1, p2, ?_⟩
  rw [hs]
  refine ⟨fun y => h29 1 (Or.inr ⟨rfl, Or.inl (e1.mp y)⟩), fun y => ⟨fun y2 => h29 1 (Or.inr ⟨rfl, Or.inr (Or.inl (e2.mp y2))⟩), fun y2 => ⟨fun y3 => h29 0 (Or.inl ⟨rfl, fun w => ?_⟩), fun y3 => h29 1 (Or.inr ⟨rfl, Or.inr (Or.inr (e3.mp y3))⟩)⟩⟩⟩
  rcases w with w | w | w
  · exact y (e1.mpr w)
  · exact y2 (e2.mpr w)
  · exact y3 (e3.mpr w)
