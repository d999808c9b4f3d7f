/-! WRITE, BOTH SIDES. -/
/-- the reference copies what it poured onto the pad -/
theorem q_wr257 {S0 : GS} {L : List Int32} {Q : Int32 → GS → Prop} (hF : Fix S0) (hl : gX S0 14 5 = nI L.length) (hL : L.length ≤ 72) (hi : ∀ i, i < L.length → gX S0 17 i = L.getD i 0) (hQ : ∀ S2, Fix S2 → Ag (fun k j => k = 15 ∨ (k = 14 ∧ j = 1)) S0 S2 → gX S2 14 1 = nI L.length → (∀ i, gX S2 15 i = if i < L.length then L.getD i 0 else gX S0 15 i) → Q (nI L.length) S2) : ∀ (r j : Nat) (S : GS), j + r = L.length → Fix S → Ag (fun k _ => k = 15) S0 S → (∀ i, gX S 15 i = if i < j then L.getD i 0 else gX S0 15 i) → wX9_write_257 Q 14 (r + 1) (nI j) S := by
  intro r
  induction r with
  | zero =>
    intro j S hj f a b
    have ej : j = L.length := by omega
    have l5 : gX S 14 5 = nI L.length := by rw [a.X 14 5 (by omega)]; exact hl
    unfold wX9_write_257
    rw [l5]
    refine ⟨fn_14 f, fk_14 f, fun _ S3 e3 => ?_, fun z => absurd ((nj_le (by omega) (by omega)).mpr (by omega)) z⟩
    have t : gX S3 14 1 = nI L.length := by rw [e3, x_sX, if_pos ⟨rfl, rfl⟩]
    rw [t]
    refine hQ S3 (by rw [e3]; exact f.x _ _ _) ?_ t (fun i => ?_)
    · rw [e3]; exact (a.mono (fun k j y => Or.inl y)).x _ _ _ (Or.inr ⟨rfl, rfl⟩)
    · rw [e3, x_sX, if_neg (by omega), b i, ej]
  | succ r ih =>
    intro j S hj f a b
    have l5 : gX S 14 5 = nI L.length := by rw [a.X 14 5 (by omega)]; exact hl
    unfold wX9_write_257
    rw [l5, nj_succ]
    refine ⟨fn_14 f, fk_14 f, fun z => absurd ((nj_le (by omega) (by omega)).mp z) (by omega), fun _ => ⟨17, fr_14_4 f, fn_17 f, fk_17 f, by rw [fl_17 f]; exact nj_in (by omega) (by omega), 15, fr_14_0 f, fn_15 f, fk_15 f, by rw [fl_15 f]; exact nj_in (by omega) (by omega), fun S16 e16 => ?_⟩⟩
    rw [nj_clamp (by omega), a.X 17 j (by omega), hi j (by omega)] at e16
    refine ih (j + 1) S16 (by omega) (by rw [e16]; exact f.x _ _ _) (by rw [e16]; exact a.x _ _ _ rfl) (fun i => ?_)
    rw [e16, x_sX]
    by_cases e : i = j
    · rw [if_pos ⟨rfl, e⟩, if_pos (by omega), e]
    · rw [if_neg (fun y => e y.2), b i]
      by_cases c : i < j
      · rw [if_pos c, if_pos (by omega)]
      · rw [if_neg c, if_neg (by omega)]
/-- after the reference's write of the text L -/
def Wr (S S2 : GS) (L : List Int32) : Prop := Fix S2 ∧ Ag (fun k j => k = 15 ∨ k = 16 ∨ k = 17 ∨ k = 18 ∨ (k = 14 ∧ (j = 1 ∨ j = 3 ∨ j = 5 ∨ j = 7 ∨ j = 32))) S S2 ∧ gX S2 14 1 = nI L.length ∧ gX S2 14 32 = 0 ∧ ∀ i, gX S2 15 i = if i < L.length then L.getD i 0 else gX S 15 i
theorem q_wr193 {S : GS} {s k c : Nat} {x1 nm at' a b cp tk : Int32} {p : Int32} {Q : Int32 → GS → Prop} (hF : Fix S) (hs : s ≤ 6) (hk : k ≤ 2) (hc : c ≤ 2) (hok : okT s nm at' a b cp tk) (hp : (p = 0 ∧ k = 0 ∧ c = 0) ∨ (p = 1 ∧ ((x1 / 10) - (x1 / 10) / 10 * 10) = nI k ∧ x1 / 100 = nI c)) (hQ : ∀ S2, Wr S S2 (wrL s k c nm at' a b cp tk) → Q (nI (wrL s k c nm at' a b cp tk).length) S2) : wX9_write_193 Q 14 x1 nm at' a b cp tk (nI s) p 1 14 0 S := by
  obtain ⟨w1, w2, w3⟩ := wr_pr (k := k) (c := c) hs hok
  have h235 : ∀ S40, S40 = sX S 14 32 0 → wX9_write_235 Q 14 nm at' a b cp tk (nI s) 14 (nI s) (nI k) (nI c) S40 := by
    intro S40 e40
    have f40 : Fix S40 := by rw [e40]; exact hF.x _ _ _
    refine ⟨fn_14 f40, fk_14 f40, q_makeMould f40 hs hk hc (fun S25 h25 _ => ⟨fn_14 h25.fix, fk_14 h25.fix, ?_⟩)⟩
    refine q_pourNumbers h25.fix hs h25.2.2.1 h25.2.2.2.1 h25.2.2.2.2 w2 (by rw [w1]; omega) (fun S31 h31 _ => ?_)
    rw [w1] at h31
    obtain ⟨a31, b5, b80, b17⟩ := h31
    have f31 : Fix S31 := h25.fix.ag a31
    refine ⟨(wrL s k c nm at' a b cp tk).length + 1, ?_⟩
    have z0 : (0 : Int32) = nI 0 := by decide
    rw [z0]
    have hA : Ag (fun k j => k = 15 ∨ k = 16 ∨ k = 17 ∨ k = 18 ∨ (k = 14 ∧ (j = 1 ∨ j = 3 ∨ j = 5 ∨ j = 7 ∨ j = 32))) S S31 := by
      have h1 : Ag (fun k j => k = 15 ∨ k = 16 ∨ k = 17 ∨ k = 18 ∨ (k = 14 ∧ (j = 1 ∨ j = 3 ∨ j = 5 ∨ j = 7 ∨ j = 32))) S S40 := by rw [e40]; exact (Ag.rf _ _).x _ _ _ (by omega)
      exact (h1.tr (h25.2.1.mono (fun k j y => by unfold pM at y; omega))).tr (a31.mono (fun k j y => by unfold pW at y; omega))
    have h15 : ∀ i, gX S31 15 i = gX S 15 i := fun i => by
      rw [a31.X 15 i (by unfold pW; omega), h25.2.1.X 15 i (by unfold pM; omega), e40, x_sX, if_neg (by omega)]
    have h32 : gX S31 14 32 = 0 := by
      rw [a31.X 14 32 (by unfold pW; omega), h25.2.1.X 14 32 (by unfold pM; omega), e40, x_sX, if_pos ⟨rfl, rfl⟩]
    refine q_wr257 (S0 := S31) f31 b5 (by omega) b17 (fun S2 f2 a2 l2 r2 => hQ S2 ⟨f2, hA.tr (a2.mono (fun k j y => by omega)), l2, ?_, fun i => ?_⟩) _ 0 S31 (by omega) f31 (Ag.rf _ _) (fun i => by rw [if_neg (by omega)])
    · rw [a2.X 14 32 (by omega)]; exact h32
    · rw [r2 i, h15 i]
  refine ⟨fn_14 hF, fk_14 hF, fun S40 e40 => ⟨fun _ => ?_, fun y => absurd y (by decide)⟩⟩
  have := h235 S40 e40
  unfold wX9_write_222
  rcases hp with ⟨y, yk, yc⟩ | ⟨y, yk, yc⟩
  · subst yk yc
    exact ⟨fun _ => ⟨fun _ => this, fun w => absurd y w⟩, fun w => absurd y w⟩
  · rw [yk, yc]
    exact ⟨fun w => absurd (y.symm.trans w) (by decide), fun _ => ⟨fun w => absurd (y.symm.trans w) (by decide), fun _ => this⟩⟩
theorem q_sizesAny {S : GS} {x0 : Int32} {Q : Int32 → GS → Prop} (h : ∀ v, Q v S) : wX9_sizesOf S x0 Q := ⟨fun _ => ⟨fun _ => h _, fun _ => ⟨fun _ => h _, fun _ => h _⟩⟩, fun _ => h _⟩
theorem q_write9 {S : GS} {x nm at' a b cp tk : Int32} {Q : Int32 → GS → Prop} (hF : Fix S) (h0 : (shp x = none ∨ ∃ s k c, shp x = some (s, k, c) ∧ ¬ okT s nm at' a b cp tk) → Q 0 (sX S 14 32 1)) (h1 : ∀ s k c, shp x = some (s, k, c) → okT s nm at' a b cp tk → ∀ S2, Wr S S2 (wrL s k c nm at' a b cp tk) → Q (nI (wrL s k c nm at' a b cp tk).length) S2) : wX9_write S 14 x nm at' a b cp tk Q := by
  have p1 := fn_14 hF
  have p2 := fk_14 hF
  have v1 : (999 : Int32).toInt = 999 := by decide
  have v2 : (99999999 : Int32).toInt = 99999999 := by decide
  have v3 : (9999999 : Int32).toInt = 9999999 := by decide
  have v4 : (221 : Int32).toInt = 221 := by decide
  have v6 : (6 : Int32).toInt = 6 := by decide
  -- refused
  have bad193 : ∀ x8 x9 : Int32, (shp x = none ∨ ∃ s k c, shp x = some (s, k, c) ∧ ¬ okT s nm at' a b cp tk) → wX9_write_182 Q 14 x nm at' a b cp tk x8 x9 0 S := by
    intro x8 x9 hb
    refine ⟨fun _ => ⟨p1, p2, fun S40 e40 => ⟨fun y => absurd rfl y, fun _ => ?_⟩⟩, fun y => absurd rfl y⟩
    rw [e40]; exact h0 hb
  have bad157 : ∀ x8 x9 : Int32, (shp x = none ∨ ∃ s k c, shp x = some (s, k, c) ∧ ¬ okT s nm at' a b cp tk) → wX9_write_157 Q 14 x nm at' a b cp tk x8 x9 0 S := by
    intro x8 x9 hb
    have h169 : wX9_write_169 Q 14 x nm at' a b cp tk x8 x9 0 S := q_tells (fun _ _ => ⟨fun _ => bad193 x8 x9 hb, fun _ => bad193 x8 x9 hb⟩) (fun _ _ => ⟨fun _ => bad193 x8 x9 hb, fun _ => bad193 x8 x9 hb⟩)
    exact ⟨fun _ => h169, fun _ => ⟨fun _ => bad193 x8 x9 hb, fun _ => h169⟩⟩
  have bad140 : ∀ x8 x9 x10 : Int32, (shp x = none ∨ ∃ s k c, shp x = some (s, k, c) ∧ ¬ okT s nm at' a b cp tk) → wX9_write_140 Q 14 x nm at' a b cp tk x8 x9 x10 0 S := fun x8 x9 x10 hb => ⟨fun _ => bad157 x8 x9 hb, fun _ => q_sizeTells (fun _ _ => ⟨fun _ => bad157 x8 x9 hb, fun _ => bad157 x8 x9 hb⟩) (fun _ _ => ⟨fun _ => bad157 x8 x9 hb, fun _ => bad157 x8 x9 hb⟩)⟩
  have bad113 : ∀ x8 x9 x10 : Int32, (shp x = none ∨ ∃ s k c, shp x = some (s, k, c) ∧ ¬ okT s nm at' a b cp tk) → wX9_write_113 Q 14 x nm at' a b cp tk x8 x9 x10 0 S := fun x8 x9 x10 hb => ⟨fun _ => bad140 x8 x9 x10 hb, fun _ => q_sizeTells (fun _ _ => ⟨fun _ => bad140 x8 x9 x10 hb, fun _ => q_sizeTells (fun _ _ => ⟨fun _ => bad140 x8 x9 x10 hb, fun _ => bad140 x8 x9 x10 hb⟩) (fun _ _ => ⟨fun _ => bad140 x8 x9 x10 hb, fun _ => bad140 x8 x9 x10 hb⟩)⟩) (fun _ _ => ⟨fun _ => bad140 x8 x9 x10 hb, fun _ => q_sizeTells (fun _ _ => ⟨fun _ => bad140 x8 x9 x10 hb, fun _ => bad140 x8 x9 x10 hb⟩) (fun _ _ => ⟨fun _ => bad140 x8 x9 x10 hb, fun _ => bad140 x8 x9 x10 hb⟩)⟩)⟩
  have bad89 : ∀ x8 x9 x10 : Int32, (shp x = none ∨ ∃ s k c, shp x = some (s, k, c) ∧ ¬ okT s nm at' a b cp tk) → wX9_write_112 Q 14 x nm at' a b cp tk x8 x9 x10 S := fun x8 x9 x10 hb => bad113 x8 x9 x10 hb
  -- of a shape that there is
  have good89 : ∀ (s k c : Nat) (p : Int32), shp x = some (s, k, c) → s ≤ 6 → k ≤ 2 → c ≤ 2 → ((p = 0 ∧ k = 0 ∧ c = 0) ∨ (p = 1 ∧ ((x / 10) - (x / 10) / 10 * 10) = nI k ∧ x / 100 = nI c)) → wX9_write_89 Q 14 x nm at' a b cp tk (nI s) p (nI (mSizes s)) S := by
    intro s k c p hsh hs hk hc hp
    have hbad : ¬ okT s nm at' a b cp tk → (shp x = none ∨ ∃ s k c, shp x = some (s, k, c) ∧ ¬ okT s nm at' a b cp tk) := fun y => Or.inr ⟨s, k, c, hsh, y⟩
    have e1 := sI_eq hs 1 (by decide)
    have e5 := sI_eq hs 5 (by decide)
    have em3 : nI (mSizes s) = 3 ↔ s = 1 := by
      have : s = 0 ∨ s = 1 ∨ s = 2 ∨ s = 3 ∨ s = 4 ∨ s = 5 ∨ s = 6 := by omega
      rcases this with y | y | y | y | y | y | y <;> subst y <;> decide
    have em2 : nI (mSizes s) < 2 ↔ ¬ (s = 1 ∨ s = 2 ∨ s = 3) := by
      have : s = 0 ∨ s = 1 ∨ s = 2 ∨ s = 3 ∨ s = 4 ∨ s = 5 ∨ s = 6 := by omega
      rcases this with y | y | y | y | y | y | y <;> subst y <;> decide
    have g182 : okT s nm at' a b cp tk → wX9_write_182 Q 14 x nm at' a b cp tk (nI s) p 1 S := fun hok => ⟨fun y => absurd y (by decide), fun _ => q_wr193 hF hs hk hc hok hp (fun S2 h2 => h1 s k c hsh hok S2 h2)⟩
    have g157 : (0 ≤ nm.toInt ∧ nm.toInt ≤ 999) → (0 ≤ at'.toInt ∧ at'.toInt ≤ 99999999) → ((s = 1 ∨ s = 2 ∨ s = 3) → okS a ∧ okS b) → (s = 1 → okS cp) → wX9_write_157 Q 14 x nm at' a b cp tk (nI s) p 1 S := by
      intro r1 r2 r3 r4
      have g169 : (s = 1 ∨ s = 5) → wX9_write_169 Q 14 x nm at' a b cp tk (nI s) p 1 S := by
        intro y
        refine q_tells (fun w _ => ⟨fun _ => g182 ⟨r1, r2, r3, r4, fun _ => ?_⟩, fun u => absurd u (by decide)⟩) (fun w _ => ⟨fun u => absurd rfl u, fun _ => bad193 _ _ (hbad (fun u => w ?_))⟩)
        · rw [v3] at w; exact w
        · rw [v3]; exact u.2.2.2.2 y
      exact ⟨fun y => g169 (Or.inl (e1.mp y)), fun y => ⟨fun y2 => g182 ⟨r1, r2, r3, r4, fun w => by rcases w with w | w; exact absurd (e1.mpr w) y; exact absurd (e5.mpr w) y2⟩, fun y2 => g169 (Or.inr (e5.mp y2))⟩⟩
    have g140 : (0 ≤ nm.toInt ∧ nm.toInt ≤ 999) → (0 ≤ at'.toInt ∧ at'.toInt ≤ 99999999) → ((s = 1 ∨ s = 2 ∨ s = 3) → okS a ∧ okS b) → wX9_write_140 Q 14 x nm at' a b cp tk (nI s) p (nI (mSizes s)) 1 S := by
      intro r1 r2 r3
      exact ⟨fun y => g157 r1 r2 r3 (fun w => absurd (em3.mpr w) y), fun y => q_sizeTells (fun w _ => ⟨fun _ => g157 r1 r2 r3 (fun _ => w), fun u => absurd u (by decide)⟩) (fun w _ => ⟨fun u => absurd rfl u, fun _ => bad157 _ _ (hbad (fun u => w (u.2.2.2.1 (em3.mp y))))⟩)⟩
    refine q_tells (fun r1 _ => ⟨fun y => absurd y (by decide), fun _ => q_tells (fun r2 _ => ⟨fun y => absurd y (by decide), fun _ => ?_⟩) (fun r2 _ => ⟨fun _ => bad89 _ _ _ (hbad (fun u => r2 (by rw [v2]; exact u.2.1))), fun y => absurd rfl y⟩)⟩) (fun r1 _ => ⟨fun _ => bad89 _ _ _ (hbad (fun u => r1 (by rw [v1]; exact u.1))), fun y => absurd rfl y⟩)
    rw [v1] at r1
    rw [v2] at r2
    refine ⟨fun y => g140 r1 r2 (fun w => absurd w (em2.mp y)), fun y => ?_⟩
    have hs3 : s = 1 ∨ s = 2 ∨ s = 3 := Classical.byContradiction (fun w => y (em2.mpr w))
    exact q_sizeTells (fun u _ => ⟨fun r => absurd r (by decide), fun _ => q_sizeTells (fun u2 _ => ⟨fun _ => g140 r1 r2 (fun _ => ⟨u, u2⟩), fun r => absurd r (by decide)⟩) (fun u2 _ => ⟨fun r => absurd rfl r, fun _ => bad140 _ _ _ (hbad (fun r => u2 (r.2.2.1 hs3).2))⟩)⟩) (fun u _ => ⟨fun _ => bad140 _ _ _ (hbad (fun r => u (r.2.2.1 hs3).1)), fun r => absurd rfl r⟩)
  -- which shape
  have hbadN : shp x = none → (shp x = none ∨ ∃ s k c, shp x = some (s, k, c) ∧ ¬ okT s nm at' a b cp tk) := Or.inl
  have bad60 : ∀ t0' : Int32, shp x = none → ¬ (0 ≤ x.toInt ∧ x.toInt ≤ 6) → wX9_write_60 Q 14 x nm at' a b cp tk t0' 0 S := by
    intro t0' hn h6
    refine q_sizesAny (fun v _ => ⟨fun y => absurd rfl y, fun _ => q_tells (fun r _ => ?_) (fun r _ => ⟨fun _ => bad89 _ _ _ (hbadN hn), fun y => absurd rfl y⟩)⟩)
    rw [v6] at r
    exact absurd r h6
  by_cases hx : 0 ≤ x
  · have hx0 : 0 ≤ x.toInt := by have := le_32 hx; rw [t0] at this; exact this
    have hlt := Int32.toInt_lt x
    obtain ⟨m, hm, em⟩ : ∃ m : Nat, m < 2147483648 ∧ x = nI m := ⟨x.toInt.toNat, by omega, nj_of hx0⟩
    subst em
    have hsn := shp_n hm
    have hxi := nj_int hm
    have w1 : (1 : Int32) < nI m ↔ 1 < m := nj_lt (a := 1) (by omega) hm
    have w10 : (1 : Int32) < nI (m % 10) ↔ 1 < m % 10 := nj_lt (a := 1) (by omega) (by omega)
    have wk : (2 : Int32) < nI (m / 10 % 10) ↔ 2 < m / 10 % 10 := nj_lt (a := 2) (by omega) (by omega)
    -- the whole number as a shape
    have h26 : 1 < m → (m ≤ 6 ∨ shp (nI m) = none) → wX9_write_26 Q 14 (nI m) nm at' a b cp tk (nI m) S := by
      intro h1m h6
      refine ⟨fun _ => ?_, fun y => absurd (w1.mpr h1m) y⟩
      by_cases h6' : m ≤ 6
      · have hsm : shp (nI m) = some (m, 0, 0) := by rw [hsn, if_neg (by omega), if_pos h6']
        refine q_sizesOf h6' (fun _ => ⟨fun y => absurd rfl y, fun _ => q_tells (fun r _ => ⟨fun y => absurd y (by decide), fun _ => ⟨fun y => ?_, fun y => good89 m 0 0 0 hsm h6' (by omega) (by omega) (Or.inl ⟨rfl, rfl, rfl⟩)⟩⟩) (fun r => ?_)⟩)
        · have := (nj_lt (b := 2) hm (by omega)).mp y
          omega
        · exfalso
          apply r
          rw [hxi, v6]
          omega
      · rcases h6 with y | y
        · exact absurd y h6'
        · exact bad60 _ y (by rw [hxi]; omega)
    refine q_tells (fun r _ => ⟨fun y => absurd y (by decide), fun _ => ?_⟩) (fun r _ => ⟨fun _ => ?_, fun y => absurd rfl y⟩)
    · rw [hxi, v4] at r
      rw [nr10 hm, w10]
      refine ⟨fun y => h26 (by omega) ?_, fun y => ?_⟩
      · by_cases h6 : m ≤ 6
        · exact Or.inl h6
        · right; rw [hsn, if_neg (by omega), if_neg h6]
      · refine ⟨fun w => absurd (w10.mp w) y, fun _ => q_tells (fun r2 _ => ⟨fun w => absurd w (by decide), fun _ => ?_⟩) (fun r2 => ?_)⟩
        · rw [nd10 hm, nr10 (by omega), wk]
          refine ⟨fun w => bad60 _ (by rw [hsn, if_pos (by omega), if_neg (by omega)]) (by rw [hxi]; omega), fun w => ?_⟩
          have hsm : shp (nI m) = some (m % 10, m / 10 % 10, m / 100) := by rw [hsn, if_pos (by omega), if_pos (by omega)]
          refine q_sizesOf (s := m % 10) (by omega) (fun _ => ⟨fun _ => good89 _ _ _ 1 hsm (by omega) (by omega) (by omega) (Or.inr ⟨rfl, ?_, nd100 hm⟩), fun u => absurd u (by decide)⟩)
          rw [nd10 hm, nr10 (by omega)]
        · exfalso
          apply r2
          rw [hxi, v4]
          exact r
    · rw [hxi, v4] at r
      refine h26 (by omega) (Or.inr ?_)
      rw [hsn]
      by_cases y : m % 10 ≤ 1
      · rw [if_pos y, if_neg (by omega)]
      · rw [if_neg y, if_neg (by omega)]
  · have hn : shp x = none := by unfold shp; rw [if_neg hx]
    have hneg : x.toInt < 0 := by have := le_of_lt32 (Int32.not_le.mp hx); rw [t0] at this; exact this
    refine q_tells (fun r => ?_) (fun r _ => ⟨fun _ => ⟨fun y => ?_, fun _ => q_tells (fun r2 => ?_) (fun r2 _ => ⟨fun _ => bad60 _ hn (by omega), fun y => absurd rfl y⟩)⟩, fun y => absurd rfl y⟩)
    · exact absurd r.1 (by omega)
    · have := le_of_lt32 y; rw [t1] at this; omega
    · exact absurd r2.1 (by omega)
theorem write_ok {S : GS} {cap n E P lg pl : Nat} {oP oM : Option Nat} {dP : Int32 × Int32} {x nm at' a b cp tk : Int32} (h : Inw S cap n E P lg pl oP oM dP) (hcap : cap < 48) : wX8_write S 0 x nm at' a b cp tk (fun r S1 => ∀ S1', Oa S1 S1' → wX9_write S1' 14 x nm at' a b cp tk (fun v S2 => v = r ∧ Rq S1' S2 0 cap)) (fun X S1 => X = "java/lang/IllegalArgumentException" ∧ ∀ S1', Oa S1 S1' → wX9_write S1' 14 x nm at' a b cp tk (fun _ S2 => Rq S1' S2 1 cap)) := by
  obtain ⟨⟨hF, hcl⟩, i2, _⟩ := id h
  -- refused on both sides
  have bad : ∀ S7, Ag (fun k _ => k = 5) S S7 → (shp x = none ∨ ∃ s k c, shp x = some (s, k, c) ∧ ¬ okT s nm at' a b cp tk) → ∀ S1', Oa S7 S1' → wX9_write S1' 14 x nm at' a b cp tk (fun _ S2 => Rq S1' S2 1 cap) := by
    intro S7 a7 hb S1' ha
    have s1 : Sc S S1' := (Sc.ag a7 (fun k j y => by unfold scP; omega)).tr ha.sc
    have x1 := ha.X
    refine q_write9 (s1.fix hF) (fun _ => ⟨by rw [x_sX, if_pos ⟨rfl, rfl⟩]; decide, rfl, rfl, n, E, P, lg, pl, oP, oM, dP, h.sc (s1.x _ _ _ (by unfold scP; omega)) ?_ (by omega) (by omega)⟩) (fun s k c hs hok => ?_)
    · exact i2.sc (by rw [x_sX, if_neg (by omega), x1, a7.X 1 1 (by omega)]) (by rw [x_sX, if_neg (by omega), x1, a7.X 14 1 (by omega)]) (fun i => by rw [x_sX, if_neg (by omega), x1, a7.X 2 i (by omega)]) (fun i => by rw [x_sX, if_neg (by omega), x1, a7.X 15 i (by omega)])
    · exfalso
      rcases hb with y | ⟨s', k', c', y, y2⟩
      · rw [y] at hs; exact absurd hs (by simp)
      · rw [hs] at y
        injection y with y
        injection y with y1 y
        subst y1
        exact y2 hok
  refine ⟨fn_0 hF, fk_0 hF, 5, fr_0_2 hF, fn_5 hF, fk_5 hF, q_setShape hF (fun hn S7 a7 _ => ⟨fun y => absurd rfl y, fun _ => ⟨rfl, bad S7 a7 (Or.inl hn)⟩⟩) (fun s k c hs S7 a7 b0 b1 b2 _ => ⟨fun _ => ?_, fun y => absurd y (by decide)⟩)⟩
  have hle := shp_le hs
  have f7 : Fix S7 := hF.ag a7
  refine ⟨5, fr_0_2 f7, fn_5 f7, fk_5 f7, fun S17 e17 => ?_⟩
  have f17 : Fix S17 := by rw [e17]; exact f7.x _ _ _
  refine ⟨5, fr_0_2 f17, fn_5 f17, fk_5 f17, fun S28 e28 => ?_⟩
  have f28 : Fix S28 := by rw [e28]; exact f17.x _ _ _
  refine ⟨5, fr_0_2 f28, fn_5 f28, fk_5 f28, fun S41 e41 => ?_⟩
  have f41 : Fix S41 := by rw [e41]; exact f28.x _ _ _
  refine ⟨5, fr_0_2 f41, fn_5 f41, fk_5 f41, fun S56 e56 => ?_⟩
  have f56 : Fix S56 := by rw [e56]; exact f41.x _ _ _
  refine ⟨5, fr_0_2 f56, fn_5 f56, fk_5 f56, fun S73 e73 => ?_⟩
  have f73 : Fix S73 := by rw [e73]; exact f56.x _ _ _
  refine ⟨5, fr_0_2 f73, fn_5 f73, fk_5 f73, fun S92 e92 => ?_⟩
  have f92 : Fix S92 := by rw [e92]; exact f73.x _ _ _
  have a92 : Ag (fun k _ => k = 5) S S92 := by
    rw [e92, e73, e56, e41, e28, e17]
    exact (((((a7.x 5 3 _ rfl).x 5 4 _ rfl).x 5 5 _ rfl).x 5 6 _ rfl).x 5 7 _ rfl).x 5 8 _ rfl
  have d0 : gX S92 5 0 = nI s := by rw [e92, x_sX, if_neg (by omega), e73, x_sX, if_neg (by omega), e56, x_sX, if_neg (by omega), e41, x_sX, if_neg (by omega), e28, x_sX, if_neg (by omega), e17, x_sX, if_neg (by omega)]; exact b0
  have d1 : gX S92 5 1 = nI k := by rw [e92, x_sX, if_neg (by omega), e73, x_sX, if_neg (by omega), e56, x_sX, if_neg (by omega), e41, x_sX, if_neg (by omega), e28, x_sX, if_neg (by omega), e17, x_sX, if_neg (by omega)]; exact b1
  have d2 : gX S92 5 2 = nI c := by rw [e92, x_sX, if_neg (by omega), e73, x_sX, if_neg (by omega), e56, x_sX, if_neg (by omega), e41, x_sX, if_neg (by omega), e28, x_sX, if_neg (by omega), e17, x_sX, if_neg (by omega)]; exact b2
  have d3 : gX S92 5 3 = nm := by rw [e92, x_sX, if_neg (by omega), e73, x_sX, if_neg (by omega), e56, x_sX, if_neg (by omega), e41, x_sX, if_neg (by omega), e28, x_sX, if_neg (by omega), e17, x_sX, if_pos ⟨rfl, rfl⟩]
  have d4 : gX S92 5 4 = at' := by rw [e92, x_sX, if_neg (by omega), e73, x_sX, if_neg (by omega), e56, x_sX, if_neg (by omega), e41, x_sX, if_neg (by omega), e28, x_sX, if_pos ⟨rfl, rfl⟩]
  have d5 : gX S92 5 5 = a := by rw [e92, x_sX, if_neg (by omega), e73, x_sX, if_neg (by omega), e56, x_sX, if_neg (by omega), e41, x_sX, if_pos ⟨rfl, rfl⟩]
  have d6 : gX S92 5 6 = b := by rw [e92, x_sX, if_neg (by omega), e73, x_sX, if_neg (by omega), e56, x_sX, if_pos ⟨rfl, rfl⟩]
  have d7 : gX S92 5 7 = cp := by rw [e92, x_sX, if_neg (by omega), e73, x_sX, if_pos ⟨rfl, rfl⟩]
  have d8 : gX S92 5 8 = tk := by rw [e92, x_sX, if_pos ⟨rfl, rfl⟩]
  refine ⟨5, fr_0_2 f92, fn_5 f92, fk_5 f92, q_hasText f92 d0 hle.1 (fun hok _ => ⟨fun _ => ?_, fun y => absurd y (by decide)⟩) (fun hok _ => ⟨fun y => absurd rfl y, fun _ => ⟨rfl, bad S92 a92 (Or.inr ⟨s, k, c, hs, ?_⟩)⟩⟩)⟩
  · refine ⟨1, fr_0_0 f92, 5, fr_0_2 f92, fn_5 f92, fk_5 f92, q_putOn (tx := 1) (rw := 2) (s := s) (k := k) (c := c) f92 (Or.inl ⟨rfl, rfl⟩) d0 hle.1 (fun _ => ⟨⟨d1, hle.2.1⟩, ⟨d2, hle.2.2⟩⟩) hok (fun S139 h139 _ => ⟨1, fr_0_0 h139.fix, fn_1 h139.fix, fk_1 h139.fix, fun S1' ha => ?_⟩)⟩
    rw [d3, d4, d5, d6, d7, d8] at h139 hok
    obtain ⟨_, _, a139, l139, ll, r139, o139⟩ := h139
    have s1 : Sc S S1' := ((Sc.ag a92 (fun k j y => by unfold scP; omega)).tr (Sc.ag a139 (fun k j y => by unfold pT at y; unfold scP; omega))).tr ha.sc
    have x1 := ha.X
    have f1 := s1.fix hF
    rw [l139]
    refine q_write9 f1 (fun hb => ?_) (fun s' k' c' hs' hok' S2 h2 => ?_)
    · exfalso
      rcases hb with y | ⟨s', k', c', y, y2⟩
      · rw [y] at hs; exact absurd hs (by simp)
      · rw [hs] at y
        injection y with y
        injection y with y1 y
        subst y1
        exact y2 hok
    · rw [hs] at hs'
      injection hs' with hs'
      injection hs' with y1 hs'
      injection hs' with y2 y3
      subst y1 y2 y3
      obtain ⟨f2, a2, l2, z2, r2⟩ := h2
      refine ⟨rfl, by rw [z2]; decide, by rw [a2.Z], a2.2.2.2.2.2.1, n, E, P, lg, _, oP, oM, dP, h.sc (s1.tr (Sc.ag a2 (fun k j y => by unfold scP; omega))) (pl' := (wrL s k c nm at' a b cp tk).length) ⟨ll, ?_, l2, fun i => ?_⟩ (by omega) (by omega)⟩
      · rw [a2.X 1 1 (by omega), x1]; exact l139
      · rw [r2 i, a2.X 2 i (by omega), x1]
        by_cases y : i < (wrL s k c nm at' a b cp tk).length
        · rw [if_pos y]; exact r139 i y
        · rw [if_neg y, o139 i (by omega), a92.X 2 i (by omega), a139.X 15 i (by unfold pT; omega), a92.X 15 i (by omega)]
          exact i2.2.2.2 i
  · rw [d3, d4, d5, d6, d7, d8] at hok
    exact hok
