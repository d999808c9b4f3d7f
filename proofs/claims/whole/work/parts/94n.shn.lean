/-! SHOWN: the lines of an event, both sides. -/
theorem wrL_eq {s k c : Nat} (hs : s ≤ 6) {nm t a b cp tk a' b' cp' tk' : Int32} (h2 : (s = 1 ∨ s = 2 ∨ s = 3) → a = a' ∧ b = b') (h3 : s = 1 → cp = cp') (h4 : (s = 1 ∨ s = 5) → tk = tk') : wrL s k c nm t a b cp tk = wrL s k c nm t a' b' cp' tk' := by
  have : s = 0 ∨ s = 1 ∨ s = 2 ∨ s = 3 ∨ s = 4 ∨ s = 5 ∨ s = 6 := by omega
  unfold wrL
  rcases this with z | z | z | z | z | z | z
  · repeat rw [if_pos z]
  · obtain ⟨e1, e2⟩ := h2 (by omega)
    rw [e1, e2, h3 z, h4 (by omega)]
  · obtain ⟨e1, e2⟩ := h2 (by omega)
    rw [e1, e2]
    repeat rw [if_neg (show ¬ s = 0 by omega)]
    repeat rw [if_neg (show ¬ s = 1 by omega)]
    repeat rw [if_pos z]
  · obtain ⟨e1, e2⟩ := h2 (by omega)
    rw [e1, e2]
    repeat rw [if_neg (show ¬ s = 0 by omega)]
    repeat rw [if_neg (show ¬ s = 1 by omega)]
    repeat rw [if_neg (show ¬ s = 2 by omega)]
    repeat rw [if_pos z]
  · repeat rw [if_neg (show ¬ s = 0 by omega)]
    repeat rw [if_neg (show ¬ s = 1 by omega)]
    repeat rw [if_neg (show ¬ s = 2 by omega)]
    repeat rw [if_neg (show ¬ s = 3 by omega)]
    repeat rw [if_pos z]
  · rw [h4 (by omega)]
    repeat rw [if_neg (show ¬ s = 0 by omega)]
    repeat rw [if_neg (show ¬ s = 1 by omega)]
    repeat rw [if_neg (show ¬ s = 2 by omega)]
    repeat rw [if_neg (show ¬ s = 3 by omega)]
    repeat rw [if_neg (show ¬ s = 4 by omega)]
    repeat rw [if_pos z]
  · repeat rw [if_neg (show ¬ s = 0 by omega)]
    repeat rw [if_neg (show ¬ s = 1 by omega)]
    repeat rw [if_neg (show ¬ s = 2 by omega)]
    repeat rw [if_neg (show ¬ s = 3 by omega)]
    repeat rw [if_neg (show ¬ s = 4 by omega)]
    repeat rw [if_neg (show ¬ s = 5 by omega)]
theorem okT_eq {s : Nat} {nm t t' a b cp tk a' b' cp' tk' : Int32} (h : okT s nm t a b cp tk) (ht : 0 ≤ t'.toInt ∧ t'.toInt ≤ 99999999) (h2 : (s = 1 ∨ s = 2 ∨ s = 3) → a' = a ∧ b' = b) (h3 : s = 1 → cp' = cp) (h4 : (s = 1 ∨ s = 5) → tk' = tk) : okT s nm t' a' b' cp' tk' :=
  ⟨h.1, ht, fun z => by rw [(h2 z).1, (h2 z).2]; exact h.2.2.1 z, fun z => by rw [h3 z]; exact h.2.2.2.1 z, fun z => by rw [h4 z]; exact h.2.2.2.2 z⟩
/-- EvI with its lines named -/
def EvB (S : GS) (n i q b e : Nat) : Prop := b < n ∧ e < n ∧ b < e ∧ gX S 30 i = nI b ∧ gX S 31 i = nI e ∧ gX S 21 b = 1 ∧ gX S 21 e = 1 ∧ gX S 27 e = gX S 27 b
  ∧ ((gX S 23 e = 1 ∧ gX S 23 b = 0 ∧ gX S 24 e = gX S 24 b ∧ gX S 25 e = gX S 25 b ∧ gX S q 4 = gX S 24 b ∧ gX S q 2 = gX S 25 b ∧ gX S q 6 = gX S 28 (3 * e) ∧ gX S q 7 = gX S 28 (3 * e + 1) ∧ gX S q 8 = gX S 28 (3 * e + 2))
    ∨ ((gX S 23 e = 5 ∨ gX S 23 e = 6) ∧ gX S 23 b = 4 ∧ gX S q 4 = (if gX S 23 e = 5 then 3 else 4) ∧ gX S q 2 = -1 ∧ gX S q 6 = -1 ∧ gX S q 7 = -1 ∧ gX S q 8 = -1 ∧ gX S 32 i = -1 ∧ gX S 33 i = -1))
  ∧ gX S q 1 = gX S 27 b ∧ gX S q 3 = gX S 26 b ∧ gX S q 5 = gX S 26 e ∧ gX S q 9 = tkO S b e
  ∧ gX S q 10 = szo (gX S 28) (gX S 32 i) 0 ∧ gX S q 11 = szo (gX S 28) (gX S 32 i) 1 ∧ gX S q 12 = szo (gX S 28) (gX S 33 i) 0 ∧ gX S q 13 = szo (gX S 28) (gX S 33 i) 1
  ∧ gX S q 14 = nI (2 + one (gX S 32 i) + one (gX S 33 i))
  ∧ Ln S n b 2 (gX S 32 i) ∧ Ln S n b 3 (gX S 33 i)
theorem EvI.b {S : GS} {n i q : Nat} (h : EvI S n i q) : ∃ b e, EvB S n i q b e := h
/-- the line l of an event -/
def lnO (d o : Int32) (b e l : Nat) : Nat := if l = 0 then b else if l = 1 + one d + one o then e else if l = 1 ∧ d ≠ -1 then d.toNatClampNeg else o.toNatClampNeg
theorem okD_nI {x : Int32} (h : okD x) (hx : x ≠ -1) : x = nI x.toNatClampNeg := by
  rcases h with y | ⟨j, hj, y⟩
  · exact absurd y hx
  · rw [y, nj_clamp (by omega)]
theorem one_cases (x : Int32) : (x = -1 ∧ one x = 0) ∨ (x ≠ -1 ∧ one x = 1) := by
  unfold one
  by_cases h : x = -1
  · rw [if_pos h]; exact Or.inl ⟨h, rfl⟩
  · rw [if_neg h]; exact Or.inr ⟨h, rfl⟩
theorem q_lineOf {S : GS} {i b e l : Nat} {d o : Int32} {Q : Int32 → GS → Prop} (hF : Fix S) (hi : i < 40) (h30 : gX S 30 i = nI b) (h31 : gX S 31 i = nI e) (h32 : gX S 32 i = d) (h33 : gX S 33 i = o) (hd : okD d) (ho : okD o) (hl : l < 2 + one d + one o) (hQ : Q (nI (lnO d o b e l)) S) : wX9_lineOf S 14 (nI i) (nI l) Q := by
  have c1 := one_cases d
  have c2 := one_cases o
  have hvi := nj_in (n := 40) hi (by omega)
  have hci := nj_clamp (show i < 2147483648 by omega)
  unfold lnO at hQ
  unfold wX9_lineOf wX9_lineOf_59
  refine ⟨fun z => ⟨fn_14 hF, fk_14 hF, q_linesOf hF hi (fun _ => ?_)⟩, fun z => ⟨fn_14 hF, fk_14 hF, 30, fr_14_21 hF, fn_30 hF, fk_30 hF, by rw [fl_30 hF]; exact hvi, ?_⟩⟩
  · have l0 : l ≠ 0 := fun w => z (by rw [w]; rfl)
    rw [if_neg l0] at hQ
    rw [h32, h33]
    have el : nI (2 + one d + one o) - 1 = nI (1 + one d + one o) := by
      have := nj_prd (1 + one d + one o)
      rw [show 1 + one d + one o + 1 = 2 + one d + one o by omega] at this
      exact this
    rw [el]
    have old : ¬ (l = 1 ∧ d ≠ -1) → ¬ l = 1 + one d + one o → wX9_lineOf_53 Q 14 (nI i) S := by
      intro w1 w2
      rw [if_neg w2, if_neg w1] at hQ
      refine ⟨fn_14 hF, fk_14 hF, 33, fr_14_24 hF, fn_33 hF, fk_33 hF, by rw [fl_33 hF]; exact hvi, ?_⟩
      unfold wX9_lineOf_59
      rw [hci, h33]
      have o1 : o ≠ -1 := by
        intro w
        rcases c1 with ⟨d1, d2⟩ | ⟨d1, d2⟩ <;> rcases c2 with ⟨o1, o2⟩ | ⟨o1, o2⟩
        · omega
        · exact o1 w
        · exact w1 ⟨by omega, d1⟩
        · exact o1 w
      rw [okD_nI ho o1]; exact hQ
    refine ⟨fun z2 => ?_, fun z2 => ⟨31, fr_14_22 hF, fn_31 hF, fk_31 hF, by rw [fl_31 hF]; exact hvi, ?_⟩⟩
    · have l1 : ¬ l = 1 + one d + one o := fun w => z2 (by rw [w])
      refine ⟨fun z3 => old (fun w => z3 (by rw [w.1]; rfl)) l1, fun z3 => ⟨32, fr_14_23 hF, fn_32 hF, fk_32 hF, by rw [fl_32 hF]; exact hvi, ?_⟩⟩
      rw [hci, h32]
      refine ⟨fun w => old (fun w' => w'.2 w) l1, fun w => ⟨by rw [fl_32 hF]; exact hvi, ?_⟩⟩
      have l11 : l = 1 := (nj_eq (b := 1) (by omega) (by omega)).mp z3
      rw [if_neg l1, if_pos ⟨l11, w⟩] at hQ
      rw [okD_nI hd w]; exact hQ
    · have l1 : l = 1 + one d + one o := (nj_eq (by omega) (by omega)).mp z2
      rw [if_pos l1] at hQ
      rw [hci, h31]; exact hQ
  · have l0 : l = 0 := (nj_eq (b := 0) (by omega) (by omega)).mp z
    rw [if_pos l0] at hQ
    rw [hci, h30]; exact hQ
/-- the entry says line m, at time t -/
def EnP (S : GS) (S2 : GS) (m : Nat) (t : Int32) : Prop := Ag (fun k _ => k = 5) S S2 ∧ gX S2 5 0 = gX S 23 m ∧ ((gX S 23 m = 0 ∨ gX S 23 m = 1) → gX S2 5 1 = gX S 24 m ∧ gX S2 5 2 = gX S 25 m) ∧ gX S2 5 3 = gX S 27 m ∧ gX S2 5 4 = t ∧ ((gX S 23 m = 1 ∨ gX S 23 m = 2 ∨ gX S 23 m = 3) → gX S2 5 5 = gX S 28 (3 * m) ∧ gX S2 5 6 = gX S 28 (3 * m + 1)) ∧ (gX S 23 m = 1 → gX S2 5 7 = gX S 28 (3 * m + 2)) ∧ ((gX S 23 m = 1 ∨ gX S 23 m = 5) → gX S2 5 8 = gX S 29 m)
theorem q_tell {S : GS} {n lg i q b e l : Nat} {Q : GS → Prop} (hF : Fix S) (h4 : I4 S n lg) (hn : n ≤ 512) (hp : evP S q) (hv : EvB S n i q b e) (hl : l < 2 + one (gX S 32 i) + one (gX S 33 i)) (hQ : ∀ S2, EnP S S2 (lnO (gX S 32 i) (gX S 33 i) b e l) (if lnO (gX S 32 i) (gX S 33 i) b e l = e then gX S 26 e else gX S 26 b) → Q S2) : wX2_tell S q (nI l) 5 Q := by
  obtain ⟨hb, he, hbe, h30, h31, h3, h4e, h5, h6, h7, h8, h9, h10, h11, h12, h13, h14, h15, h16, h17⟩ := hv
  have c1 := one_cases (gX S 32 i)
  have c2 := one_cases (gX S 33 i)
  have hq5 : ¬ q = 5 := by have := hp.1; omega
  unfold wX2_tell wX2_tell_131
  refine ⟨hp.2.1, hp.2.2, fn_5 hF, fk_5 hF, fun S27 e27 S32 e32 S37 e37 S42 e42 => ?_⟩
  have a27 : Ag (fun k _ => k = 5) S S27 := by rw [e27]; exact (Ag.rf _ S).x _ _ _ rfl
  have a32 : Ag (fun k _ => k = 5) S S32 := by rw [e32]; exact a27.x _ _ _ rfl
  have a37 : Ag (fun k _ => k = 5) S S37 := by rw [e37]; exact a32.x _ _ _ rfl
  have a42 : Ag (fun k _ => k = 5) S S42 := by rw [e42]; exact a37.x _ _ _ rfl
  have hq : ∀ {S2 : GS}, Ag (fun k _ => k = 5) S S2 → ∀ j, gX S2 q j = gX S q j := fun a j => a.X q j hq5
  have d1 : gX S42 5 1 = gX S q 4 := by rw [e42, x_sX, if_neg (by omega), e37, x_sX, if_pos ⟨rfl, rfl⟩, hq a32]
  have d2 : gX S42 5 2 = gX S q 2 := by rw [e42, x_sX, if_pos ⟨rfl, rfl⟩, hq a37]
  have d3 : gX S42 5 3 = gX S q 1 := by rw [e42, x_sX, if_neg (by omega), e37, x_sX, if_neg (by omega), e32, x_sX, if_neg (by omega), e27, x_sX, if_pos ⟨rfl, rfl⟩]
  have d4 : gX S42 5 4 = gX S q 3 := by rw [e42, x_sX, if_neg (by omega), e37, x_sX, if_neg (by omega), e32, x_sX, if_pos ⟨rfl, rfl⟩, hq a27]
  clear e27 e32 e37 e42 a27 a32 a37
  have f42 : Fix S42 := hF.ag a42
  have p42 : evP S42 q := by unfold evP; rw [a42.1, a42.2.1]; exact hp
  have hpz : (2 : Int32) < gX S q 4 → (gX S 23 e = 5 ∨ gX S 23 e = 6) ∧ gX S 23 b = 4 ∧ gX S q 4 = (if gX S 23 e = 5 then 3 else 4) := by
    intro z
    rcases h6 with g | g
    · exfalso
      obtain ⟨_, _, _, g4, g5, _⟩ := h4 b hb
      obtain ⟨s', k', c', r1, r2, r3, r4, r5, r6, r7⟩ := g5 (g4 h3)
      rw [g.2.2.2.2.1, r5] at z
      have := (nj_lt (a := 2) (by omega) (by omega)).mp z
      omega
    · exact ⟨g.1, g.2.1, g.2.2.1⟩
  have hpn : ¬ (2 : Int32) < gX S q 4 → gX S 23 e = 1 ∧ gX S 23 b = 0 ∧ gX S 24 e = gX S 24 b ∧ gX S 25 e = gX S 25 b ∧ gX S q 4 = gX S 24 b ∧ gX S q 2 = gX S 25 b ∧ gX S q 6 = gX S 28 (3 * e) ∧ gX S q 7 = gX S 28 (3 * e + 1) ∧ gX S q 8 = gX S 28 (3 * e + 2) := by
    intro z
    rcases h6 with g | g
    · exact g
    · exfalso
      apply z
      rw [g.2.2.1]
      split <;> decide
  have e1 : nI (2 + one (gX S 32 i) + one (gX S 33 i)) - 1 = nI (1 + one (gX S 32 i) + one (gX S 33 i)) := by
    have := nj_prd (1 + one (gX S 32 i) + one (gX S 33 i))
    rw [show 1 + one (gX S 32 i) + one (gX S 33 i) + 1 = 2 + one (gX S 32 i) + one (gX S 33 i) by omega] at this
    exact this
  rw [hq a42 14, hq a42 10, h15, e1]
  -- OLD
  have old : ¬ l = 0 → ¬ l = 1 + one (gX S 32 i) + one (gX S 33 i) → ¬ (l = 1 ∧ gX S 32 i ≠ -1) → wX2_tell_110 Q q 5 S42 := by
    intro w0 w1 w2
    have hln : lnO (gX S 32 i) (gX S 33 i) b e l = (gX S 33 i).toNatClampNeg := by unfold lnO; rw [if_neg w0, if_neg w1, if_neg w2]
    have o1 : gX S 33 i ≠ -1 := by
      intro w
      rcases c1 with ⟨d1', d2'⟩ | ⟨d1', d2'⟩ <;> rcases c2 with ⟨o1, o2⟩ | ⟨o1, o2⟩
      · omega
      · exact o1 w
      · exact w2 ⟨by omega, d1'⟩
      · exact o1 w
    rcases h17 with w | ⟨j, hj, ej, g21, g23, g27⟩
    · exact absurd w o1
    have hcj : (gX S 33 i).toNatClampNeg = j := by rw [ej, nj_clamp (by omega)]
    rw [hcj] at hln
    have hje : j ≠ e := by
      intro w
      rw [w] at g23
      rcases h6 with g | g
      · rw [g.1] at g23; exact absurd g23 (by decide)
      · rcases g.1 with y | y <;> rw [y] at g23 <;> exact absurd g23 (by decide)
    rw [hln, if_neg hje] at hQ
    refine ⟨fn_5 f42, fk_5 f42, fun S8 e8 => ⟨by rw [e8]; exact p42.2.1, by rw [e8]; exact p42.2.2, fun S13 e13 S18 e18 => hQ S18 ?_⟩⟩
    have a8 : Ag (fun k _ => k = 5) S S8 := by rw [e8]; exact a42.x _ _ _ rfl
    have a13 : Ag (fun k _ => k = 5) S S13 := by rw [e13]; exact a8.x _ _ _ rfl
    have a18 : Ag (fun k _ => k = 5) S S18 := by rw [e18]; exact a13.x _ _ _ rfl
    have s0 : gX S18 5 0 = 3 := by rw [e18, x_sX, if_neg (by omega), e13, x_sX, if_neg (by omega), e8, x_sX, if_pos ⟨rfl, rfl⟩]
    have s3 : gX S18 5 3 = gX S q 1 := by rw [e18, x_sX, if_neg (by omega), e13, x_sX, if_neg (by omega), e8, x_sX, if_neg (by omega), d3]
    have s4 : gX S18 5 4 = gX S q 3 := by rw [e18, x_sX, if_neg (by omega), e13, x_sX, if_neg (by omega), e8, x_sX, if_neg (by omega), d4]
    have s5 : gX S18 5 5 = gX S q 12 := by rw [e18, x_sX, if_neg (by omega), e13, x_sX, if_pos ⟨rfl, rfl⟩, hq a8]
    have s6 : gX S18 5 6 = gX S q 13 := by rw [e18, x_sX, if_pos ⟨rfl, rfl⟩, hq a13]
    refine ⟨a18, by rw [s0, g23], fun w => ?_, by rw [s3, h7, g27], by rw [s4, h8], fun _ => ⟨?_, ?_⟩, fun w => ?_, fun w => ?_⟩
    · rw [g23] at w; exact absurd w (by decide)
    · rw [s5, h13, szo, if_neg o1, hcj]; rfl
    · rw [s6, h14, szo, if_neg o1, hcj]
    · rw [g23] at w; exact absurd w (by decide)
    · rw [g23] at w; exact absurd w (by decide)
  refine ⟨fun z0 => ⟨fun z1 => ?_, fun z1 => ?_⟩, fun z0 => ?_⟩
  · have l0 : ¬ l = 0 := fun w => z0 (by rw [w]; rfl)
    have l1 : ¬ l = 1 + one (gX S 32 i) + one (gX S 33 i) := fun w => z1 (by rw [w])
    refine ⟨fun z2 => old l0 l1 (fun w => z2 (by rw [w.1]; rfl)), fun z2 => ⟨fun z3 => old l0 l1 (fun w => ?_), fun z3 S47 e47 S52 e52 S57 e57 => ?_⟩⟩
    · rcases h16 with w' | ⟨j, hj, ej, g21, g23, g27⟩
      · exact w.2 w'
      · obtain ⟨_, _, _, g4, g5, _⟩ := h4 j hj
        obtain ⟨s', k', c', r1, r2, r3, r4, r5, r6, r7⟩ := g5 (g4 g21)
        have hs2 : s' = 2 := by
          rw [r4] at g23
          exact (nj_eq (b := 2) (by omega) (by omega)).mp g23
        have := (r7.2.2.1 (by omega)).1.1
        rw [h11, szo, if_neg w.2, ej, nj_clamp (by omega)] at z3
        have z3' : gX S 28 (3 * j) = -1 := z3
        rw [z3'] at this
        exact absurd this (by decide)
    · have d0 : gX S 32 i ≠ -1 := by
        intro w
        rw [h11, szo, if_pos w] at z3
        exact z3 rfl
      have l11 : l = 1 := (nj_eq (b := 1) (by omega) (by omega)).mp z2
      rcases h16 with w' | ⟨j, hj, ej, g21, g23, g27⟩
      · exact absurd w' d0
      have hcj : (gX S 32 i).toNatClampNeg = j := by rw [ej, nj_clamp (by omega)]
      have hln : lnO (gX S 32 i) (gX S 33 i) b e l = j := by unfold lnO; rw [if_neg l0, if_neg l1, if_pos ⟨l11, d0⟩, hcj]
      have hje : j ≠ e := by
        intro w
        rw [w] at g23
        rcases h6 with g | g
        · rw [g.1] at g23; exact absurd g23 (by decide)
        · rcases g.1 with y | y <;> rw [y] at g23 <;> exact absurd g23 (by decide)
      rw [hln, if_neg hje] at hQ
      refine hQ S57 ?_
      have a47 : Ag (fun k _ => k = 5) S S47 := by rw [e47]; exact a42.x _ _ _ rfl
      have a52 : Ag (fun k _ => k = 5) S S52 := by rw [e52]; exact a47.x _ _ _ rfl
      have a57 : Ag (fun k _ => k = 5) S S57 := by rw [e57]; exact a52.x _ _ _ rfl
      have s0 : gX S57 5 0 = 2 := by rw [e57, x_sX, if_neg (by omega), e52, x_sX, if_neg (by omega), e47, x_sX, if_pos ⟨rfl, rfl⟩]
      have s3 : gX S57 5 3 = gX S q 1 := by rw [e57, x_sX, if_neg (by omega), e52, x_sX, if_neg (by omega), e47, x_sX, if_neg (by omega), d3]
      have s4 : gX S57 5 4 = gX S q 3 := by rw [e57, x_sX, if_neg (by omega), e52, x_sX, if_neg (by omega), e47, x_sX, if_neg (by omega), d4]
      have s5 : gX S57 5 5 = gX S q 10 := by rw [e57, x_sX, if_neg (by omega), e52, x_sX, if_pos ⟨rfl, rfl⟩, hq a47]
      have s6 : gX S57 5 6 = gX S q 11 := by rw [e57, x_sX, if_pos ⟨rfl, rfl⟩, hq a52]
      refine ⟨a57, by rw [s0, g23], fun w => ?_, by rw [s3, h7, g27], by rw [s4, h8], fun _ => ⟨?_, ?_⟩, fun w => ?_, fun w => ?_⟩
      · rw [g23] at w; exact absurd w (by decide)
      · rw [s5, h11, szo, if_neg d0, hcj]; rfl
      · rw [s6, h12, szo, if_neg d0, hcj]
      · rw [g23] at w; exact absurd w (by decide)
      · rw [g23] at w; exact absurd w (by decide)
  · have l1 : l = 1 + one (gX S 32 i) + one (gX S 33 i) := (nj_eq (by omega) (by omega)).mp z1
    have l0 : ¬ l = 0 := by omega
    have hln : lnO (gX S 32 i) (gX S 33 i) b e l = e := by unfold lnO; rw [if_neg l0, if_pos l1]
    rw [hln, if_pos rfl] at hQ
    -- the end, of shape s
    have end26 : ∀ s : Int32, s = gX S 23 e → wX2_tellEnd_26 (fun S62 => gSh S62 S42 → Q S62) q 5 5 s S42 := by
      intro s hs
      refine ⟨fn_5 f42, fk_5 f42, fun S3 e3 => ?_⟩
      have f3 : Fix S3 := by rw [e3]; exact f42.x _ _ _
      refine ⟨by rw [e3]; exact p42.2.1, by rw [e3]; exact p42.2.2, fn_5 f3, fk_5 f3, fun S10 e10 S17 e17 S24 e24 S31 e31 S38 e38 _ => hQ S38 ?_⟩
      have a3 : Ag (fun k _ => k = 5) S S3 := by rw [e3]; exact a42.x _ _ _ rfl
      have a10 : Ag (fun k _ => k = 5) S S10 := by rw [e10]; exact a3.x _ _ _ rfl
      have a17 : Ag (fun k _ => k = 5) S S17 := by rw [e17]; exact a10.x _ _ _ rfl
      have a24 : Ag (fun k _ => k = 5) S S24 := by rw [e24]; exact a17.x _ _ _ rfl
      have a31 : Ag (fun k _ => k = 5) S S31 := by rw [e31]; exact a24.x _ _ _ rfl
      have a38 : Ag (fun k _ => k = 5) S S38 := by rw [e38]; exact a31.x _ _ _ rfl
      have s0 : gX S38 5 0 = s := by rw [e38, x_sX, if_neg (by omega), e31, x_sX, if_neg (by omega), e24, x_sX, if_neg (by omega), e17, x_sX, if_neg (by omega), e10, x_sX, if_neg (by omega), e3, x_sX, if_pos ⟨rfl, rfl⟩]
      have s1 : gX S38 5 1 = gX S q 4 := by rw [e38, x_sX, if_neg (by omega), e31, x_sX, if_neg (by omega), e24, x_sX, if_neg (by omega), e17, x_sX, if_neg (by omega), e10, x_sX, if_neg (by omega), e3, x_sX, if_neg (by omega), d1]
      have s2 : gX S38 5 2 = gX S q 2 := by rw [e38, x_sX, if_neg (by omega), e31, x_sX, if_neg (by omega), e24, x_sX, if_neg (by omega), e17, x_sX, if_neg (by omega), e10, x_sX, if_neg (by omega), e3, x_sX, if_neg (by omega), d2]
      have s3 : gX S38 5 3 = gX S q 1 := by rw [e38, x_sX, if_neg (by omega), e31, x_sX, if_neg (by omega), e24, x_sX, if_neg (by omega), e17, x_sX, if_neg (by omega), e10, x_sX, if_neg (by omega), e3, x_sX, if_neg (by omega), d3]
      have s4 : gX S38 5 4 = gX S q 5 := by rw [e38, x_sX, if_neg (by omega), e31, x_sX, if_neg (by omega), e24, x_sX, if_neg (by omega), e17, x_sX, if_neg (by omega), e10, x_sX, if_pos ⟨rfl, rfl⟩, hq a3]
      have s5 : gX S38 5 5 = gX S q 6 := by rw [e38, x_sX, if_neg (by omega), e31, x_sX, if_neg (by omega), e24, x_sX, if_neg (by omega), e17, x_sX, if_pos ⟨rfl, rfl⟩, hq a10]
      have s6 : gX S38 5 6 = gX S q 7 := by rw [e38, x_sX, if_neg (by omega), e31, x_sX, if_neg (by omega), e24, x_sX, if_pos ⟨rfl, rfl⟩, hq a17]
      have s7 : gX S38 5 7 = gX S q 8 := by rw [e38, x_sX, if_neg (by omega), e31, x_sX, if_pos ⟨rfl, rfl⟩, hq a24]
      have s8 : gX S38 5 8 = gX S q 9 := by rw [e38, x_sX, if_pos ⟨rfl, rfl⟩, hq a31]
      refine ⟨a38, by rw [s0, hs], fun w => ?_, by rw [s3, h7, h5], by rw [s4, h9], fun w => ?_, fun w => ?_, fun w => ?_⟩
      · rcases h6 with g | g
        · rw [s1, s2, g.2.2.2.2.1, g.2.2.2.2.2.1, g.2.2.1, g.2.2.2.1]; exact ⟨rfl, rfl⟩
        · rcases g.1 with y | y <;> rw [y] at w <;> exact absurd w (by decide)
      · rcases h6 with g | g
        · rw [s5, s6, g.2.2.2.2.2.2.1, g.2.2.2.2.2.2.2.1]; exact ⟨rfl, rfl⟩
        · rcases g.1 with y | y <;> rw [y] at w <;> exact absurd w (by decide)
      · rcases h6 with g | g
        · rw [s7, g.2.2.2.2.2.2.2.2]
        · rcases g.1 with y | y <;> rw [y] at w <;> exact absurd w (by decide)
      · rw [s8, h10, tkO, if_neg]
        intro y
        rw [y] at w
        exact absurd w (by decide)
    refine ⟨p42.2.1, p42.2.2, q_isPauseC p42 (fun z _ => ⟨fun _ => ?_, fun y => absurd rfl y⟩) (fun z _ => ⟨fun y => absurd y (by decide), fun _ => ?_⟩)⟩
    · rw [hq a42] at z ⊢
      obtain ⟨g1, g2, g3⟩ := hpz z
      refine ⟨fun y => end26 6 ?_, fun y => end26 5 ?_⟩
      · rcases g1 with w | w
        · rw [g3, if_pos w] at y; exact absurd rfl y
        · exact w.symm
      · rcases g1 with w | w
        · exact w.symm
        · rw [g3, if_neg (by rw [w]; decide)] at y; exact absurd y (by decide)
    · rw [hq a42] at z
      exact end26 1 (hpn z).1.symm
  · have l0 : l = 0 := (nj_eq (b := 0) (by omega) (by omega)).mp z0
    have hln : lnO (gX S 32 i) (gX S 33 i) b e l = b := by unfold lnO; rw [if_pos l0]
    rw [hln, if_neg (by omega)] at hQ
    have t49 : ∀ s : Int32, s = gX S 23 b → (s = 0 → gX S q 4 = gX S 24 b ∧ gX S q 2 = gX S 25 b) → (s = 0 ∨ s = 4) → wX2_tell_49 Q q 5 s S42 := by
      intro s hs hk hs04
      refine ⟨fn_5 f42, fk_5 f42, fun S3 e3 => hQ S3 ?_⟩
      have a3 : Ag (fun k _ => k = 5) S S3 := by rw [e3]; exact a42.x _ _ _ rfl
      have s0 : gX S3 5 0 = s := by rw [e3, x_sX, if_pos ⟨rfl, rfl⟩]
      have s1 : gX S3 5 1 = gX S q 4 := by rw [e3, x_sX, if_neg (by omega), d1]
      have s2 : gX S3 5 2 = gX S q 2 := by rw [e3, x_sX, if_neg (by omega), d2]
      have s3 : gX S3 5 3 = gX S q 1 := by rw [e3, x_sX, if_neg (by omega), d3]
      have s4 : gX S3 5 4 = gX S q 3 := by rw [e3, x_sX, if_neg (by omega), d4]
      unfold EnP
      rw [← hs]
      refine ⟨a3, s0, fun w => ?_, by rw [s3, h7], by rw [s4, h8], fun w => ?_, fun w => ?_, fun w => ?_⟩
      · rcases hs04 with y | y
        · rw [s1, s2]; exact hk y
        · rw [y] at w; exact absurd w (by decide)
      · rcases hs04 with y | y <;> rw [y] at w <;> exact absurd w (by decide)
      · rcases hs04 with y | y <;> rw [y] at w <;> exact absurd w (by decide)
      · rcases hs04 with y | y <;> rw [y] at w <;> exact absurd w (by decide)
    refine q_isPauseC p42 (fun z _ => ⟨fun _ => ?_, fun y => absurd rfl y⟩) (fun z _ => ⟨fun y => absurd y (by decide), fun _ => ?_⟩)
    · rw [hq a42] at z
      exact t49 4 (hpz z).2.1.symm (fun y => absurd y (by decide)) (Or.inr rfl)
    · rw [hq a42] at z
      have g := hpn z
      exact t49 0 g.2.1.symm (fun _ => ⟨g.2.2.2.2.1, g.2.2.2.2.2.1⟩) (Or.inl rfl)
/-- the line l of an event was taken -/
theorem lnO_ok {S : GS} {n i q b e l : Nat} (hv : EvB S n i q b e) (hn : n ≤ 512) (hl : l < 2 + one (gX S 32 i) + one (gX S 33 i)) : lnO (gX S 32 i) (gX S 33 i) b e l < n ∧ gX S 21 (lnO (gX S 32 i) (gX S 33 i) b e l) = 1 := by
  obtain ⟨hb, he, hbe, h30, h31, h3, h4e, h5, h6, h7, h8, h9, h10, h11, h12, h13, h14, h15, h16, h17⟩ := hv
  have c1 := one_cases (gX S 32 i)
  have c2 := one_cases (gX S 33 i)
  unfold lnO
  by_cases w0 : l = 0
  · rw [if_pos w0]; exact ⟨hb, h3⟩
  · rw [if_neg w0]
    by_cases w1 : l = 1 + one (gX S 32 i) + one (gX S 33 i)
    · rw [if_pos w1]; exact ⟨he, h4e⟩
    · rw [if_neg w1]
      by_cases w2 : l = 1 ∧ gX S 32 i ≠ -1
      · rw [if_pos w2]
        rcases h16 with w | ⟨j, hj, ej, g21, _⟩
        · exact absurd w w2.2
        · rw [ej, nj_clamp (by omega)]; exact ⟨hj, g21⟩
      · rw [if_neg w2]
        rcases h17 with w | ⟨j, hj, ej, g21, _⟩
        · exfalso
          rcases c1 with ⟨d1', d2'⟩ | ⟨d1', d2'⟩ <;> rcases c2 with ⟨o1, o2⟩ | ⟨o1, o2⟩
          · omega
          · exact o1 w
          · exact w2 ⟨by omega, d1'⟩
          · exact o1 w
        · rw [ej, nj_clamp (by omega)]; exact ⟨hj, g21⟩
