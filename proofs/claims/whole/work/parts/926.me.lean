/-! THE REFERENCE MAKES AN EVENT. -/
def pMe (E slot k j : Nat) : Prop := ((k = 30 ∨ k = 31 ∨ k = 32 ∨ k = 33) ∧ j = E) ∨ (k = 14 ∧ (j = 25 ∨ j = slot)) ∨ k = 22
/-- the event E is made of the lines b, n, d, o; 'slot' (30 or 31) is open no more -/
def Me (S S2 : GS) (E slot n b : Nat) (d o : Int32) : Prop := Ag (pMe E slot) S S2 ∧ gX S2 30 E = nI b ∧ gX S2 31 E = nI n ∧ gX S2 32 E = d ∧ gX S2 33 E = o ∧ gX S2 14 25 = nI (E + 1) ∧ gX S2 14 slot = -1 ∧ ∀ j, j < 512 → gX S2 22 j = if j = b ∨ j = n ∨ d = nI j ∨ o = nI j then 1 else gX S 22 j
theorem isD_tr {S S2 : GS} {n b : Nat} {s d : Int32} (h : isD S n b s d) (h21 : gX S2 21 = gX S 21) (h23 : gX S2 23 = gX S 23) : isD S2 n b s d := by
  unfold isD
  rw [h21, h23]
  exact h
/-- on the way: the four lines stand, the owners are ow -/
def Mw (S S2 : GS) (E slot n b : Nat) (d o : Int32) (ow : Nat → Int32) : Prop := Fix S2 ∧ Ag (pMe E slot) S S2 ∧ gX S2 30 E = nI b ∧ gX S2 31 E = nI n ∧ gX S2 32 E = d ∧ gX S2 33 E = o ∧ gX S2 14 25 = nI E ∧ ∀ j, j < 512 → gX S2 22 j = ow j
theorem Mw.own {S S2 : GS} {E slot n b : Nat} {d o : Int32} {ow : Nat → Int32} (h : Mw S S2 E slot n b d o ow) (x : Nat) : Mw S (sX S2 22 x 1) E slot n b d o (fun j => if j = x then 1 else ow j) := by
  obtain ⟨h0, h1, h2, h3, h4, h5, h6, h7⟩ := h
  refine ⟨h0.x _ _ _, h1.x _ _ _ (Or.inr (Or.inr rfl)), ?_, ?_, ?_, ?_, ?_, ?_⟩
  · rw [x_sX, if_neg (by omega)]; exact h2
  · rw [x_sX, if_neg (by omega)]; exact h3
  · rw [x_sX, if_neg (by omega)]; exact h4
  · rw [x_sX, if_neg (by omega)]; exact h5
  · rw [x_sX, if_neg (by omega)]; exact h6
  · intro j hj
    rw [x_sX]
    by_cases e : j = x
    · rw [if_pos ⟨rfl, e⟩]; simp [e]
    · rw [if_neg (fun a => e a.2)]; simp [e]; exact h7 j hj
theorem q_me172 {S S2 : GS} {E slot n b : Nat} {x2 d o : Int32} {ow : Nat → Int32} {Q : GS → Prop} (hx : (x2 = 0 ∧ slot = 31) ∨ (x2 = 1 ∧ slot = 30)) (h : Mw S S2 E slot n b d o ow) (hQ : ∀ S3, (Ag (pMe E slot) S S3 ∧ gX S3 30 E = nI b ∧ gX S3 31 E = nI n ∧ gX S3 32 E = d ∧ gX S3 33 E = o ∧ gX S3 14 25 = nI (E + 1) ∧ gX S3 14 slot = -1 ∧ ∀ j, j < 512 → gX S3 22 j = ow j) → Q S3) : wX9_makeEvent_172 Q 14 x2 S2 := by
  obtain ⟨h0, h1, h2, h3, h4, h5, h6, h7⟩ := h
  refine ⟨fn_14 h0, fk_14 h0, fun S3 e3 => ?_⟩
  rw [h6, nj_succ] at e3
  have hgo : ∀ S9, S9 = sX S3 14 slot (-1) → Q S9 := by
    intro S9 e9
    have hsl : slot = 31 ∨ slot = 30 := by rcases hx with a | a; exact Or.inl a.2; exact Or.inr a.2
    refine hQ S9 ⟨?_, ?_, ?_, ?_, ?_, ?_, ?_, ?_⟩
    · rw [e9, e3]
      exact (h1.x _ _ _ (Or.inr (Or.inl ⟨rfl, Or.inl rfl⟩))).x _ _ _ (Or.inr (Or.inl ⟨rfl, Or.inr rfl⟩))
    · rw [e9, x_sX, if_neg (by omega), e3, x_sX, if_neg (by omega)]; exact h2
    · rw [e9, x_sX, if_neg (by omega), e3, x_sX, if_neg (by omega)]; exact h3
    · rw [e9, x_sX, if_neg (by omega), e3, x_sX, if_neg (by omega)]; exact h4
    · rw [e9, x_sX, if_neg (by omega), e3, x_sX, if_neg (by omega)]; exact h5
    · rw [e9, x_sX, if_neg (by omega), e3, x_sX, if_pos ⟨rfl, rfl⟩]
    · rw [e9, x_sX, if_pos ⟨rfl, rfl⟩]
    · intro j hj
      rw [e9, x_sX, if_neg (by omega), e3, x_sX, if_neg (by omega)]; exact h7 j hj
  unfold wX9_makeEvent_199
  rcases hx with ⟨a, c⟩ | ⟨a, c⟩
  · rw [a]; rw [c] at hgo
    exact ⟨fun _ => hgo, fun x => absurd rfl x⟩
  · rw [a]; rw [c] at hgo
    exact ⟨fun x => absurd x (by decide), fun _ => hgo⟩
theorem q_me144 {S S2 : GS} {E slot n b : Nat} {x2 d o : Int32} {ow : Nat → Int32} {Q : GS → Prop} (hE : E < 40) (ho : okD o) (hx : (x2 = 0 ∧ slot = 31) ∨ (x2 = 1 ∧ slot = 30)) (h : Mw S S2 E slot n b d o ow) (hQ : ∀ S3, (Ag (pMe E slot) S S3 ∧ gX S3 30 E = nI b ∧ gX S3 31 E = nI n ∧ gX S3 32 E = d ∧ gX S3 33 E = o ∧ gX S3 14 25 = nI (E + 1) ∧ gX S3 14 slot = -1 ∧ ∀ j, j < 512 → gX S3 22 j = if o = nI j then 1 else ow j) → Q S3) : wX9_makeEvent_144 Q 14 x2 S2 := by
  have h0 := h.1
  have hv := nj_in (n := 40) hE (by omega)
  refine ⟨fn_14 h0, fk_14 h0, 33, fr_14_24 h0, fn_33 h0, fk_33 h0, ?_⟩
  rw [h.2.2.2.2.2.2.1, nj_clamp (by omega), h.2.2.2.2.2.1, fl_33 h0]
  refine ⟨hv, fun a => ?_, fun a => ⟨hv, ?_⟩⟩
  · refine q_me172 hx h (fun S3 h3 => hQ S3 ⟨h3.1, h3.2.1, h3.2.2.1, h3.2.2.2.1, h3.2.2.2.2.1, h3.2.2.2.2.2.1, h3.2.2.2.2.2.2.1, fun j hj => ?_⟩)
    rw [if_neg (by rw [a]; intro c; exact nI_ne (by omega) c.symm)]
    exact h3.2.2.2.2.2.2.2 j hj
  · rcases ho with z | ⟨i, hi, z⟩
    · exact absurd z a
    · refine ⟨22, fr_14_11 h0, fn_22 h0, fk_22 h0, by rw [fl_22 h0, z]; exact nj_in hi (by omega), fun S25 e25 => ?_⟩
      rw [z, nj_clamp (by omega)] at e25
      have h25 := h.own i
      rw [← e25] at h25
      refine q_me172 hx h25 (fun S3 h3 => hQ S3 ⟨h3.1, h3.2.1, h3.2.2.1, h3.2.2.2.1, h3.2.2.2.2.1, h3.2.2.2.2.2.1, h3.2.2.2.2.2.2.1, fun j hj => ?_⟩)
      rw [h3.2.2.2.2.2.2.2 j hj, z]
      by_cases e : j = i
      · rw [if_pos e, if_pos (by rw [e])]
      · rw [if_neg e, if_neg (fun c => e ((nj_eq (by omega) (by omega)).mp c).symm)]
theorem q_me93 {S S4 : GS} {E slot n b : Nat} {x2 d o : Int32} {Q : GS → Prop} (hE : E < 40) (hn : n < 512) (hb : b < 512) (hd : okD d) (ho : okD o) (hx : (x2 = 0 ∧ slot = 31) ∨ (x2 = 1 ∧ slot = 30)) (h0 : Fix S4) (h1 : Ag (pMe E slot) S S4) (h2 : gX S4 30 E = nI b) (h3 : gX S4 31 E = nI n) (h4 : gX S4 32 E = d) (h6 : gX S4 14 25 = nI E) (h7 : ∀ j, gX S4 22 j = gX S 22 j) (hQ : ∀ S3, Me S S3 E slot n b d o → Q S3) : wX9_makeEvent_93 Q 14 (nI n) x2 (gR S4 14 24) (gX S4 14 25) o S4 := by
  have hv := nj_in (n := 40) hE (by omega)
  have hcE := nj_clamp (show E < 2147483648 by omega)
  refine ⟨33, fr_14_24 h0, fn_33 h0, fk_33 h0, by rw [h6, fl_33 h0]; exact hv, fun S5 e5 => ?_⟩
  rw [h6, hcE] at e5
  have hw5 : Mw S S5 E slot n b d o (fun j => gX S 22 j) := by
    refine ⟨by rw [e5]; exact h0.x _ _ _, by rw [e5]; exact h1.x _ _ _ (Or.inl ⟨by omega, rfl⟩), ?_, ?_, ?_, ?_, ?_, ?_⟩
    · rw [e5, x_sX, if_neg (by omega)]; exact h2
    · rw [e5, x_sX, if_neg (by omega)]; exact h3
    · rw [e5, x_sX, if_neg (by omega)]; exact h4
    · rw [e5, x_sX, if_pos ⟨rfl, rfl⟩]
    · rw [e5, x_sX, if_neg (by omega)]; exact h6
    · intro j _
      rw [e5, x_sX, if_neg (by omega)]; exact h7 j
  have f5 := hw5.1
  refine ⟨fn_14 f5, fk_14 f5, 30, fr_14_21 f5, fn_30 f5, fk_30 f5, by rw [hw5.2.2.2.2.2.2.1, fl_30 f5]; exact hv, 22, fr_14_11 f5, fn_22 f5, fk_22 f5, by rw [hw5.2.2.2.2.2.2.1, hcE, hw5.2.2.1, fl_22 f5]; exact nj_in hb (by omega), fun S6 e6 => ?_⟩
  rw [hw5.2.2.2.2.2.2.1, hcE, hw5.2.2.1, nj_clamp (by omega)] at e6
  have hw6 := hw5.own b
  rw [← e6] at hw6
  have f6 := hw6.1
  refine ⟨22, fr_14_11 f6, fn_22 f6, fk_22 f6, by rw [fl_22 f6]; exact nj_in hn (by omega), fun S7 e7 => ?_⟩
  rw [nj_clamp (by omega)] at e7
  have hw7 := hw6.own n
  rw [← e7] at hw7
  have f7 := hw7.1
  refine ⟨32, fr_14_23 f7, fn_32 f7, fk_32 f7, ?_⟩
  rw [hw7.2.2.2.2.2.2.1, hcE, hw7.2.2.2.2.1, fl_32 f7]
  have hfin : ∀ (S8 : GS) (ow : Nat → Int32), Mw S S8 E slot n b d o ow → (∀ j, j < 512 → ow j = if d = nI j then 1 else if j = n then 1 else if j = b then 1 else gX S 22 j) → wX9_makeEvent_144 Q 14 x2 S8 := by
    intro S8 ow h8 how
    refine q_me144 hE ho hx h8 (fun S3 g => hQ S3 ⟨g.1, g.2.1, g.2.2.1, g.2.2.2.1, g.2.2.2.2.1, g.2.2.2.2.2.1, g.2.2.2.2.2.2.1, fun j hj => ?_⟩)
    rw [g.2.2.2.2.2.2.2 j hj, how j hj]
    by_cases c1 : o = nI j
    · rw [if_pos c1, if_pos (Or.inr (Or.inr (Or.inr c1)))]
    · rw [if_neg c1]
      by_cases c2 : d = nI j
      · rw [if_pos c2, if_pos (Or.inr (Or.inr (Or.inl c2)))]
      · rw [if_neg c2]
        by_cases c3 : j = n
        · rw [if_pos c3, if_pos (Or.inr (Or.inl c3))]
        · rw [if_neg c3]
          by_cases c4 : j = b
          · rw [if_pos c4, if_pos (Or.inl c4)]
          · rw [if_neg c4, if_neg]
            intro c
            rcases c with c | c | c | c
            · exact c4 c
            · exact c3 c
            · exact c2 c
            · exact c1 c
  refine ⟨hv, fun a => hfin S7 _ hw7 (fun j hj => ?_), fun a => ⟨hv, ?_⟩⟩
  · have hne : ¬ d = nI j := by rw [a]; intro c; exact nI_ne (by omega) c.symm
    rw [if_neg hne]
  · rcases hd with z | ⟨i, hi, z⟩
    · exact absurd z a
    · refine ⟨22, fr_14_11 f7, fn_22 f7, fk_22 f7, by rw [fl_22 f7, z]; exact nj_in hi (by omega), fun S8 e8 => ?_⟩
      rw [z, nj_clamp (by omega)] at e8
      have hw8 := hw7.own i
      rw [← e8] at hw8
      refine hfin S8 _ hw8 (fun j hj => ?_)
      rw [z]
      by_cases e : j = i
      · rw [if_pos e, if_pos (by rw [e])]
      · rw [if_neg e, if_neg (fun c => e ((nj_eq (by omega) (by omega)).mp c).symm)]
theorem q_me39 {S : GS} {E slot n b N : Nat} {x2 d o : Int32} {Q : GS → Prop} (hF : Fix S) (hE40 : E < 40) (hE : gX S 14 25 = nI E) (hn : n < 512) (hb : b < 512) (hd : okD d) (ho : okD o) (hx : (x2 = 0 ∧ slot = 31 ∧ d = -1 ∧ o = -1) ∨ (x2 = 1 ∧ slot = 30 ∧ gX S 14 19 = nI N ∧ N ≤ 512 ∧ gX S 14 30 = nI b ∧ b < N ∧ isD S N b 2 d ∧ isD S N b 3 o)) (hQ : ∀ S3, Me S S3 E slot n b d o → Q S3) : wX9_makeEvent_39 Q 14 (nI n) x2 (gR S 14 21) (gX S 14 25) (nI b) S := by
  have hv := nj_in (n := 40) hE40 (by omega)
  have hcE := nj_clamp (show E < 2147483648 by omega)
  have hx1 : (x2 = 0 ∧ slot = 31) ∨ (x2 = 1 ∧ slot = 30) := by
    rcases hx with a | a
    · exact Or.inl ⟨a.1, a.2.1⟩
    · exact Or.inr ⟨a.1, a.2.1⟩
  refine ⟨30, fr_14_21 hF, fn_30 hF, fk_30 hF, by rw [hE, fl_30 hF]; exact hv, fun S1 e1 => ?_⟩
  rw [hE, hcE] at e1
  have f1 : Fix S1 := by rw [e1]; exact hF.x _ _ _
  have hE1 : gX S1 14 25 = nI E := by rw [e1, x_sX, if_neg (by omega)]; exact hE
  refine ⟨fn_14 f1, fk_14 f1, 31, fr_14_22 f1, fn_31 f1, fk_31 f1, by rw [hE1, fl_31 f1]; exact hv, fun S2 e2 => ?_⟩
  rw [hE1, hcE] at e2
  have f2 : Fix S2 := by rw [e2]; exact f1.x _ _ _
  have hE2 : gX S2 14 25 = nI E := by rw [e2, x_sX, if_neg (by omega)]; exact hE1
  have a2 : Ag (pMe E slot) S S2 := by
    rw [e2, e1]
    exact ((Ag.rf _ _).x _ _ _ (Or.inl ⟨by omega, rfl⟩)).x _ _ _ (Or.inl ⟨by omega, rfl⟩)
  have b2 : gX S2 30 E = nI b := by rw [e2, x_sX, if_neg (by omega), e1, x_sX, if_pos ⟨rfl, rfl⟩]
  have c2 : gX S2 31 E = nI n := by rw [e2, x_sX, if_pos ⟨rfl, rfl⟩]
  have d2 : ∀ j, gX S2 22 j = gX S 22 j := fun j => by rw [e2, x_sX, if_neg (by omega), e1, x_sX, if_neg (by omega)]
  have r2 : ∀ k, k ≠ 30 → k ≠ 31 → gX S2 k = gX S k := by
    intro k k1 k2
    funext j
    rw [e2, x_sX, if_neg (fun a => k2 a.1), e1, x_sX, if_neg (fun a => k1 a.1)]
  have h71 : wX9_makeEvent_71 Q 14 (nI n) x2 (gR S2 14 23) (gX S2 14 25) d S2 := by
    refine ⟨32, fr_14_23 f2, fn_32 f2, fk_32 f2, by rw [hE2, fl_32 f2]; exact hv, fun S4 e4 => ?_⟩
    rw [hE2, hcE] at e4
    have f4 : Fix S4 := by rw [e4]; exact f2.x _ _ _
    have hE4 : gX S4 14 25 = nI E := by rw [e4, x_sX, if_neg (by omega)]; exact hE2
    have h93 : wX9_makeEvent_93 Q 14 (nI n) x2 (gR S4 14 24) (gX S4 14 25) o S4 := by
      refine q_me93 (S := S) hE40 hn hb hd ho hx1 f4 ?_ ?_ ?_ ?_ hE4 ?_ hQ
      · rw [e4]; exact a2.x _ _ _ (Or.inl ⟨by omega, rfl⟩)
      · rw [e4, x_sX, if_neg (by omega)]; exact b2
      · rw [e4, x_sX, if_neg (by omega)]; exact c2
      · rw [e4, x_sX, if_pos ⟨rfl, rfl⟩]
      · intro j
        rw [e4, x_sX, if_neg (by omega)]; exact d2 j
    refine ⟨fn_14 f4, fk_14 f4, ?_⟩
    rcases hx with ⟨x1, x3, x4, x5⟩ | ⟨x1, x3, x4, x5, x6, x7, x8, x9⟩
    · rw [x5] at h93
      exact ⟨fun _ => h93, fun z => absurd x1 z⟩
    · refine ⟨fun z => absurd (x1.symm.trans z) (by decide), fun _ => ?_⟩
      have r4 : ∀ k, k ≠ 30 → k ≠ 31 → k ≠ 32 → gX S4 k = gX S k := by
        intro k k1 k2 k3
        funext j
        rw [e4, x_sX, if_neg (fun a => k3 a.1), r2 k k1 k2]
      refine q_ofOpenD (n := N) (b := b) (d := o) f4 ?_ x5 ?_ x7 (isD_tr x9 (r4 21 (by omega) (by omega) (by omega)) (r4 23 (by omega) (by omega) (by omega))) (fun _ => h93)
      · rw [r4 14 (by omega) (by omega) (by omega)]; exact x4
      · rw [r4 14 (by omega) (by omega) (by omega)]; exact x6
  rcases hx with ⟨x1, x3, x4, x5⟩ | ⟨x1, x3, x4, x5, x6, x7, x8, x9⟩
  · rw [x4] at h71
    exact ⟨fun _ => h71, fun z => absurd x1 z⟩
  · refine ⟨fun z => absurd (x1.symm.trans z) (by decide), fun _ => ?_⟩
    refine q_ofOpenD (n := N) (b := b) (d := d) f2 ?_ x5 ?_ x7 (isD_tr x8 (r2 21 (by omega) (by omega)) (r2 23 (by omega) (by omega))) (fun _ => h71)
    · rw [r2 14 (by omega) (by omega)]; exact x4
    · rw [r2 14 (by omega) (by omega)]; exact x6
theorem q_makeEvent_p {S : GS} {E n b N : Nat} {d o : Int32} {Q : GS → Prop} (hF : Fix S) (hE40 : E < 40) (hE : gX S 14 25 = nI E) (hn : n < 512) (hs : gX S 23 n = 1) (hN : gX S 14 19 = nI N) (hN5 : N ≤ 512) (hb : gX S 14 30 = nI b) (hbN : b < N) (hd : isD S N b 2 d) (ho : isD S N b 3 o) (hQ : ∀ S3, Me S S3 E 30 n b d o → Q S3) : wX9_makeEvent S 14 (nI n) Q := by
  have hdD : okD d := by rcases hd.2 with e | ⟨j, _, h2, _, _, e⟩; exact Or.inl e; exact Or.inr ⟨j, by omega, e⟩
  have hoD : okD o := by rcases ho.2 with e | ⟨j, _, h2, _, _, e⟩; exact Or.inl e; exact Or.inr ⟨j, by omega, e⟩
  refine ⟨fn_14 hF, fk_14 hF, 23, fr_14_12 hF, fn_23 hF, fk_23 hF, by rw [fl_23 hF]; exact nj_in hn (by omega), ?_⟩
  rw [nj_clamp (by omega), hs]
  refine ⟨fun a => absurd rfl a, fun _ => ⟨fn_14 hF, fk_14 hF, fun a => absurd a (by decide), fun _ => ?_⟩⟩
  have := q_me39 (x2 := 1) (slot := 30) (N := N) hF hE40 hE hn (by omega) hdD hoD (Or.inr ⟨rfl, rfl, hN, hN5, hb, hbN, hd, ho⟩) hQ
  rw [hb]
  exact this
theorem q_makeEvent_m {S : GS} {E n b : Nat} {Q : GS → Prop} (hF : Fix S) (hE40 : E < 40) (hE : gX S 14 25 = nI E) (hn : n < 512) (hs : gX S 23 n ≠ 1) (hb : gX S 14 31 = nI b) (hb5 : b < 512) (hQ : ∀ S3, Me S S3 E 31 n b (-1) (-1) → Q S3) : wX9_makeEvent S 14 (nI n) Q := by
  refine ⟨fn_14 hF, fk_14 hF, 23, fr_14_12 hF, fn_23 hF, fk_23 hF, by rw [fl_23 hF]; exact nj_in hn (by omega), ?_⟩
  rw [nj_clamp (by omega)]
  refine ⟨fun _ => ⟨fn_14 hF, fk_14 hF, fun _ => ?_, fun a => absurd rfl a⟩, fun a => absurd a hs⟩
  have := q_me39 (x2 := 0) (slot := 31) (N := 0) hF hE40 hE hn hb5 (Or.inl rfl) (Or.inl rfl) (Or.inl ⟨rfl, rfl, rfl, rfl⟩) hQ
  rw [hb]
  exact this
