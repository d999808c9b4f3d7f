/-! THE CLASS ENDS A PAUSE OR A MARK. -/
def xEp (q k j : Nat) : Prop := (k = q ∧ (j = 5 ∨ j = 6 ∨ j = 7 ∨ j = 8 ∨ j = 9 ∨ j = 14)) ∨ (k = 13 ∧ j = 1) ∨ (k = 6 ∧ j = 1) ∨ (k = 0 ∧ j = 11)
def rEp (E k j : Nat) : Prop := (k = 0 ∧ j = 7) ∨ (k = 13 ∧ j = 0) ∨ (k = 7 ∧ j = E)
def Ep (S1 S2 : GS) (q E : Nat) : Prop := Gf (xEp q) (fun k _ => k = 13) (rEp E) S1 S2 ∧ (gX S2 q 5 = gX S1 5 4 ∧ gX S2 q 6 = gX S1 5 5 ∧ gX S2 q 7 = gX S1 5 6 ∧ gX S2 q 8 = gX S1 5 7 ∧ gX S2 q 9 = gX S1 5 8 ∧ gX S2 q 14 = gX S1 q 14 + 1)
  ∧ gX S2 13 1 = gX S1 13 1 + 1 ∧ gZ S2 13 2 = gZ S1 13 2 + (gX S1 5 8).toInt64 ∧ gZ S2 13 5 = (if gX S1 q 12 = -1 then gZ S1 13 5 else gZ S1 13 5 + (gX S1 q 13 - gX S1 q 12).toInt64) ∧ gR S2 13 0 = some q
  ∧ (gR S1 13 0 = none → gZ S2 13 3 = gZ S1 13 3 ∧ gZ S2 13 4 = gZ S1 13 4) ∧ (∀ a, gR S1 13 0 = some a → gZ S2 13 3 = gZ S1 13 3 + (gX S1 5 5 - gX S1 a 7).toInt64 ∧ gZ S2 13 4 = gZ S1 13 4 + (gX S1 q 3 - gX S1 a 5).toInt64)
  ∧ gX S2 6 1 = nI (E + 1) ∧ gX S2 0 11 = gX S1 0 11 + (gX S1 q 14 + 1) ∧ gR S2 7 E = some q ∧ gR S2 0 7 = none
theorem fR_ep (E : Nat) : ∀ t ∈ fR, ¬ rEp E t.1 t.2.1 := by
  have : ∀ t ∈ fR, ¬ ((t.1 = 0 ∧ t.2.1 = 7) ∨ (t.1 = 13 ∧ t.2.1 = 0) ∨ t.1 = 7) := by decide
  intro t ht a
  refine this t ht ?_
  unfold rEp at a
  omega
theorem q_endPause {S1 : GS} {E : Nat} {Q : Int32 → GS → Prop} (hF : Fix S1) (hE : gX S1 6 1 = nI E) (hE40 : E < 40) (h5 : gR S1 0 7 = none → Q (-5) S1) (hq : ∀ q, gR S1 0 7 = some q → evP S1 q ∧ (∀ a, gR S1 13 0 = some a → evP S1 a ∧ a ≠ q) ∧ (gX S1 q 1 ≠ gX S1 5 3 → Q (-5) S1) ∧ (gX S1 q 1 = gX S1 5 3 → (cw1 S1 q → Q (-6) S1) ∧ (¬ cw1 S1 q → ∀ S2, Ep S1 S2 q E → Q 1 S2))) : wX8_endPause S1 0 5 Q := by
  refine ⟨fn_0 hF, fk_0 hF, h5, fun q e => ?_⟩
  obtain ⟨hp, hah, g5, g6⟩ := hq q e
  have h39 := hp.1
  refine ⟨hp.2.1, hp.2.2, fn_5 hF, fk_5 hF, fun a => ?_, fun a => g5 a⟩
  obtain ⟨w6, w0⟩ := g6 a
  unfold wX8_endPause_47
  refine q_another hF hp (fun z _ => ⟨fun _ => w6 ?_, fun x => absurd x (by decide)⟩) (fun z1 _ => ⟨fun x => absurd rfl x, fun _ => ⟨q, e, hp.2.1, hp.2.2, ?_⟩⟩)
  · rcases z with z | z
    · exact Or.inl z
    · exact Or.inr (Or.inl z)
  refine q_noRoom hF hp (fun z _ => ⟨fun _ => w6 (Or.inr (Or.inr ?_)), fun x => absurd x (by decide)⟩) (fun z2 _ => ⟨fun x => absurd rfl x, fun _ => ⟨q, e, hp.2.1, hp.2.2, ?_⟩⟩)
  · rcases z with z | z | z | z
    · exact Or.inl z
    · exact Or.inr (Or.inl z)
    · exact Or.inr (Or.inr (Or.inl z))
    · exact Or.inr (Or.inr (Or.inr (Or.inl z)))
  refine q_short hF hp (fun z _ => ⟨fun x => absurd x (by decide), fun _ => w6 (Or.inr (Or.inr (Or.inr (Or.inr (Or.inr (Or.inr z))))))⟩) (fun z3 _ => ⟨fun _ => ⟨6, fr_0_3 hF, fn_6 hF, fk_6 hF, ?_⟩, fun x => absurd rfl x⟩)
  refine q_isFull hF hE hE40 (fun _ => ⟨fun _ => ⟨q, e, hp.2.1, hp.2.2, ?_⟩, fun x => absurd rfl x⟩)
  have hncw : ¬ cw1 S1 q := by
    intro c
    rcases c with c | c | c | c | c | c | c
    · exact z1 (Or.inl c)
    · exact z1 (Or.inr c)
    · exact z2 (Or.inl c)
    · exact z2 (Or.inr (Or.inl c))
    · exact z2 (Or.inr (Or.inr (Or.inl c)))
    · exact z2 (Or.inr (Or.inr (Or.inr c)))
    · exact z3 c
  refine q_endAsPause hF hp (fun S69 h69 _ S85 e85 => ⟨q, e, 13, ?_⟩)
  obtain ⟨a69, f5, f6, f7, f8, f9, f14⟩ := h69
  have g69 : Gf (xEp q) (fun k _ => k = 13) (rEp E) S1 S69 := Gf.ag a69 (fun k j b => Or.inl b)
  have g85 : Gf (xEp q) (fun k _ => k = 13) (rEp E) S1 S85 := by rw [e85]; exact g69.r _ _ _ (Or.inl ⟨rfl, rfl⟩)
  have f85 : Fix S85 := g85.fix hF (fR_ep E)
  have p85 : evP S85 q := ⟨h39, by rw [g85.1]; exact hp.2.1, by rw [g85.2.1]; exact hp.2.2⟩
  have x85 : ∀ k j, gX S85 k j = gX S69 k j := fun k j => by rw [e85]; rfl
  have r85 : gR S85 13 0 = gR S1 13 0 := by rw [e85, r_sR, if_neg (by omega), a69.R]
  have z85 : ∀ k j, gZ S85 k j = gZ S1 k j := fun k j => by rw [e85]; show gZ S69 k j = _; rw [a69.Z]
  refine ⟨fr_0_6 f85, fn_13 f85, fk_13 f85, q_addPause f85 p85 (fun c hc => ?_) (fun S106 h106 _ => ⟨q, e, ?_⟩)⟩
  · rw [r85] at hc
    have := (hah c hc).1
    exact ⟨this.1, by rw [g85.1]; exact this.2.1, by rw [g85.2.1]; exact this.2.2⟩
  obtain ⟨g106, b1, b2, b5, b0, bn, ba⟩ := h106
  have g106' : Gf (xEp q) (fun k _ => k = 13) (rEp E) S1 S106 := g85.tr (g106.mono (fun k j b => Or.inr (Or.inl b)) (fun k j b => b.1) (fun k j b => Or.inr (Or.inl b)))
  have f106 : Fix S106 := g106'.fix hF (fR_ep E)
  have p106 : evP S106 q := ⟨h39, by rw [g106'.1]; exact hp.2.1, by rw [g106'.2.1]; exact hp.2.2⟩
  have x106 : ∀ j, gX S106 q j = gX S69 q j := fun j => by rw [g106.2.2.2.1 q j (by omega), x85]
  have E106 : gX S106 6 1 = nI E := by rw [g106.2.2.2.1 6 1 (by omega), x85, a69.X 6 1 (by omega)]; exact hE
  refine q_keep f106 p106 E106 hE40 (fun S126 h126 _ => w0 hncw S126 ?_)
  obtain ⟨g126, c1, c2, c3⟩ := h126
  have x126 : ∀ j, gX S126 q j = gX S69 q j := fun j => by rw [g126.2.2.2.1 q j (by omega), x106]
  have z126 : ∀ k j, gZ S126 k j = gZ S106 k j := fun k j => g126.2.2.2.2.1 k j (fun b => b)
  have q3 : gX S69 q 3 = gX S1 q 3 := a69.X q 3 (by omega)
  have q12 : gX S69 q 12 = gX S1 q 12 := a69.X q 12 (by omega)
  have q13 : gX S69 q 13 = gX S1 q 13 := a69.X q 13 (by omega)
  refine ⟨g106'.tr (g126.mono (fun k j b => by unfold xEp; omega) (fun _ _ b => b.elim) (fun k j b => Or.inr (Or.inr b))), ⟨?_, ?_, ?_, ?_, ?_, ?_⟩, ?_, ?_, ?_, ?_, ?_, ?_, c1, ?_, c3, ?_⟩
  · rw [x126]; exact f5
  · rw [x126]; exact f6
  · rw [x126]; exact f7
  · rw [x126]; exact f8
  · rw [x126]; exact f9
  · rw [x126]; exact f14
  · rw [g126.2.2.2.1 13 1 (by omega), b1, x85, a69.X 13 1 (by omega)]
  · rw [z126, b2, z85, x85, f9]
  · rw [z126, b5, x85, x85, q12, q13, z85]
  · rw [g126.2.2.2.2.2 13 0 (by omega)]; exact b0
  · intro hn
    rw [z126, z126, ← z85, ← z85]
    exact bn (by rw [r85]; exact hn)
  · intro c hc
    have hcq := hah c hc
    have := ba c (by rw [r85]; exact hc)
    rw [z126, z126, this.1, this.2, z85, z85, x85, x85, x85, x85, f6, q3, a69.X c 7 (fun b => hcq.2 b.1), a69.X c 5 (fun b => hcq.2 b.1)]
    exact ⟨rfl, rfl⟩
  · rw [c2, x106, f14, g106.2.2.2.1 0 11 (by omega), x85, a69.X 0 11 (by omega)]
  · rw [g126.2.2.2.2.2 0 7 (by omega), g106.2.2.2.2.2 0 7 (by omega), e85, r_sR, if_pos ⟨rfl, rfl⟩]
def ckT (te tb : Int32) : Int32 := Int64.toInt32 (if 2147483647 < 1000 * (Int32.toInt64 (te - tb)) then 2147483647 else 1000 * (Int32.toInt64 (te - tb)))
def xEm (q k j : Nat) : Prop := (k = q ∧ (j = 4 ∨ j = 5 ∨ j = 9 ∨ j = 14)) ∨ (k = 6 ∧ j = 1) ∨ (k = 0 ∧ j = 11)
def rEm (E k j : Nat) : Prop := (k = 0 ∧ j = 8) ∨ (k = 7 ∧ j = E)
def Em (S1 S2 : GS) (q E s : Nat) : Prop := Gf (xEm q) (fun _ _ => False) (rEm E) S1 S2 ∧ gX S2 q 5 = gX S1 5 4 ∧ gX S2 q 4 = (if s = 6 then 4 else 3) ∧ gX S2 q 9 = (if s = 6 then ckT (gX S1 5 4) (gX S1 q 3) else gX S1 5 8) ∧ gX S2 q 14 = gX S1 q 14 + 1 ∧ gX S2 6 1 = nI (E + 1) ∧ gX S2 0 11 = gX S1 0 11 + (gX S1 q 14 + 1) ∧ gR S2 7 E = some q ∧ gR S2 0 8 = none
theorem fR_em (E : Nat) : ∀ t ∈ fR, ¬ rEm E t.1 t.2.1 := by
  have : ∀ t ∈ fR, ¬ ((t.1 = 0 ∧ t.2.1 = 8) ∨ t.1 = 7) := by decide
  intro t ht a
  refine this t ht ?_
  unfold rEm at a
  omega
def Eb (S1 S2 : GS) (q s : Nat) : Prop := Ag (fun k j => k = q ∧ (j = 4 ∨ j = 5 ∨ j = 9 ∨ j = 14)) S1 S2 ∧ gX S2 q 5 = gX S1 5 4 ∧ gX S2 q 4 = (if s = 6 then 4 else 3) ∧ gX S2 q 9 = (if s = 6 then ckT (gX S1 5 4) (gX S1 q 3) else gX S1 5 8) ∧ gX S2 q 14 = gX S1 q 14 + 1
theorem q_endAsMark {S1 : GS} {q s : Nat} {Q : GS → Prop} (hF : Fix S1) (hp : evP S1 q) (hs : gX S1 5 0 = nI s) (hs2 : s = 5 ∨ s = 6) (hQ : ∀ S2, Eb S1 S2 q s → Q S2) : wX2_endAsMark S1 q 5 Q := by
  have h39 := hp.1
  have h14 : ∀ t0 : Int32, (t0 = 0 ∧ s = 5) ∨ (t0 = 1 ∧ s = 6) → wX2_endAsMark_14 Q q 5 t0 S1 := by
    intro t0 ht
    refine ⟨fn_5 hF, fk_5 hF, hp.2.1, hp.2.2, fun S32 e32 => ?_⟩
    have f32 : Fix S32 := by rw [e32]; exact hF.x _ _ _
    have a32 : Ag (fun k j => k = q ∧ (j = 4 ∨ j = 5 ∨ j = 9 ∨ j = 14)) S1 S32 := by rw [e32]; exact (Ag.rf _ _).x _ _ _ ⟨rfl, by omega⟩
    have p32 : q < gN S32 ∧ gK S32 q = 2 := by rw [e32]; exact ⟨hp.2.1, hp.2.2⟩
    have h33 : ∀ v4 : Int32, v4 = (if s = 6 then 4 else 3) → wX2_endAsMark_33 Q q 5 t0 q v4 S32 := by
      intro v4 hv4
      refine ⟨p32.1, p32.2, fun S15 e15 => ?_⟩
      have f15 : Fix S15 := by rw [e15]; exact f32.x _ _ _
      have a15 : Ag (fun k j => k = q ∧ (j = 4 ∨ j = 5 ∨ j = 9 ∨ j = 14)) S1 S15 := by rw [e15]; exact a32.x _ _ _ ⟨rfl, by omega⟩
      have p15 : q < gN S15 ∧ gK S15 q = 2 := by rw [e15]; exact p32
      have h60 : ∀ v9 : Int32, v9 = (if s = 6 then ckT (gX S1 5 4) (gX S1 q 3) else gX S1 5 8) → wX2_endAsMark_60 Q q q v9 S15 := by
        intro v9 hv9
        refine ⟨p15.1, p15.2, fun S3 e3 => ⟨by rw [e3]; exact p15.1, by rw [e3]; exact p15.2, fun S8 e8 => hQ S8 ?_⟩⟩
        have t : gX S3 q 14 = gX S1 q 14 := by rw [e3, x_sX, if_neg (by omega), e15, x_sX, if_neg (by omega), e32, x_sX, if_neg (by omega)]
        rw [t] at e8
        refine ⟨?_, ?_, ?_, ?_, ?_⟩
        · rw [e8, e3]; exact (a15.x _ _ _ ⟨rfl, by omega⟩).x _ _ _ ⟨rfl, by omega⟩
        · rw [e8, x_sX, if_neg (by omega), e3, x_sX, if_neg (by omega), e15, x_sX, if_neg (by omega), e32, x_sX, if_pos ⟨rfl, rfl⟩]
        · rw [e8, x_sX, if_neg (by omega), e3, x_sX, if_neg (by omega), e15, x_sX, if_pos ⟨rfl, rfl⟩]; exact hv4
        · rw [e8, x_sX, if_neg (by omega), e3, x_sX, if_pos ⟨rfl, rfl⟩]; exact hv9
        · rw [e8, x_sX, if_pos ⟨rfl, rfl⟩]
      rcases ht with ⟨z, zs⟩ | ⟨z, zs⟩
      · refine ⟨fun _ => ⟨fn_5 f15, fk_5 f15, ?_⟩, fun x => absurd z x⟩
        rw [a15.X 5 8 (by omega)]
        exact h60 _ (by rw [if_neg (by omega)])
      · refine ⟨fun x => absurd (z.symm.trans x) (by decide), fun _ => ⟨p15.1, p15.2, fn_5 f15, fk_5 f15, p15.1, p15.2, fun _ => ?_⟩⟩
        rw [a15.X 5 4 (by omega), a15.X q 3 (by omega)]
        exact h60 _ (by rw [if_pos zs]; rfl)
    rcases ht with ⟨z, zs⟩ | ⟨z, zs⟩
    · exact ⟨fun _ => h33 3 (by rw [if_neg (by omega)]), fun x => absurd z x⟩
    · exact ⟨fun x => absurd (z.symm.trans x) (by decide), fun _ => h33 4 (by rw [if_pos zs])⟩
  refine ⟨fn_5 hF, fk_5 hF, ?_⟩
  rw [hs]
  rcases hs2 with e | e
  · exact ⟨fun _ => h14 0 (Or.inl ⟨rfl, e⟩), fun a => absurd a (by rw [e]; decide)⟩
  · exact ⟨fun a => absurd (by rw [e]; decide) a, fun _ => h14 1 (Or.inr ⟨rfl, e⟩)⟩
theorem q_endMark {S1 : GS} {E s : Nat} {Q : Int32 → GS → Prop} (hF : Fix S1) (hE : gX S1 6 1 = nI E) (hE40 : E < 40) (hs : gX S1 5 0 = nI s) (hs2 : s = 5 ∨ s = 6) (h5 : gR S1 0 8 = none → Q (-5) S1) (hq : ∀ q, gR S1 0 8 = some q → evP S1 q ∧ (gX S1 q 1 ≠ gX S1 5 3 → Q (-5) S1) ∧ (gX S1 q 1 = gX S1 5 3 → ((s = 5 ∧ slw (gX S1 5 8) (gX S1 5 4) (gX S1 q 3)) → Q (-6) S1) ∧ (¬ (s = 5 ∧ slw (gX S1 5 8) (gX S1 5 4) (gX S1 q 3)) → ∀ S2, Em S1 S2 q E s → Q 1 S2))) : wX8_endMark S1 0 5 Q := by
  refine ⟨fn_0 hF, fk_0 hF, h5, fun q e => ?_⟩
  obtain ⟨hp, g5, g6⟩ := hq q e
  have h39 := hp.1
  refine ⟨hp.2.1, hp.2.2, fn_5 hF, fk_5 hF, fun a => ?_, fun a => g5 a⟩
  obtain ⟨w6, w0⟩ := g6 a
  have h42 : ¬ (s = 5 ∧ slw (gX S1 5 8) (gX S1 5 4) (gX S1 q 3)) → wX8_endMark_42 Q 0 5 (gR S1 0 8) S1 := by
    intro hn
    refine ⟨fn_0 hF, fk_0 hF, 6, fr_0_3 hF, fn_6 hF, fk_6 hF, q_isFull hF hE hE40 (fun _ => ⟨fun _ => ⟨q, e, hp.2.1, hp.2.2, ?_⟩, fun x => absurd rfl x⟩)⟩
    refine q_endAsMark hF hp hs hs2 (fun S17 h17 _ S25 e25 => ⟨q, e, ?_⟩)
    obtain ⟨a17, f5, f4, f9, f14⟩ := h17
    have g17 : Gf (xEm q) (fun _ _ => False) (rEm E) S1 S17 := Gf.ag a17 (fun k j b => Or.inl b)
    have g25 : Gf (xEm q) (fun _ _ => False) (rEm E) S1 S25 := by rw [e25]; exact g17.r _ _ _ (Or.inl ⟨rfl, rfl⟩)
    have f25 : Fix S25 := g25.fix hF (fR_em E)
    have p25 : evP S25 q := ⟨h39, by rw [g25.1]; exact hp.2.1, by rw [g25.2.1]; exact hp.2.2⟩
    have x25 : ∀ k j, gX S25 k j = gX S17 k j := fun k j => by rw [e25]; rfl
    have E25 : gX S25 6 1 = nI E := by rw [x25, a17.X 6 1 (by omega)]; exact hE
    refine q_keep f25 p25 E25 hE40 (fun S34 h34 _ => w0 hn S34 ?_)
    obtain ⟨g34, c1, c2, c3⟩ := h34
    have x34 : ∀ j, gX S34 q j = gX S17 q j := fun j => by rw [g34.2.2.2.1 q j (by omega), x25]
    refine ⟨g25.tr (g34.mono (fun k j b => by unfold xEm; omega) (fun _ _ b => b) (fun k j b => Or.inr b)), ?_, ?_, ?_, ?_, c1, ?_, c3, ?_⟩
    · rw [x34]; exact f5
    · rw [x34]; exact f4
    · rw [x34]; exact f9
    · rw [x34]; exact f14
    · rw [c2, x25, x25, f14, a17.X 0 11 (by omega)]
    · rw [g34.2.2.2.2.2 0 8 (by omega), e25, r_sR, if_pos ⟨rfl, rfl⟩]
  rw [hs]
  rcases hs2 with z | z
  · refine ⟨fun x => absurd (by rw [z]; decide) x, fun _ => ?_⟩
    exact q_short hF hp (fun c _ => ⟨fun x => absurd x (by decide), fun _ => w6 ⟨z, c⟩⟩) (fun c _ => ⟨fun _ => h42 (fun y => c y.2), fun x => absurd rfl x⟩)
  · exact ⟨fun _ => h42 (fun y => absurd y.1 (by omega)), fun x => absurd x (by rw [z]; decide)⟩
