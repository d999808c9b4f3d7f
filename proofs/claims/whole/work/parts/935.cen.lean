/-! THE CLASS ADDS TO AN EVENT AND ENDS IT. -/
def cPt (s : Nat) : Nat := if s = 2 then 10 else 12
def Ap (S1 S2 : GS) (q s : Nat) : Prop := Ag (fun k j => k = q ∧ (j = cPt s ∨ j = cPt s + 1 ∨ j = 14)) S1 S2 ∧ gX S2 q (cPt s) = gX S1 5 5 ∧ gX S2 q (cPt s + 1) = gX S1 5 6 ∧ gX S2 q 14 = gX S1 q 14 + 1
theorem q_addPart {S1 : GS} {s : Nat} {Q : Int32 → GS → Prop} (hF : Fix S1) (hs : gX S1 5 0 = nI s) (hs2 : s = 2 ∨ s = 3) (h5 : gR S1 0 7 = none → Q (-5) S1) (hq : ∀ q, gR S1 0 7 = some q → evP S1 q ∧ (gX S1 q 1 ≠ gX S1 5 3 → Q (-5) S1) ∧ (gX S1 q 1 = gX S1 5 3 → (gX S1 q (cPt s) ≠ -1 → Q (-6) S1) ∧ (gX S1 q (cPt s) = -1 → ∀ S2, Ap S1 S2 q s → Q 0 S2))) : wX8_addPart S1 0 5 Q := by
  refine ⟨fn_0 hF, fk_0 hF, h5, fun q e => ?_⟩
  obtain ⟨⟨p39, p1, p2⟩, g5, g6⟩ := hq q e
  refine ⟨p1, p2, fn_5 hF, fk_5 hF, fun a => ?_, fun a => g5 a⟩
  obtain ⟨w6, w0⟩ := g6 a
  have hfin : ∀ (c : Nat) (x2 : Int32), c = cPt s → ((x2 = 0 ∧ c = 12) ∨ (x2 = 1 ∧ c = 10)) → wX2_addPart_29 (fun u10 S9 => gSh S9 S1 → (u10 = 0 → wX8_addPart_37 Q 0 (-6) S9) ∧ (¬ u10 = 0 → wX8_addPart_37 Q 0 0 S9)) q 5 x2 (gX S1 q c) S1 := by
    intro c x2 hc hx
    unfold wX2_addPart_29 wX2_addPart_74 wX8_addPart_37
    have hgo : gX S1 q c = -1 → ∀ S10 : GS, S10 = sX S1 q c (gX S1 5 5) → ∀ S15 : GS, S15 = sX S10 q (c + 1) (gX S10 5 6) → q < gN S15 ∧ gK S15 q = 2 ∧ ∀ S3 : GS, S3 = sX S15 q 14 ((gX S15 q 14) + 1) → (gSh S3 S1 → ((1 : Int32) = 0 → Q (-6) S3) ∧ (¬ (1 : Int32) = 0 → Q 0 S3)) := by
      intro hm S10 e10 S15 e15
      have hc14 : c + 1 < 14 := by rcases hx with z | z <;> omega
      have t1 : gX S10 5 6 = gX S1 5 6 := by rw [e10, x_sX, if_neg (by omega)]
      rw [t1] at e15
      refine ⟨by rw [e15, e10]; exact p1, by rw [e15, e10]; exact p2, fun S3 e3 _ => ⟨fun x => absurd x (by decide), fun _ => w0 (by rw [← hc]; exact hm) S3 ?_⟩⟩
      have t2 : gX S15 q 14 = gX S1 q 14 := by rw [e15, x_sX, if_neg (by omega), e10, x_sX, if_neg (by omega)]
      rw [t2] at e3
      refine ⟨?_, ?_, ?_, ?_⟩
      · rw [e3, e15, e10, ← hc]
        exact (((Ag.rf _ _).x _ _ _ ⟨rfl, Or.inl rfl⟩).x _ _ _ ⟨rfl, Or.inr (Or.inl rfl)⟩).x _ _ _ ⟨rfl, Or.inr (Or.inr rfl)⟩
      · rw [← hc, e3, x_sX, if_neg (by omega), e15, x_sX, if_neg (by omega), e10, x_sX, if_pos ⟨rfl, rfl⟩]
      · rw [← hc, e3, x_sX, if_neg (by omega), e15, x_sX, if_pos ⟨rfl, rfl⟩]
      · rw [e3, x_sX, if_pos ⟨rfl, rfl⟩]
    refine ⟨fun hm => ?_, fun hm _ => ⟨fun _ => w6 (by rw [← hc]; exact hm), fun x => absurd rfl x⟩⟩
    rcases hx with ⟨z, zc⟩ | ⟨z, zc⟩
    · subst zc
      exact ⟨fun _ => ⟨fn_5 hF, fk_5 hF, p1, p2, hgo hm⟩, fun x => absurd z x⟩
    · subst zc
      exact ⟨fun x => absurd (z.symm.trans x) (by decide), fun _ => ⟨fn_5 hF, fk_5 hF, p1, p2, hgo hm⟩⟩
  refine ⟨fn_5 hF, fk_5 hF, ?_⟩
  rw [hs]
  unfold wX2_addPart_13
  rcases hs2 with z | z
  · refine ⟨fun x => absurd (by rw [z]; decide) x, fun _ => ⟨fun x => absurd x (by decide), fun _ => ⟨p1, p2, hfin 10 1 (by rw [z]; rfl) (Or.inr ⟨rfl, rfl⟩)⟩⟩⟩
  · refine ⟨fun _ => ⟨fun _ => ⟨p1, p2, hfin 12 0 (by rw [z]; rfl) (Or.inl ⟨rfl, rfl⟩)⟩, fun x => absurd rfl x⟩, fun x => absurd x (by rw [z]; decide)⟩
def mx (x : Int32) : Int32 := if x < 0 then 0 else x
/-- the class finds the end wrong -/
def cw1 (S1 : GS) (q : Nat) : Prop := gX S1 5 1 ≠ gX S1 q 4 ∨ gX S1 5 2 ≠ gX S1 q 2 ∨ gX S1 5 7 < gX S1 5 5 ∨ gX S1 5 7 < gX S1 5 6 ∨ gX S1 5 5 < mx (gX S1 q 10) + mx (gX S1 q 12) ∨ gX S1 5 6 < mx (gX S1 q 11) + mx (gX S1 q 13) ∨ slw (gX S1 5 8) (gX S1 5 4) (gX S1 q 3)
theorem q_another {S1 : GS} {q : Nat} {Q : Int32 → GS → Prop} (hF : Fix S1) (hp : evP S1 q) (h1 : (gX S1 5 1 ≠ gX S1 q 4 ∨ gX S1 5 2 ≠ gX S1 q 2) → Q 1 S1) (h0 : ¬ (gX S1 5 1 ≠ gX S1 q 4 ∨ gX S1 5 2 ≠ gX S1 q 2) → Q 0 S1) : wX2_isAnotherPauseThan S1 q 5 Q := by
  unfold wX2_isAnotherPauseThan wX2_isAnotherPauseThan_22 wX2_isAnotherPauseThan_27
  refine ⟨fn_5 hF, fk_5 hF, hp.2.1, hp.2.2, fun a => ⟨Or.inr rfl, h1 (Or.inl a)⟩, fun a => ⟨fun b => ⟨Or.inl rfl, h0 ?_⟩, fun b => ⟨Or.inr rfl, h1 (Or.inr b)⟩⟩⟩
  intro c
  rcases c with c | c
  · exact c a
  · exact c b
theorem q_noRoom {S1 : GS} {q : Nat} {Q : Int32 → GS → Prop} (hF : Fix S1) (hp : evP S1 q) (h1 : (gX S1 5 7 < gX S1 5 5 ∨ gX S1 5 7 < gX S1 5 6 ∨ gX S1 5 5 < mx (gX S1 q 10) + mx (gX S1 q 12) ∨ gX S1 5 6 < mx (gX S1 q 11) + mx (gX S1 q 13)) → Q 1 S1) (h0 : ¬ (gX S1 5 7 < gX S1 5 5 ∨ gX S1 5 7 < gX S1 5 6 ∨ gX S1 5 5 < mx (gX S1 q 10) + mx (gX S1 q 12) ∨ gX S1 5 6 < mx (gX S1 q 11) + mx (gX S1 q 13)) → Q 0 S1) : wX2_hasNoRoomIn S1 q 5 Q := by
  unfold wX2_hasNoRoomIn wX2_hasNoRoomIn_70 wX2_hasNoRoomIn_75
  refine ⟨fn_5 hF, fk_5 hF, fun a => ⟨Or.inr rfl, h1 (Or.inl a)⟩, fun a => ⟨fun b => ⟨Or.inr rfl, h1 (Or.inr (Or.inl b))⟩, fun b => ⟨hp.2.1, hp.2.2, fun c => ⟨Or.inr rfl, h1 (Or.inr (Or.inr (Or.inl c)))⟩, fun c => ⟨fun d => ⟨Or.inl rfl, h0 ?_⟩, fun d => ⟨Or.inr rfl, h1 (Or.inr (Or.inr (Or.inr (Int32.not_le.mp d))))⟩⟩⟩⟩⟩
  intro z
  rcases z with z | z | z | z
  · exact a z
  · exact b z
  · exact c z
  · exact absurd d (Int32.not_le.mpr z)
theorem q_short {S1 : GS} {q : Nat} {Q : Int32 → GS → Prop} (hF : Fix S1) (hp : evP S1 q) (h1 : slw (gX S1 5 8) (gX S1 5 4) (gX S1 q 3) → Q 1 S1) (h0 : ¬ slw (gX S1 5 8) (gX S1 5 4) (gX S1 q 3) → Q 0 S1) : wX2_isTooShortFor S1 q 5 Q := by
  unfold wX2_isTooShortFor wX2_isTooShortFor_23 wX2_microsecondsUntil
  exact ⟨fn_5 hF, fk_5 hF, hp.2.1, hp.2.2, fn_5 hF, fk_5 hF, hp.2.1, hp.2.2, fun _ => ⟨fun a => ⟨Or.inl rfl, h0 (fun c => c a)⟩, fun a => ⟨Or.inr rfl, h1 a⟩⟩⟩
theorem q_isFull {S1 : GS} {E : Nat} {Q : Int32 → GS → Prop} (hF : Fix S1) (hE : gX S1 6 1 = nI E) (hE40 : E < 40) (h0 : Q 0 S1) : wX3_isFull S1 6 Q := by
  unfold wX3_isFull wX3_isFull_17
  refine ⟨fn_6 hF, fk_6 hF, 7, fr_6_0 hF, fn_7 hF, fk_7 hF, ?_⟩
  rw [hE, fl_7 hF]
  exact ⟨fun _ => ⟨Or.inl rfl, h0⟩, fun a => absurd ((nj_lt (by omega) (by omega)).mpr hE40) a⟩
/-- the event at q is kept as the event E -/
def Kp (S S2 : GS) (q E : Nat) : Prop := Gf (fun k j => (k = 6 ∧ j = 1) ∨ (k = 0 ∧ j = 11)) (fun _ _ => False) (fun k j => k = 7 ∧ j = E) S S2 ∧ gX S2 6 1 = nI (E + 1) ∧ gX S2 0 11 = gX S 0 11 + gX S q 14 ∧ gR S2 7 E = some q
theorem q_keep {S : GS} {q E : Nat} {Q : Int32 → GS → Prop} (hF : Fix S) (hp : evP S q) (hE : gX S 6 1 = nI E) (hE40 : E < 40) (hQ : ∀ S2, Kp S S2 q E → Q 1 S2) : wX8_keep S 0 q Q := by
  refine ⟨fn_0 hF, fk_0 hF, 6, fr_0_3 hF, fn_6 hF, fk_6 hF, fn_6 hF, fk_6 hF, ?_⟩
  rw [hE]
  refine ⟨fun a => absurd a (nj_nneg (by omega)), fun _ => ⟨7, fr_6_0 hF, fn_7 hF, fk_7 hF, ?_⟩⟩
  rw [fl_7 hF, nj_clamp (by omega)]
  refine ⟨fun a => absurd ((nj_le (by omega) (by omega)).mp a) (by omega), fun _ => ⟨nj_in hE40 (by omega), hp.2.1, hp.2.2, fun S10 e10 S17 e17 _ => ?_⟩⟩
  have t1 : gX S10 6 1 = nI E := by rw [e10]; exact hE
  rw [t1, nj_succ] at e17
  refine ⟨by rw [e17, e10]; exact hp.2.1, by rw [e17, e10]; exact hp.2.2, fun S15 e15 => hQ S15 ?_⟩
  have h39 := hp.1
  have t2 : gX S17 0 11 = gX S 0 11 := by rw [e17, x_sX, if_neg (by omega), e10]; rfl
  have t3 : gX S17 q 14 = gX S q 14 := by rw [e17, x_sX, if_neg (by omega), e10]; rfl
  rw [t2, t3] at e15
  refine ⟨?_, ?_, ?_, ?_⟩
  · rw [e15, e17, e10]
    exact (((Gf.rf _ _ _ _).r _ _ _ ⟨rfl, rfl⟩).x _ _ _ (Or.inl ⟨rfl, rfl⟩)).x _ _ _ (Or.inr ⟨rfl, rfl⟩)
  · rw [e15, x_sX, if_neg (by omega), e17, x_sX, if_pos ⟨rfl, rfl⟩]
  · rw [e15, x_sX, if_pos ⟨rfl, rfl⟩]
  · rw [e15]
    show gR S17 7 E = _
    rw [e17]
    show gR S10 7 E = _
    rw [e10, r_sR, if_pos ⟨rfl, rfl⟩]
def Ea (S1 S2 : GS) (q : Nat) : Prop := Ag (fun k j => k = q ∧ (j = 5 ∨ j = 6 ∨ j = 7 ∨ j = 8 ∨ j = 9 ∨ j = 14)) S1 S2 ∧ gX S2 q 5 = gX S1 5 4 ∧ gX S2 q 6 = gX S1 5 5 ∧ gX S2 q 7 = gX S1 5 6 ∧ gX S2 q 8 = gX S1 5 7 ∧ gX S2 q 9 = gX S1 5 8 ∧ gX S2 q 14 = gX S1 q 14 + 1
theorem q_endAsPause {S1 : GS} {q : Nat} {Q : GS → Prop} (hF : Fix S1) (hp : evP S1 q) (hQ : ∀ S2, Ea S1 S2 q → Q S2) : wX2_endAsPause S1 q 5 Q := by
  have h39 := hp.1
  refine ⟨fn_5 hF, fk_5 hF, hp.2.1, hp.2.2, fun S5 e5 S10 e10 S15 e15 S20 e20 S25 e25 S30 e30 => hQ S30 ?_⟩
  have a5 : Ag (fun k j => k = q ∧ (j = 5 ∨ j = 6 ∨ j = 7 ∨ j = 8 ∨ j = 9 ∨ j = 14)) S1 S5 := by rw [e5]; exact (Ag.rf _ _).x _ _ _ ⟨rfl, by omega⟩
  rw [a5.X 5 5 (by omega)] at e10
  have a10 : Ag (fun k j => k = q ∧ (j = 5 ∨ j = 6 ∨ j = 7 ∨ j = 8 ∨ j = 9 ∨ j = 14)) S1 S10 := by rw [e10]; exact a5.x _ _ _ ⟨rfl, by omega⟩
  rw [a10.X 5 6 (by omega)] at e15
  have a15 : Ag (fun k j => k = q ∧ (j = 5 ∨ j = 6 ∨ j = 7 ∨ j = 8 ∨ j = 9 ∨ j = 14)) S1 S15 := by rw [e15]; exact a10.x _ _ _ ⟨rfl, by omega⟩
  rw [a15.X 5 7 (by omega)] at e20
  have a20 : Ag (fun k j => k = q ∧ (j = 5 ∨ j = 6 ∨ j = 7 ∨ j = 8 ∨ j = 9 ∨ j = 14)) S1 S20 := by rw [e20]; exact a15.x _ _ _ ⟨rfl, by omega⟩
  rw [a20.X 5 8 (by omega)] at e25
  have a25 : Ag (fun k j => k = q ∧ (j = 5 ∨ j = 6 ∨ j = 7 ∨ j = 8 ∨ j = 9 ∨ j = 14)) S1 S25 := by rw [e25]; exact a20.x _ _ _ ⟨rfl, by omega⟩
  have t : gX S25 q 14 = gX S1 q 14 := by rw [e25, x_sX, if_neg (by omega), e20, x_sX, if_neg (by omega), e15, x_sX, if_neg (by omega), e10, x_sX, if_neg (by omega), e5, x_sX, if_neg (by omega)]
  rw [t] at e30
  refine ⟨by rw [e30]; exact a25.x _ _ _ ⟨rfl, by omega⟩, ?_, ?_, ?_, ?_, ?_, ?_⟩
  · rw [e30, x_sX, if_neg (by omega), e25, x_sX, if_neg (by omega), e20, x_sX, if_neg (by omega), e15, x_sX, if_neg (by omega), e10, x_sX, if_neg (by omega), e5, x_sX, if_pos ⟨rfl, rfl⟩]
  · rw [e30, x_sX, if_neg (by omega), e25, x_sX, if_neg (by omega), e20, x_sX, if_neg (by omega), e15, x_sX, if_neg (by omega), e10, x_sX, if_pos ⟨rfl, rfl⟩]
  · rw [e30, x_sX, if_neg (by omega), e25, x_sX, if_neg (by omega), e20, x_sX, if_neg (by omega), e15, x_sX, if_pos ⟨rfl, rfl⟩]
  · rw [e30, x_sX, if_neg (by omega), e25, x_sX, if_neg (by omega), e20, x_sX, if_pos ⟨rfl, rfl⟩]
  · rw [e30, x_sX, if_neg (by omega), e25, x_sX, if_pos ⟨rfl, rfl⟩]
  · rw [e30, x_sX, if_pos ⟨rfl, rfl⟩]
/-- the pause at q is added to the sums -/
def Ad (S S2 : GS) (q : Nat) : Prop := Gf (fun k j => k = 13 ∧ j = 1) (fun k j => k = 13 ∧ (j = 2 ∨ j = 3 ∨ j = 4 ∨ j = 5)) (fun k j => k = 13 ∧ j = 0) S S2 ∧ gX S2 13 1 = gX S 13 1 + 1 ∧ gZ S2 13 2 = gZ S 13 2 + (gX S q 9).toInt64 ∧ gZ S2 13 5 = (if gX S q 12 = -1 then gZ S 13 5 else gZ S 13 5 + (gX S q 13 - gX S q 12).toInt64) ∧ gR S2 13 0 = some q
  ∧ (gR S 13 0 = none → gZ S2 13 3 = gZ S 13 3 ∧ gZ S2 13 4 = gZ S 13 4) ∧ (∀ a, gR S 13 0 = some a → gZ S2 13 3 = gZ S 13 3 + (gX S q 6 - gX S a 7).toInt64 ∧ gZ S2 13 4 = gZ S 13 4 + (gX S q 3 - gX S a 5).toInt64)
theorem q_addPause {S : GS} {q : Nat} {Q : GS → Prop} (hF : Fix S) (hp : evP S q) (ha : ∀ a, gR S 13 0 = some a → evP S a) (hQ : ∀ S2, Ad S S2 q → Q S2) : wX5_addPause S 13 q Q := by
  have h39 := hp.1
  refine ⟨fn_13 hF, fk_13 hF, fun S36 e36 => ⟨by rw [e36]; exact hp.2.1, by rw [e36]; exact hp.2.2, fun S41 e41 => ?_⟩⟩
  have t0 : gX S36 q 9 = gX S q 9 := by rw [e36, x_sX, if_neg (by omega)]
  have t1 : gZ S36 13 2 = gZ S 13 2 := by rw [e36]; rfl
  rw [t0, t1] at e41
  have h51 : ∀ (S46 : GS), Gf (fun k j => k = 13 ∧ j = 1) (fun k j => k = 13 ∧ (j = 2 ∨ j = 5)) (fun _ _ => False) S S46 → gX S46 13 1 = gX S 13 1 + 1 → gZ S46 13 2 = gZ S 13 2 + (gX S q 9).toInt64 → gZ S46 13 5 = (if gX S q 12 = -1 then gZ S 13 5 else gZ S 13 5 + (gX S q 13 - gX S q 12).toInt64) → wX5_addPause_51 Q 13 q S46 := by
    intro S46 g46 b1 b2 b5
    have f46 : Fix S46 := g46.fix hF (fun _ _ a => a)
    have x46 : ∀ k j, 39 ≤ k → gX S46 k j = gX S k j := fun k j hk => g46.2.2.2.1 k j (by omega)
    have r46 : gR S46 13 0 = gR S 13 0 := g46.2.2.2.2.2 13 0 (fun a => a)
    have g46' : Gf (fun k j => k = 13 ∧ j = 1) (fun k j => k = 13 ∧ (j = 2 ∨ j = 3 ∨ j = 4 ∨ j = 5)) (fun k j => k = 13 ∧ j = 0) S S46 := g46.mono (fun _ _ a => a) (fun k j a => ⟨a.1, by omega⟩) (fun _ _ a => a.elim)
    have z3 : gZ S46 13 3 = gZ S 13 3 := g46.2.2.2.2.1 13 3 (by omega)
    have z4 : gZ S46 13 4 = gZ S 13 4 := g46.2.2.2.2.1 13 4 (by omega)
    refine ⟨fn_13 f46, fk_13 f46, fun a => ⟨fn_13 f46, fk_13 f46, fun S3 e3 => hQ S3 ?_⟩, fun q8 a => ?_⟩
    · rw [r46] at a
      refine ⟨by rw [e3]; exact g46'.r _ _ _ ⟨rfl, rfl⟩, by rw [e3]; exact b1, by rw [e3]; exact b2, by rw [e3]; exact b5, ?_, fun _ => ?_, fun c hc => by rw [a] at hc; exact absurd hc (by simp)⟩
      · rw [e3, r_sR, if_pos ⟨rfl, rfl⟩]
      · rw [e3]; exact ⟨z3, z4⟩
    · have a' : gR S 13 0 = some q8 := by rw [← r46]; exact a
      have p8 := ha q8 a'
      refine ⟨by rw [g46.1]; exact hp.2.1, by rw [g46.2.1]; exact hp.2.2, by rw [g46.1]; exact p8.2.1, by rw [g46.2.1]; exact p8.2.2, fun S14 e14 => ?_⟩
      rw [x46 q 6 h39, x46 q8 7 p8.1, z3] at e14
      refine ⟨q8, by rw [e14]; exact a, by rw [e14]; show q8 < gN S46; rw [g46.1]; exact p8.2.1, by rw [e14]; show gK S46 q8 = 2; rw [g46.2.1]; exact p8.2.2, fun S25 e25 => ?_⟩
      have t4 : gX S14 q 3 = gX S q 3 := by rw [e14]; exact x46 q 3 h39
      have t5 : gX S14 q8 5 = gX S q8 5 := by rw [e14]; exact x46 q8 5 p8.1
      have t6 : gZ S14 13 4 = gZ S 13 4 := by rw [e14, z_sZ, if_neg (by omega)]; exact z4
      rw [t4, t5, t6] at e25
      refine ⟨by rw [e25, e14]; exact fn_13 f46, by rw [e25, e14]; exact fk_13 f46, fun S3 e3 => hQ S3 ?_⟩
      have hz : ∀ j, gZ S3 13 j = if j = 4 then gZ S 13 4 + (gX S q 3 - gX S q8 5).toInt64 else if j = 3 then gZ S 13 3 + (gX S q 6 - gX S q8 7).toInt64 else gZ S46 13 j := by
        intro j
        rw [e3]
        show gZ S25 13 j = _
        rw [e25, z_sZ]
        by_cases c4 : j = 4
        · rw [if_pos ⟨rfl, c4⟩, if_pos c4]
        · rw [if_neg (fun x => c4 x.2), if_neg c4, e14, z_sZ]
          by_cases c3 : j = 3
          · rw [if_pos ⟨rfl, c3⟩, if_pos c3]
          · rw [if_neg (fun x => c3 x.2), if_neg c3]
      refine ⟨?_, by rw [e3, e25, e14]; exact b1, by rw [hz 2, if_neg (by omega), if_neg (by omega)]; exact b2, by rw [hz 5, if_neg (by omega), if_neg (by omega)]; exact b5, ?_, fun c => by rw [a'] at c; exact absurd c (by simp), fun c hc => ?_⟩
      · rw [e3, e25, e14]
        exact ((g46'.z _ _ _ ⟨rfl, by omega⟩).z _ _ _ ⟨rfl, by omega⟩).r _ _ _ ⟨rfl, rfl⟩
      · rw [e3, r_sR, if_pos ⟨rfl, rfl⟩]
      · rw [a'] at hc
        injection hc with hc
        subst hc
        exact ⟨by rw [hz 3, if_neg (by omega), if_pos rfl], by rw [hz 4, if_pos rfl]⟩
  have g41 : Gf (fun k j => k = 13 ∧ j = 1) (fun k j => k = 13 ∧ (j = 2 ∨ j = 5)) (fun _ _ => False) S S41 := by
    rw [e41, e36]
    exact ((Gf.rf _ _ _ _).x _ _ _ ⟨rfl, rfl⟩).z _ _ _ ⟨rfl, Or.inl rfl⟩
  have x12 : gX S41 q 12 = gX S q 12 := g41.2.2.2.1 q 12 (by omega)
  have x13 : gX S41 q 13 = gX S q 13 := g41.2.2.2.1 q 13 (by omega)
  have c1 : gX S41 13 1 = gX S 13 1 + 1 := by
    rw [e41]
    show gX S36 13 1 = _
    rw [e36, x_sX, if_pos ⟨rfl, rfl⟩]
  have c2 : gZ S41 13 2 = gZ S 13 2 + (gX S q 9).toInt64 := by rw [e41, z_sZ, if_pos ⟨rfl, rfl⟩]
  have c5 : gZ S41 13 5 = gZ S 13 5 := by rw [e41, z_sZ, if_neg (by omega), e36]; rfl
  rw [x12, x13, c5]
  refine ⟨fun a => h51 S41 g41 c1 c2 (by rw [if_pos a]; exact c5), fun a S46 e46 => h51 S46 ?_ ?_ ?_ ?_⟩
  · rw [e46]; exact g41.z _ _ _ ⟨rfl, Or.inr rfl⟩
  · rw [e46]; exact c1
  · rw [e46, z_sZ, if_neg (by omega)]; exact c2
  · rw [e46, z_sZ, if_pos ⟨rfl, rfl⟩, if_neg a]
