/-! STEPS OF THE CLASS'S LINE. -/
def Gf (X Z R : Nat → Nat → Prop) (S S2 : GS) : Prop := gN S2 = gN S ∧ gK S2 = gK S ∧ gL S2 = gL S ∧ (∀ k j, ¬ X k j → gX S2 k j = gX S k j) ∧ (∀ k j, ¬ Z k j → gZ S2 k j = gZ S k j) ∧ (∀ k j, ¬ R k j → gR S2 k j = gR S k j)
theorem Gf.rf (X Z R : Nat → Nat → Prop) (S : GS) : Gf X Z R S S := ⟨rfl, rfl, rfl, fun _ _ _ => rfl, fun _ _ _ => rfl, fun _ _ _ => rfl⟩
theorem Gf.tr {X Z R : Nat → Nat → Prop} {S S2 S3 : GS} (h : Gf X Z R S S2) (h2 : Gf X Z R S2 S3) : Gf X Z R S S3 :=
  ⟨h2.1.trans h.1, h2.2.1.trans h.2.1, h2.2.2.1.trans h.2.2.1, fun k j a => (h2.2.2.2.1 k j a).trans (h.2.2.2.1 k j a), fun k j a => (h2.2.2.2.2.1 k j a).trans (h.2.2.2.2.1 k j a), fun k j a => (h2.2.2.2.2.2 k j a).trans (h.2.2.2.2.2 k j a)⟩
theorem Gf.mono {X Z R X' Z' R' : Nat → Nat → Prop} {S S2 : GS} (h : Gf X Z R S S2) (hx : ∀ k j, X k j → X' k j) (hz : ∀ k j, Z k j → Z' k j) (hr : ∀ k j, R k j → R' k j) : Gf X' Z' R' S S2 :=
  ⟨h.1, h.2.1, h.2.2.1, fun k j a => h.2.2.2.1 k j (fun b => a (hx k j b)), fun k j a => h.2.2.2.2.1 k j (fun b => a (hz k j b)), fun k j a => h.2.2.2.2.2 k j (fun b => a (hr k j b))⟩
theorem Gf.x {X Z R : Nat → Nat → Prop} {S S2 : GS} (h : Gf X Z R S S2) (k j : Nat) (v : Int32) (hp : X k j) : Gf X Z R S (sX S2 k j v) := by
  refine h.tr ⟨rfl, rfl, rfl, fun a i hn => ?_, fun _ _ _ => rfl, fun _ _ _ => rfl⟩
  rw [x_sX, if_neg]
  intro c
  rw [c.1, c.2] at hn
  exact hn hp
theorem Gf.z {X Z R : Nat → Nat → Prop} {S S2 : GS} (h : Gf X Z R S S2) (k j : Nat) (v : Int64) (hp : Z k j) : Gf X Z R S (sZ S2 k j v) := by
  refine h.tr ⟨rfl, rfl, rfl, fun _ _ _ => rfl, fun a i hn => ?_, fun _ _ _ => rfl⟩
  rw [z_sZ, if_neg]
  intro c
  rw [c.1, c.2] at hn
  exact hn hp
theorem Gf.r {X Z R : Nat → Nat → Prop} {S S2 : GS} (h : Gf X Z R S S2) (k j : Nat) (v : Option Nat) (hp : R k j) : Gf X Z R S (sR S2 k j v) := by
  refine h.tr ⟨rfl, rfl, rfl, fun _ _ _ => rfl, fun _ _ _ => rfl, fun a i hn => ?_⟩
  rw [r_sR, if_neg]
  intro c
  rw [c.1, c.2] at hn
  exact hn hp
theorem Gf.ag {P X Z R : Nat → Nat → Prop} {S S2 : GS} (h : Ag P S S2) (hp : ∀ k j, P k j → X k j) : Gf X Z R S S2 :=
  ⟨h.1, h.2.1, h.2.2.1, fun k j a => h.X k j (fun b => a (hp k j b)), fun k j _ => by rw [h.Z], fun k j _ => by rw [h.R]⟩
theorem Gf.fix {X Z R : Nat → Nat → Prop} {S S2 : GS} (h : Gf X Z R S S2) (hF : Fix S) (hr : ∀ t ∈ fR, ¬ R t.1 t.2.1) : Fix S2 := by
  refine ⟨by rw [h.1]; exact hF.1, fun k hk => by rw [h.2.1, h.2.2.1]; exact hF.2.1 k hk, fun t ht => ?_⟩
  rw [h.2.2.2.2.2 _ _ (hr t ht)]
  exact hF.2.2 t ht
def pDg (k j : Nat) : Prop := k = 9 ∨ k = 10 ∨ k = 11 ∨ (k = 8 ∧ (j = 3 ∨ j = 4))
/-- one diagnostic more at 0 -/
def Da (S S2 : GS) (num ln fa m : Int32) : Prop := Ag pDg S S2 ∧ gX S2 8 3 = gX S 8 3 + 1 ∧ gX S2 8 4 = gX S 8 4 + m ∧ (∀ k, k < 12 → gX S2 9 k = if k = 0 then num else gX S 9 (k - 1)) ∧ (∀ k, k < 12 → gX S2 10 k = if k = 0 then ln else gX S 10 (k - 1)) ∧ (∀ k, k < 12 → gX S2 11 k = if k = 0 then fa else gX S 11 (k - 1))
def Di (S S2 : GS) (i : Nat) : Prop := Ag pDg S S2 ∧ gX S2 8 3 = gX S 8 3 ∧ gX S2 8 4 = gX S 8 4 ∧ (∀ a, (a = 9 ∨ a = 10 ∨ a = 11) → ∀ k, k < 12 → gX S2 a k = if k ≤ i then gX S a k else gX S a (k - 1))
theorem nj_pred (i : Nat) : nI (i + 1) + (-1) = nI i := by
  rw [← nj_succ, Int32.add_assoc]
  have : (1 : Int32) + -1 = 0 := by decide
  rw [this, Int32.add_zero]
theorem nj_pred1 (i : Nat) : nI (i + 1) - 1 = nI i := by
  have : nI (i + 1) - nI 1 = nI (i + 1 - 1) := nj_sub (by omega)
  exact this
theorem q_dadd4 {S : GS} {num ln fa m : Int32} {Q : GS → Prop} (hF : Fix S) (hQ : ∀ S2, Da S S2 num ln fa m → Q S2) : ∀ (i : Nat) (S2 : GS), i ≤ 11 → Di S S2 i → wX0_add_4 Q 8 (i + 1) num ln fa m (nI i) S2 := by
  have v0 : vp_in 0 12 := by unfold vp_in; decide
  have c0 : Int32.toNatClampNeg 0 = 0 := by decide
  intro i
  induction i with
  | zero =>
    intro S2 _ h
    obtain ⟨h1, h2, h3, h4⟩ := h
    have f2 : Fix S2 := hF.ag h1
    unfold wX0_add_4
    refine ⟨fun _ => ⟨fn_8 f2, fk_8 f2, 9, fr_8_0 f2, fn_9 f2, fk_9 f2, by rw [fl_9 f2]; exact v0, fun S8 e8 => ?_⟩, fun a => absurd (by decide) a⟩
    rw [c0] at e8
    have f8 : Fix S8 := by rw [e8]; exact f2.x _ _ _
    refine ⟨10, fr_8_1 f8, fn_10 f8, fk_10 f8, by rw [fl_10 f8]; exact v0, fun S18 e18 => ?_⟩
    rw [c0] at e18
    have f18 : Fix S18 := by rw [e18]; exact f8.x _ _ _
    refine ⟨11, fr_8_2 f18, fn_11 f18, fk_11 f18, by rw [fl_11 f18]; exact v0, fun S30 e30 S39 e39 S48 e48 => hQ S48 ?_⟩
    rw [c0] at e30
    refine ⟨?_, ?_, ?_, ?_, ?_, ?_⟩
    · rw [e48, e39, e30, e18, e8]
      exact ((((h1.x _ _ _ (Or.inl rfl)).x _ _ _ (Or.inr (Or.inl rfl))).x _ _ _ (Or.inr (Or.inr (Or.inl rfl)))).x _ _ _ (Or.inr (Or.inr (Or.inr ⟨rfl, Or.inl rfl⟩)))).x _ _ _ (Or.inr (Or.inr (Or.inr ⟨rfl, Or.inr rfl⟩)))
    · rw [e48, x_sX, if_neg (by omega), e39, x_sX, if_pos ⟨rfl, rfl⟩, e30, x_sX, if_neg (by omega), e18, x_sX, if_neg (by omega), e8, x_sX, if_neg (by omega), h2]
    · rw [e48, x_sX, if_pos ⟨rfl, rfl⟩, e39, x_sX, if_neg (by omega), e30, x_sX, if_neg (by omega), e18, x_sX, if_neg (by omega), e8, x_sX, if_neg (by omega), h3]
    · intro k hk
      rw [e48, x_sX, if_neg (by omega), e39, x_sX, if_neg (by omega), e30, x_sX, if_neg (by omega), e18, x_sX, if_neg (by omega), e8, x_sX]
      by_cases e : k = 0
      · rw [if_pos ⟨rfl, e⟩, if_pos e]
      · rw [if_neg (fun a => e a.2), if_neg e, h4 9 (Or.inl rfl) k hk, if_neg (by omega)]
    · intro k hk
      rw [e48, x_sX, if_neg (by omega), e39, x_sX, if_neg (by omega), e30, x_sX, if_neg (by omega), e18, x_sX]
      by_cases e : k = 0
      · rw [if_pos ⟨rfl, e⟩, if_pos e]
      · rw [if_neg (fun a => e a.2), if_neg e, e8, x_sX, if_neg (by omega), h4 10 (by omega) k hk, if_neg (by omega)]
    · intro k hk
      rw [e48, x_sX, if_neg (by omega), e39, x_sX, if_neg (by omega), e30, x_sX]
      by_cases e : k = 0
      · rw [if_pos ⟨rfl, e⟩, if_pos e]
      · rw [if_neg (fun a => e a.2), if_neg e, e18, x_sX, if_neg (by omega), e8, x_sX, if_neg (by omega), h4 11 (by omega) k hk, if_neg (by omega)]
  | succ i ih =>
    intro S2 hi h
    obtain ⟨h1, h2, h3, h4⟩ := h
    have f2 : Fix S2 := hF.ag h1
    have v1 := nj_in (n := 12) (show i < 12 by omega) (by omega)
    have v2 := nj_in (n := 12) (show i + 1 < 12 by omega) (by omega)
    have c1 := nj_clamp (show i < 2147483648 by omega)
    have c2 := nj_clamp (show i + 1 < 2147483648 by omega)
    have hx : ¬ nI (i + 1) ≤ 0 := by
      have := @nj_le (i + 1) 0 (by omega) (by omega)
      intro a
      exact absurd (this.mp a) (by omega)
    unfold wX0_add_4
    rw [nj_pred, nj_pred1, c1, c2]
    refine ⟨fun a => absurd a hx, fun _ => ⟨fn_8 f2, fk_8 f2, 9, fr_8_0 f2, fn_9 f2, fk_9 f2, by rw [fl_9 f2]; exact v1, by rw [fl_9 f2]; exact v2, fun S65 e65 => ?_⟩⟩
    have f65 : Fix S65 := by rw [e65]; exact f2.x _ _ _
    refine ⟨10, fr_8_1 f65, fn_10 f65, fk_10 f65, by rw [fl_10 f65]; exact v1, by rw [fl_10 f65]; exact v2, fun S76 e76 => ?_⟩
    have f76 : Fix S76 := by rw [e76]; exact f65.x _ _ _
    refine ⟨11, fr_8_2 f76, fn_11 f76, fk_11 f76, by rw [fl_11 f76]; exact v1, by rw [fl_11 f76]; exact v2, fun S89 e89 => ih S89 (by omega) ?_⟩
    have g9 : gX S2 9 i = gX S 9 i := by rw [h4 9 (Or.inl rfl) i (by omega), if_pos (by omega)]
    have g10 : gX S65 10 i = gX S 10 i := by rw [e65, x_sX, if_neg (by omega), h4 10 (by omega) i (by omega), if_pos (by omega)]
    have g11 : gX S76 11 i = gX S 11 i := by rw [e76, x_sX, if_neg (by omega), e65, x_sX, if_neg (by omega), h4 11 (by omega) i (by omega), if_pos (by omega)]
    rw [g9] at e65
    rw [g10] at e76
    rw [g11] at e89
    refine ⟨?_, ?_, ?_, ?_⟩
    · rw [e89, e76, e65]
      exact ((h1.x _ _ _ (Or.inl rfl)).x _ _ _ (Or.inr (Or.inl rfl))).x _ _ _ (Or.inr (Or.inr (Or.inl rfl)))
    · rw [e89, x_sX, if_neg (by omega), e76, x_sX, if_neg (by omega), e65, x_sX, if_neg (by omega)]; exact h2
    · rw [e89, x_sX, if_neg (by omega), e76, x_sX, if_neg (by omega), e65, x_sX, if_neg (by omega)]; exact h3
    · intro a ha k hk
      have hsh : ∀ b, b = 9 ∨ b = 10 ∨ b = 11 → gX S89 b k = if k = i + 1 then gX S b i else gX S2 b k := by
        intro b hb
        rcases hb with z | z | z <;> subst z
        · rw [e89, x_sX, if_neg (by omega), e76, x_sX, if_neg (by omega), e65, x_sX]
          by_cases e : k = i + 1
          · rw [if_pos ⟨rfl, e⟩, if_pos e]
          · rw [if_neg (fun c => e c.2), if_neg e]
        · rw [e89, x_sX, if_neg (by omega), e76, x_sX]
          by_cases e : k = i + 1
          · rw [if_pos ⟨rfl, e⟩, if_pos e]
          · rw [if_neg (fun c => e c.2), if_neg e, e65, x_sX, if_neg (by omega)]
        · rw [e89, x_sX]
          by_cases e : k = i + 1
          · rw [if_pos ⟨rfl, e⟩, if_pos e]
          · rw [if_neg (fun c => e c.2), if_neg e, e76, x_sX, if_neg (by omega), e65, x_sX, if_neg (by omega)]
      rw [hsh a ha, h4 a ha k hk]
      by_cases e : k = i + 1
      · rw [if_pos e, if_neg (by omega), e]; rfl
      · rw [if_neg e]
        by_cases e2 : k ≤ i
        · rw [if_pos (by omega), if_pos e2]
        · rw [if_neg (by omega), if_neg e2]
theorem q_dadd {S : GS} {num ln fa m : Int32} {Q : GS → Prop} (hF : Fix S) (hQ : ∀ S2, Da S S2 num ln fa m → Q S2) : wX0_add S 8 num ln fa m Q := by
  refine ⟨12, ?_⟩
  have : (11 : Int32) = nI 11 := by decide
  rw [this]
  refine q_dadd4 hF hQ 11 S (by omega) ⟨Ag.rf _ _, rfl, rfl, fun a _ k hk => ?_⟩
  rw [if_pos (by omega)]
def pSe (k j : Nat) : Prop := k = 12 ∧ (j = 1 ∨ j = 2)
theorem q_see {S : GS} {x : Int32} {Q : GS → Prop} (hF : Fix S) (hQ : ∀ S2, Ag pSe S S2 → gX S2 12 2 = x → gX S2 12 1 = (if gX S 12 1 = -1 then x else gX S 12 1) → Q S2) : wX7_see S 12 x Q := by
  refine ⟨fn_12 hF, fk_12 hF, fun a => ⟨fn_12 hF, fk_12 hF, fun S3 e3 => hQ S3 ?_ ?_ ?_⟩, fun a S8 e8 => ?_⟩
  · rw [e3]; exact (Ag.rf _ _).x _ _ _ ⟨rfl, Or.inr rfl⟩
  · rw [e3, x_sX, if_pos ⟨rfl, rfl⟩]
  · rw [e3, x_sX, if_neg (by omega), if_neg a]
  · have f8 : Fix S8 := by rw [e8]; exact hF.x _ _ _
    refine ⟨fn_12 f8, fk_12 f8, fun S3 e3 => hQ S3 ?_ ?_ ?_⟩
    · rw [e3, e8]; exact ((Ag.rf _ _).x _ _ _ ⟨rfl, Or.inl rfl⟩).x _ _ _ ⟨rfl, Or.inr rfl⟩
    · rw [e3, x_sX, if_pos ⟨rfl, rfl⟩]
    · rw [e3, x_sX, if_neg (by omega), e8, x_sX, if_pos ⟨rfl, rfl⟩, if_pos a]
