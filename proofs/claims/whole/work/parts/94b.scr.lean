/-! WHAT LEAVES THE INVARIANT ALONE: the pad (told anew) and what is used by one call alone. -/
def scP (k j : Nat) : Prop := k = 2 ∨ k = 4 ∨ k = 5 ∨ k = 15 ∨ k = 16 ∨ k = 17 ∨ k = 18 ∨ (k = 1 ∧ j = 1) ∨ (k = 3 ∧ j = 1) ∨ (k = 14 ∧ (j = 1 ∨ j = 3 ∨ j = 5 ∨ j = 7 ∨ j = 32 ∨ j = 35))
def Sc (S S2 : GS) : Prop := gN S2 = gN S ∧ gK S2 = gK S ∧ gL S2 = gL S ∧ gR S2 = gR S ∧ (∀ k j, ¬ scP k j → gX S2 k j = gX S k j) ∧ (∀ k j, k ≠ 14 → k ≠ 37 → gZ S2 k j = gZ S k j)
theorem Sc.rf (S : GS) : Sc S S := ⟨rfl, rfl, rfl, rfl, fun _ _ _ => rfl, fun _ _ _ _ => rfl⟩
theorem Sc.tr {S S2 S3 : GS} (h : Sc S S2) (h2 : Sc S2 S3) : Sc S S3 := ⟨h2.1.trans h.1, h2.2.1.trans h.2.1, h2.2.2.1.trans h.2.2.1, h2.2.2.2.1.trans h.2.2.2.1, fun k j a => (h2.2.2.2.2.1 k j a).trans (h.2.2.2.2.1 k j a), fun k j a b => (h2.2.2.2.2.2 k j a b).trans (h.2.2.2.2.2 k j a b)⟩
theorem Sc.ag {P : Nat → Nat → Prop} {S S2 : GS} (h : Ag P S S2) (hp : ∀ k j, P k j → scP k j) : Sc S S2 := ⟨h.1, h.2.1, h.2.2.1, h.R, fun k j a => h.X k j (fun b => a (hp k j b)), fun k j _ _ => by rw [h.Z]⟩
theorem Sc.x {S S2 : GS} (h : Sc S S2) (k j : Nat) (v : Int32) (hp : scP k j) : Sc S (sX S2 k j v) := h.tr (Sc.ag ((Ag.rf (fun a i => a = k ∧ i = j) S2).x k j v ⟨rfl, rfl⟩) (fun a i e => by rw [e.1, e.2]; exact hp))
theorem Sc.z {S S2 : GS} (h : Sc S S2) (k j : Nat) (v : Int64) (hp : k = 14 ∨ k = 37) : Sc S (sZ S2 k j v) := h.tr ⟨rfl, rfl, rfl, rfl, fun _ _ _ => rfl, fun a i h1 h2 => by rw [z_sZ, if_neg (by omega)]⟩
theorem Sc.f {S S2 : GS} (h : Sc S S2) (k j : Nat) (v : UInt64) : Sc S (sF S2 k j v) := h.tr ⟨rfl, rfl, rfl, rfl, fun _ _ _ => rfl, fun _ _ _ _ => rfl⟩
theorem Sc.row {S S2 : GS} (h : Sc S S2) (k : Nat) (hk : ∀ j, ¬ scP k j) : gX S2 k = gX S k := funext (fun j => h.2.2.2.2.1 k j (hk j))
theorem Sc.fix {S S2 : GS} (h : Sc S S2) (hF : Fix S) : Fix S2 := by
  unfold Fix
  rw [h.1, h.2.1, h.2.2.1, h.2.2.2.1]
  exact hF
theorem Sc.old {S S2 : GS} (h : Sc S S2) (n E : Nat) : Old S S2 n E := ⟨fun k hk j _ => h.2.2.2.2.1 k j (by unfold scP; omega), fun j _ => h.2.2.2.2.1 28 j (by unfold scP; omega), fun k hk i _ => h.2.2.2.2.1 k i (by unfold scP; omega)⟩
theorem Sc.q {S S2 : GS} (h : Sc S S2) {q : Nat} (hq : 39 ≤ q) : gX S2 q = gX S q := h.row q (by intro j; unfold scP; omega)
theorem Inw.sc {S S2 : GS} {cap cap' n E P lg pl pl' : Nat} {oP oM : Option Nat} {dP : Int32 × Int32} (h : Inw S cap n E P lg pl oP oM dP) (hs : Sc S S2) (h2 : I2 S2 pl') (hc : cap ≤ cap') (hc2 : cap' ≤ 48) : Inw S2 cap' n E P lg pl' oP oM dP := by
  obtain ⟨⟨hF, hcl⟩, i2, i3, i4, i5, i6, i7, i8, i9, i10, i11, i12⟩ := h
  obtain ⟨k1, k2, k3, k4, k5, k6, k7, k8⟩ := i3
  have ho := hs.old n E
  have hidx := i6.idx
  have hR := hs.2.2.2.1
  have hX := hs.2.2.2.2.1
  have hZ := hs.2.2.2.2.2
  have r19 := hs.row 19 (by intro j; unfold scP; omega)
  have r20 := hs.row 20 (by intro j; unfold scP; omega)
  have r21 := hs.row 21 (by intro j; unfold scP; omega)
  have r22 := hs.row 22 (by intro j; unfold scP; omega)
  have r23 := hs.row 23 (by intro j; unfold scP; omega)
  have r24 := hs.row 24 (by intro j; unfold scP; omega)
  have r25 := hs.row 25 (by intro j; unfold scP; omega)
  have r26 := hs.row 26 (by intro j; unfold scP; omega)
  have r27 := hs.row 27 (by intro j; unfold scP; omega)
  have r28 := hs.row 28 (by intro j; unfold scP; omega)
  have r29 := hs.row 29 (by intro j; unfold scP; omega)
  have r31 := hs.row 31 (by intro j; unfold scP; omega)
  have r34 := hs.row 34 (by intro j; unfold scP; omega)
  have r35 := hs.row 35 (by intro j; unfold scP; omega)
  have r36 := hs.row 36 (by intro j; unfold scP; omega)
  have r9 := hs.row 9 (by intro j; unfold scP; omega)
  have r10 := hs.row 10 (by intro j; unfold scP; omega)
  have r11 := hs.row 11 (by intro j; unfold scP; omega)
  have r12 := hs.row 12 (by intro j; unfold scP; omega)
  have r0 := hs.row 0 (by intro j; unfold scP; omega)
  have r8 := hs.row 8 (by intro j; unfold scP; omega)
  have hev : ∀ q, evP S q → evP S2 q := fun q z => by unfold evP; rw [hs.1, hs.2.1]; exact z
  refine ⟨⟨hs.fix hF, ?_⟩, h2, ⟨hc2, by omega, by omega, by omega, k5, ?_, ?_, ?_⟩, ?_, ?_, ?_, ?_, ?_, ?_, ?_, ?_, ?_⟩
  · unfold closed; rw [hs.1, hR]; exact hcl
  · rw [r0]; exact k6
  · rw [hX 14 19 (by unfold scP; omega)]; exact k7
  · rw [hX 14 20 (by unfold scP; omega)]; exact k8
  · exact I4.old ho (fun j hj => by rw [r22]; exact (i4 j hj).2.2.2.2.2) i4
  · unfold I5; rw [hX 14 29 (by unfold scP; omega), r8, r9, r10, r11, r34, r35, r36]; exact i5
  · refine ⟨by rw [hX 6 1 (by unfold scP; omega)]; exact i6.1, by rw [hX 14 25 (by unfold scP; omega)]; exact i6.2.1, fun i hi => ?_⟩
    obtain ⟨q, e1, e2, e3⟩ := i6.2.2 i hi
    exact ⟨q, by rw [hR]; exact e1, hev q e2, e3.old ho (Nat.le_refl _) (by omega) hi (fun j => by rw [hs.q e2.1])⟩
  · cases oP with
    | none =>
      obtain ⟨a, b⟩ : gR S 0 7 = none ∧ gX S 14 30 = -1 := i7
      exact ⟨by rw [hR]; exact a, by rw [hX 14 30 (by unfold scP; omega)]; exact b⟩
    | some q =>
      obtain ⟨a, ⟨b, hb⟩, c⟩ : gR S 0 7 = some q ∧ (∃ b, OpP S n q b dP.1 dP.2) ∧ ∀ i, i < E → gR S 7 i ≠ some q := i7
      refine ⟨by rw [hR]; exact a, ⟨b, ?_⟩, fun i hi => by rw [hR]; exact c i hi⟩
      have hp := hb.1
      unfold OpP at hb ⊢
      unfold Ln at hb ⊢
      rw [r21, r22, r23, r24, r25, r26, r27, r28, hs.q hp.1, hX 14 30 (by unfold scP; omega)]
      exact ⟨hev q hp, hb.2⟩
  · cases oM with
    | none =>
      obtain ⟨a, b⟩ : gR S 0 8 = none ∧ gX S 14 31 = -1 := i8
      exact ⟨by rw [hR]; exact a, by rw [hX 14 31 (by unfold scP; omega)]; exact b⟩
    | some q =>
      obtain ⟨a, ⟨b, hb⟩, c, d⟩ : gR S 0 8 = some q ∧ (∃ b, OpM S n q b) ∧ (∀ i, i < E → gR S 7 i ≠ some q) ∧ oP ≠ some q := i8
      refine ⟨by rw [hR]; exact a, ⟨b, ?_⟩, fun i hi => by rw [hR]; exact c i hi, d⟩
      have hp := hb.1
      unfold OpM at hb ⊢
      rw [r21, r22, r23, r26, r27, hs.q hp.1, hX 14 31 (by unfold scP; omega)]
      exact ⟨hev q hp, hb.2⟩
  · obtain ⟨a1, a2, a3, a4, a5, a6⟩ := i9
    refine ⟨?_, ?_, ?_, ?_, ?_, ?_⟩
    · rw [hX 13 1 (by unfold scP; omega), r23, r31]; exact a1
    · rw [hZ 13 2 (by omega) (by omega), sumT_old ho hidx (by omega) E (Nat.le_refl _)]; exact a2
    · rw [hZ 13 5 (by omega) (by omega), sumO_old ho hidx (by omega) E (Nat.le_refl _)]; exact a3
    · rw [hZ 13 3 (by omega) (by omega), sumA_old ho hidx (by omega) E (Nat.le_refl _)]; exact a4
    · rw [hZ 13 4 (by omega) (by omega), sumB_old ho hidx (by omega) E (Nat.le_refl _)]; exact a5
    · rw [hR, ahd_old ho hidx (by omega) _ E (Nat.le_refl _)]; exact a6
  · unfold I10; rw [hZ 12 0 (by omega) (by omega), r12, r19, r26, spn_old ho n (Nat.le_refl _)]; exact i10
  · unfold I11; rw [r0, r12, r19, r20, r21, r23, r26, r27]; exact i11
  · unfold I12; rw [r0, r8, r22]; exact i12
theorem I2.sc {S S2 : GS} {pl : Nat} (h : I2 S pl) (h1 : gX S2 1 1 = gX S 1 1) (h14 : gX S2 14 1 = gX S 14 1) (h2 : ∀ i, gX S2 2 i = gX S 2 i) (h15 : ∀ i, gX S2 15 i = gX S 15 i) : I2 S2 pl := ⟨h.1, by rw [h1]; exact h.2.1, by rw [h14]; exact h.2.2.1, fun i => by rw [h2, h15]; exact h.2.2.2 i⟩
/-- S1' is S1 but for what the law keeps of an answer -/
def Oa (S1 S1' : GS) : Prop := S1' = S1 ∨ (∃ v, S1' = sZ S1 37 0 v) ∨ (∃ v, S1' = sF S1 38 0 v)
theorem Oa.sc {S1 S1' : GS} (h : Oa S1 S1') : Sc S1 S1' := by
  rcases h with e | ⟨v, e⟩ | ⟨v, e⟩
  · rw [e]; exact Sc.rf _
  · rw [e]; exact (Sc.rf _).z _ _ _ (Or.inr rfl)
  · rw [e]; exact (Sc.rf _).f _ _ _
theorem Oa.X {S1 S1' : GS} (h : Oa S1 S1') : gX S1' = gX S1 := by
  rcases h with e | ⟨v, e⟩ | ⟨v, e⟩ <;> rw [e] <;> rfl
/-- the reference's part of a call: what was thrown is k, what the law kept stands, and the invariant -/
def Rq (S1' S2 : GS) (k cap : Nat) : Prop := gX S2 14 32 = nI k ∧ (gZ S2 37 = gZ S1' 37) ∧ (gF S2 = gF S1') ∧ Inv S2 (cap + 1)
