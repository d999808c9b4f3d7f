/-! A LINE THAT IS NO GOOD: the invariant stands. -/
def eL (n k j : Nat) : Prop := k = 5 ∨ k = 16 ∨ k = 18 ∨ (k = 0 ∧ j = 10) ∨ (k = 1 ∧ j = 1) ∨ (k = 12 ∧ (j = 1 ∨ j = 2)) ∨ (k = 14 ∧ (j = 1 ∨ j = 3 ∨ j = 7 ∨ j = 19 ∨ j = 32 ∨ j = 35)) ∨ ((k = 19 ∨ k = 20 ∨ k = 21 ∨ k = 22 ∨ k = 23 ∨ k = 24 ∨ k = 25 ∨ k = 26 ∨ k = 27 ∨ k = 29) ∧ j = n) ∨ (k = 28 ∧ 3 * n ≤ j ∧ j < 3 * n + 3)
def eB (n P k j : Nat) : Prop := eL n k j ∨ (k = 8 ∧ (j = 3 ∨ j = 4)) ∨ k = 9 ∨ k = 10 ∨ k = 11 ∨ (k = 14 ∧ j = 29) ∨ ((k = 34 ∨ k = 35 ∨ k = 36) ∧ j = P)
/-- S6 is S at the places of S, but for X, Z, R -/
def Fr3 (X Z R : Nat → Nat → Prop) (S S6 : GS) : Prop := gN S ≤ gN S6 ∧ (∀ k, k < gN S → gK S6 k = gK S k ∧ gL S6 k = gL S k) ∧ (∀ k j, k < gN S → ¬ X k j → gX S6 k j = gX S k j) ∧ (∀ k j, k < gN S → ¬ Z k j → gZ S6 k j = gZ S k j) ∧ (∀ k j, k < gN S → ¬ R k j → gR S6 k j = gR S k j)
theorem Fr3.tr {X Z R : Nat → Nat → Prop} {S S2 S3 : GS} (h : Fr3 X Z R S S2) (h2 : Fr3 X Z R S2 S3) : Fr3 X Z R S S3 :=
  ⟨Nat.le_trans h.1 h2.1, fun k hk => ⟨(h2.2.1 k (Nat.lt_of_lt_of_le hk h.1)).1.trans (h.2.1 k hk).1, (h2.2.1 k (Nat.lt_of_lt_of_le hk h.1)).2.trans (h.2.1 k hk).2⟩, fun k j hk a => (h2.2.2.1 k j (Nat.lt_of_lt_of_le hk h.1) a).trans (h.2.2.1 k j hk a), fun k j hk a => (h2.2.2.2.1 k j (Nat.lt_of_lt_of_le hk h.1) a).trans (h.2.2.2.1 k j hk a), fun k j hk a => (h2.2.2.2.2 k j (Nat.lt_of_lt_of_le hk h.1) a).trans (h.2.2.2.2 k j hk a)⟩
theorem Fr3.ag {P X Z R : Nat → Nat → Prop} {S S2 : GS} (h : Ag P S S2) (hp : ∀ k j, P k j → X k j) : Fr3 X Z R S S2 :=
  ⟨Nat.le_of_eq h.1.symm, fun k _ => ⟨by rw [h.2.1], by rw [h.2.2.1]⟩, fun k j _ a => h.X k j (fun b => a (hp k j b)), fun k j _ _ => by rw [h.Z], fun k j _ _ => by rw [h.R]⟩
theorem Fr3.gf {X' Z' R' X Z R : Nat → Nat → Prop} {S S2 : GS} (h : Gf X' Z' R' S S2) (hx : ∀ k j, X' k j → X k j) (hz : ∀ k j, Z' k j → Z k j) (hr : ∀ k j, R' k j → R k j) : Fr3 X Z R S S2 :=
  ⟨Nat.le_of_eq h.1.symm, fun k _ => ⟨by rw [h.2.1], by rw [h.2.2.1]⟩, fun k j _ a => h.2.2.2.1 k j (fun b => a (hx k j b)), fun k j _ a => h.2.2.2.2.1 k j (fun b => a (hz k j b)), fun k j _ a => h.2.2.2.2.2 k j (fun b => a (hr k j b))⟩
theorem Fr3.ac {X Z R : Nat → Nat → Prop} {S S1 : GS} {n : Nat} {e : Nat → Int32} (h : Ac S S1 n e) (hx : ∀ k j, (k = 5 ∨ (k = 0 ∧ j = 10) ∨ (k = 1 ∧ j = 1)) → X k j) : Fr3 X Z R S S1 :=
  ⟨by have := h.2.2.1; omega, h.2.2.2.2.1, fun k j hk a => h.2.2.2.2.2.2.2.1 k j hk (fun b => a (hx k j b)), fun k j hk _ => h.2.2.2.2.2.1 k j hk, fun k j hk _ => h.2.2.2.2.2.2.1 k j hk⟩
theorem Old.of {X Z R : Nat → Nat → Prop} {S S6 : GS} {n E : Nat} (h39 : 39 ≤ gN S) (h : Fr3 X Z R S S6) (he : ∀ k j, X k j → k < 19 ∨ k = 22 ∨ 34 ≤ k ∨ (k ≤ 27 ∧ n ≤ j) ∨ (k = 29 ∧ n ≤ j) ∨ (k = 28 ∧ 3 * n ≤ j) ∨ (30 ≤ k ∧ k ≤ 33 ∧ E ≤ j)) : Old S S6 n E := by
  refine ⟨fun k hk j hj => h.2.2.1 k j (by omega) (fun a => ?_), fun j hj => h.2.2.1 28 j (by omega) (fun a => ?_), fun k hk i hi => h.2.2.1 k i (by omega) (fun a => ?_)⟩
  · have := he k j a; omega
  · have := he 28 j a; omega
  · have := he k i a; omega
/-- the times after a line -/
def tmS (S S6 : GS) (n : Nat) : Prop := gX S6 20 n = 1 ∧ Rng S6 n ∧ gX S6 12 2 = gX S6 26 n ∧ gX S6 12 1 = (if gX S 12 1 = -1 then gX S6 26 n else gX S 12 1) ∧ (gX S 12 2).toInt ≤ (gX S6 26 n).toInt
theorem Rng.tm {S : GS} {n : Nat} (h : Rng S n) : 0 ≤ (gX S 26 n).toInt ∧ (gX S 26 n).toInt ≤ 99999999 := by
  obtain ⟨_, _, _, _, _, _, _, _, _, h⟩ := h
  exact h.2.1
theorem asm_bad {S S6 : GS} {cap n E P lg pl : Nat} {oP oM : Option Nat} {dP : Int32 × Int32} {w fa : Int32} (h : Inw S cap n E P lg pl oP oM dP) (hcap : cap < 48) (hfix : Fix S6) (hcl : closed S6) (hf : Fr3 (eB n P) (fun _ _ => False) (fun _ _ => False) S S6)
    (c10 : gX S6 0 10 = nI (n + 1)) (c11 : gX S6 1 1 = 0) (r19 : gX S6 14 19 = nI (n + 1)) (r1 : gX S6 14 1 = 0) (l19 : gX S6 19 n = nI lg) (l21 : gX S6 21 n = 0) (l22 : gX S6 22 n = 2)
    (ht : (gX S6 20 n = 0 ∧ gX S6 12 1 = gX S 12 1 ∧ gX S6 12 2 = gX S 12 2) ∨ tmS S S6 n)
    (d29 : gX S6 14 29 = nI (P + 1)) (d34 : gX S6 34 P = w) (d35 : gX S6 35 P = nI n) (d36 : gX S6 36 P = fa) (d83 : gX S6 8 3 = gX S 8 3 + 1) (d84 : gX S6 8 4 = gX S 8 4 + 1)
    (r9 : ∀ k, k < 12 → gX S6 9 k = if k = 0 then w else gX S 9 (k - 1)) (r10 : ∀ k, k < 12 → gX S6 10 k = if k = 0 then nI (n + 1) else gX S 10 (k - 1)) (r11 : ∀ k, k < 12 → gX S6 11 k = if k = 0 then fa else gX S 11 (k - 1)) : Inw S6 (cap + 1) (n + 1) E (P + 1) lg 0 oP oM dP := by
  obtain ⟨⟨hF, _⟩, i2, i3, i4, i5, i6, i7, i8, i9, i10, i11, i12⟩ := h
  have h39 := hF.1
  obtain ⟨k1, k2, k3, k4, k5, k6, k7, k8⟩ := i3
  have ho : Old S S6 n E := Old.of h39 hf (by intro k j; unfold eB eL; omega)
  have hX := hf.2.2.1
  have hK : ∀ k, k < gN S → gK S6 k = gK S k := fun k hk => (hf.2.1 k hk).1
  have hR : ∀ k j, k < gN S → gR S6 k j = gR S k j := fun k j hk => hf.2.2.2.2 k j hk (fun a => a)
  have hZ : ∀ k j, k < gN S → gZ S6 k j = gZ S k j := fun k j hk => hf.2.2.2.1 k j hk (fun a => a)
  have hx : ∀ k j, k < 39 → ¬ eB n P k j → gX S6 k j = gX S k j := fun k j hk => hX k j (by omega)
  have hq : ∀ q, 39 ≤ q → q < gN S → ∀ j, gX S6 q j = gX S q j := fun q h1 h2 j => hX q j h2 (by unfold eB eL; omega)
  have how : ∀ j, j < n → gX S6 22 j = gX S 22 j := fun j hj => hx 22 j (by omega) (by unfold eB eL; omega)
  obtain ⟨ia, ib⟩ := I11_ab.mp i11
  have hn21 : gX S6 21 n = 1 → False := fun a => by rw [l21] at a; exact absurd a (by decide)
  refine ⟨⟨hfix, hcl⟩, ⟨Nat.zero_le _, c11, r1, fun i => ?_⟩, ⟨by omega, by omega, by omega, by omega, by omega, c10, r19, ?_⟩, ?_, ?_, ?_, ?_, ?_, ?_, ?_, ?_, ?_⟩
  · rw [hx 2 i (by omega) (by unfold eB eL; omega), hx 15 i (by omega) (by unfold eB eL; omega)]
    exact i2.2.2.2 i
  · rw [hx 14 20 (by omega) (by unfold eB eL; omega)]; exact k8
  · refine I4.nx i4 ho (fun j hj => by rw [how j hj]; exact (i4 j hj).2.2.2.2.2) l19 ?_ (Or.inl l21) (fun a => absurd a hn21) ?_ (Or.inr (Or.inr l22))
    · rcases ht with a | a
      · exact Or.inl a.1
      · exact Or.inr a.1
    · rcases ht with a | a
      · intro b; rw [a.1] at b; exact absurd b (by decide)
      · intro _; exact a.2.1
  · exact I5.nx i5 (by omega) d29 d34 d35 d36 (fun k hk j hj => hx k j (by omega) (by unfold eB eL; omega)) d83 r9 r10 r11
  · exact I6.nx i6 (by omega) ho hf.1 hK (hx 6 1 (by omega) (by unfold eB eL; omega)) (hx 14 25 (by omega) (by unfold eB eL; omega)) (fun i _ => hR 7 i (by omega)) (fun i q hi hq1 => by
      obtain ⟨q', e1, e2, _⟩ := i6.2.2 i hi
      rw [hq1] at e1
      injection e1 with e1
      subst e1
      exact hq q e2.1 e2.2.1)
  · exact I7.nx i7 (by omega) ho hf.1 hK (hR 0 7 (by omega)) (hx 14 30 (by omega) (by unfold eB eL; omega)) how (fun i _ => hR 7 i (by omega)) (fun q _ hp => hq q hp.1 hp.2.1) (fun a => absurd a hn21)
  · exact I8.nx i8 ho hf.1 hK (hR 0 8 (by omega)) (hx 14 31 (by omega) (by unfold eB eL; omega)) (fun j hj _ => how j hj) (fun i _ => hR 7 i (by omega)) (fun q _ hp _ => hq q hp.1 hp.2.1)
  · exact I9.nx i9 i6 (by omega) ho (hx 13 1 (by omega) (by unfold eB eL; omega)) (fun j => hZ 13 j (by omega)) (hR 13 0 (by omega)) (fun i _ => hR 7 i (by omega))
  · rcases ht with a | a
    · exact I10.no i10 ho (hZ 12 0 (by omega)) a.2.1 a.2.2 a.1
    · exact I10.yes i10 ho (hZ 12 0 (by omega)) a.2.2.2.1 a.2.2.1 a.1 l19 rfl a.2.1.tm a.2.2.2.2
  · refine I11_ab.mpr ⟨?_, I1b.no ib ho (hx 0 9 (by omega) (by unfold eB eL; omega)) (fun a => absurd a hn21)⟩
    rcases ht with a | a
    · exact I1a.no ia ho a.2.2 a.1
    · exact I1a.yes ia ho a.2.2.1 a.1 l19 rfl a.2.2.2.2
  · exact I12.bad i12 how l22 (hx 0 11 (by omega) (by unfold eB eL; omega)) d84
