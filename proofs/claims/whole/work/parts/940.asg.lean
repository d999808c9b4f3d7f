/-! A LINE THAT IS TAKEN: begun, or a part. -/
def eG (n k j : Nat) : Prop := eL n k j ∨ (k = 0 ∧ j = 9) ∨ (k = 14 ∧ (j = 30 ∨ j = 31))
theorem asm_begP {S S6 : GS} {cap n E P lg pl q : Nat} {oM : Option Nat} {dP : Int32 × Int32} (h : Inw S cap n E P lg pl none oM dP) (hcap : cap < 48) (hfix : Fix S6) (hcl : closed S6) (hf : Fr3 (eG n) (fun _ _ => False) (fun k j => k = 0 ∧ j = 7) S S6)
    (c10 : gX S6 0 10 = nI (n + 1)) (c11 : gX S6 1 1 = 0) (r19 : gX S6 14 19 = nI (n + 1)) (r1 : gX S6 14 1 = 0) (l19 : gX S6 19 n = nI lg) (l21 : gX S6 21 n = 1) (l22 : gX S6 22 n = 0) (l23 : gX S6 23 n = 0) (ht : tmS S S6 n) (rsl : gX S6 14 30 = nI n) (rot : gX S6 14 31 = gX S 14 31) (c9 : gX S6 0 9 = gX S6 27 n) (hid : (gX S 0 9).toInt ≤ (gX S6 27 n).toInt)
    (hqN : gN S ≤ q) (hp : evP S6 q) (hrq : gR S6 0 7 = some q) (f0 : gX S6 q 0 = nI (n + 1)) (f1 : gX S6 q 1 = gX S6 27 n) (f2 : gX S6 q 2 = gX S6 25 n) (f3 : gX S6 q 3 = gX S6 26 n) (f4 : gX S6 q 4 = gX S6 24 n) (f6 : gX S6 q 6 = -1) (f7 : gX S6 q 7 = -1) (f8 : gX S6 q 8 = -1) (f10 : gX S6 q 10 = -1) (f11 : gX S6 q 11 = -1) (f12 : gX S6 q 12 = -1) (f13 : gX S6 q 13 = -1) (f14 : gX S6 q 14 = 1) : Inw S6 (cap + 1) (n + 1) E P lg 0 (some q) oM (-1, -1) := by
  obtain ⟨⟨hF, _⟩, i2, i3, i4, i5, i6, i7, i8, i9, i10, i11, i12⟩ := h
  have h39 := hF.1
  obtain ⟨k1, k2, k3, k4, k5, k6, k7, k8⟩ := i3
  have ho : Old S S6 n E := Old.of h39 hf (by intro k j; unfold eG eL; omega)
  have hX := hf.2.2.1
  have hK : ∀ k, k < gN S → gK S6 k = gK S k := fun k hk => (hf.2.1 k hk).1
  have hZ : ∀ k j, k < gN S → gZ S6 k j = gZ S k j := fun k j hk => hf.2.2.2.1 k j hk (fun a => a)
  have hx : ∀ k j, k < 39 → ¬ (eG n k j) → gX S6 k j = gX S k j := fun k j hk => hX k j (by omega)
  have how : ∀ j, j < n → gX S6 22 j = gX S 22 j := fun j hj => hx 22 j (by omega) (by unfold eG eL; omega)
  obtain ⟨ia, ib⟩ := I11_ab.mp i11
  obtain ⟨t1, t2, t3, t4, t5⟩ := ht
  have hR : ∀ k j, k < gN S → ¬ (k = 0 ∧ j = 7) → gR S6 k j = gR S k j := fun k j hk => hf.2.2.2.2 k j hk
  have hq : ∀ q', 39 ≤ q' → q' < gN S → ∀ j, gX S6 q' j = gX S q' j := fun q' h1 h2 j => hX q' j h2 (by unfold eG eL; omega)
  have hnq : ∀ i, i < E → gR S6 7 i ≠ some q := by
    intro i hi a
    rw [hR 7 i (by omega) (by omega)] at a
    obtain ⟨q', e1, e2, _⟩ := i6.2.2 i hi
    rw [a] at e1
    injection e1 with e1
    have := e2.2.1
    omega
  refine ⟨⟨hfix, hcl⟩, ⟨Nat.zero_le _, c11, r1, fun i => ?_⟩, ⟨by omega, by omega, by omega, by omega, ?_, c10, r19, ?_⟩, ?_, ?_, ?_, ?_, ?_, ?_, ?_, ?_, ?_⟩
  · rw [hx 2 i (by omega) (by unfold eG eL; omega), hx 15 i (by omega) (by unfold eG eL; omega)]
    exact i2.2.2.2 i
  · simp only [oc] at k5 ⊢; omega
  · rw [hx 14 20 (by omega) (by unfold eG eL; omega)]; exact k8
  · exact I4.nx i4 ho (fun j hj => by rw [how j hj]; exact (i4 j hj).2.2.2.2.2) l19 (Or.inr t1) (Or.inr l21) (fun _ => t1) (fun _ => t2) (Or.inl l22)
  · exact I5.same i5 (hx 14 29 (by omega) (by unfold eG eL; omega)) (fun k hk j hj => hx k j (by omega) (by unfold eG eL; omega)) (hx 8 3 (by omega) (by unfold eG eL; omega)) (fun a ha k => hx a k (by omega) (by unfold eG eL; omega))
  · exact I6.nx i6 (by omega) ho hf.1 hK (hx 6 1 (by omega) (by unfold eG eL; omega)) (hx 14 25 (by omega) (by unfold eG eL; omega)) (fun i _ => hR 7 i (by omega) (by omega)) (fun i q' hi hq1 => by
      obtain ⟨q2, e1, e2, _⟩ := i6.2.2 i hi
      rw [hq1] at e1
      injection e1 with e1
      subst e1
      exact hq q' e2.1 e2.2.1)
  · refine ⟨hrq, ⟨n, ⟨hp, by omega, rsl, l21, l23, l22, f0, f1, f2, f3, f4, f6, f7, f8, by rw [f10]; rfl, by rw [f11]; rfl, by rw [f12]; rfl, by rw [f13]; rfl, by rw [f14]; decide, Or.inl rfl, Or.inl rfl, Or.inl rfl, Or.inl rfl, fun j a b => absurd a (by omega), fun j a b => absurd a (by omega)⟩⟩, hnq⟩
  · cases oM with
    | none =>
      obtain ⟨a, b⟩ : gR S 0 8 = none ∧ gX S 14 31 = -1 := i8
      exact ⟨by rw [hR 0 8 (by omega) (by omega)]; exact a, by rw [rot]; exact b⟩
    | some qm =>
      obtain ⟨a, ⟨b, hb⟩, c, d⟩ : gR S 0 8 = some qm ∧ (∃ b, OpM S n qm b) ∧ (∀ i, i < E → gR S 7 i ≠ some qm) ∧ none ≠ some qm := i8
      refine ⟨by rw [hR 0 8 (by omega) (by omega)]; exact a, ⟨b, hb.nx ho hf.1 hK rot (how b hb.2.1) (hq qm hb.1.1 hb.1.2.1)⟩, fun i hi => by rw [hR 7 i (by omega) (by omega)]; exact c i hi, fun e => ?_⟩
      injection e with e
      have := hb.1.2.1
      omega
  · exact I9.nx i9 i6 (by omega) ho (hx 13 1 (by omega) (by unfold eG eL; omega)) (fun j => hZ 13 j (by omega)) (hR 13 0 (by omega) (by omega)) (fun i _ => hR 7 i (by omega) (by omega))
  · exact I10.yes i10 ho (hZ 12 0 (by omega)) t4 t3 t1 l19 rfl t2.tm t5
  · exact I11_ab.mpr ⟨I1a.yes ia ho t3 t1 l19 rfl t5, I1b.yes ib ho c9 l21 l19 (by rw [l23]; exact Or.inl rfl) rfl hid⟩
  · obtain ⟨a, b, c⟩ := i12
    unfold I12
    rw [cnt_nx 0 how, cnt_nx 1 how, cnt_nx 2 how, l22, if_pos rfl, if_neg (by decide), if_neg (by decide), hx 0 11 (by omega) (by unfold eG eL; omega), hx 8 4 (by omega) (by unfold eG eL; omega)]
    refine ⟨?_, b, c⟩
    rw [a]
    simp [lnP, lnM, one]
    try omega

theorem asm_begM {S S6 : GS} {cap n E P lg pl q : Nat} {oP : Option Nat} {dP : Int32 × Int32} (h : Inw S cap n E P lg pl oP none dP) (hcap : cap < 48) (hfix : Fix S6) (hcl : closed S6) (hf : Fr3 (eG n) (fun _ _ => False) (fun k j => k = 0 ∧ j = 8) S S6)
    (c10 : gX S6 0 10 = nI (n + 1)) (c11 : gX S6 1 1 = 0) (r19 : gX S6 14 19 = nI (n + 1)) (r1 : gX S6 14 1 = 0) (l19 : gX S6 19 n = nI lg) (l21 : gX S6 21 n = 1) (l22 : gX S6 22 n = 0) (l23 : gX S6 23 n = 4) (ht : tmS S S6 n) (rsl : gX S6 14 31 = nI n) (rot : gX S6 14 30 = gX S 14 30) (c9 : gX S6 0 9 = gX S6 27 n) (hid : (gX S 0 9).toInt ≤ (gX S6 27 n).toInt)
    (hqN : gN S ≤ q) (hp : evP S6 q) (hrq : gR S6 0 8 = some q) (f0 : gX S6 q 0 = nI (n + 1)) (f1 : gX S6 q 1 = gX S6 27 n) (f2 : gX S6 q 2 = -1) (f3 : gX S6 q 3 = gX S6 26 n) (f4 : gX S6 q 4 = 3) (f6 : gX S6 q 6 = -1) (f7 : gX S6 q 7 = -1) (f8 : gX S6 q 8 = -1) (f10 : gX S6 q 10 = -1) (f11 : gX S6 q 11 = -1) (f12 : gX S6 q 12 = -1) (f13 : gX S6 q 13 = -1) (f14 : gX S6 q 14 = 1) : Inw S6 (cap + 1) (n + 1) E P lg 0 oP (some q) dP := by
  obtain ⟨⟨hF, _⟩, i2, i3, i4, i5, i6, i7, i8, i9, i10, i11, i12⟩ := h
  have h39 := hF.1
  obtain ⟨k1, k2, k3, k4, k5, k6, k7, k8⟩ := i3
  have ho : Old S S6 n E := Old.of h39 hf (by intro k j; unfold eG eL; omega)
  have hX := hf.2.2.1
  have hK : ∀ k, k < gN S → gK S6 k = gK S k := fun k hk => (hf.2.1 k hk).1
  have hZ : ∀ k j, k < gN S → gZ S6 k j = gZ S k j := fun k j hk => hf.2.2.2.1 k j hk (fun a => a)
  have hx : ∀ k j, k < 39 → ¬ (eG n k j) → gX S6 k j = gX S k j := fun k j hk => hX k j (by omega)
  have how : ∀ j, j < n → gX S6 22 j = gX S 22 j := fun j hj => hx 22 j (by omega) (by unfold eG eL; omega)
  obtain ⟨ia, ib⟩ := I11_ab.mp i11
  obtain ⟨t1, t2, t3, t4, t5⟩ := ht
  have hR : ∀ k j, k < gN S → ¬ (k = 0 ∧ j = 8) → gR S6 k j = gR S k j := fun k j hk => hf.2.2.2.2 k j hk
  have hq : ∀ q', 39 ≤ q' → q' < gN S → ∀ j, gX S6 q' j = gX S q' j := fun q' h1 h2 j => hX q' j h2 (by unfold eG eL; omega)
  have hnq : ∀ i, i < E → gR S6 7 i ≠ some q := by
    intro i hi a
    rw [hR 7 i (by omega) (by omega)] at a
    obtain ⟨q', e1, e2, _⟩ := i6.2.2 i hi
    rw [a] at e1
    injection e1 with e1
    have := e2.2.1
    omega
  refine ⟨⟨hfix, hcl⟩, ⟨Nat.zero_le _, c11, r1, fun i => ?_⟩, ⟨by omega, by omega, by omega, by omega, ?_, c10, r19, ?_⟩, ?_, ?_, ?_, ?_, ?_, ?_, ?_, ?_, ?_⟩
  · rw [hx 2 i (by omega) (by unfold eG eL; omega), hx 15 i (by omega) (by unfold eG eL; omega)]
    exact i2.2.2.2 i
  · simp only [oc] at k5 ⊢; omega
  · rw [hx 14 20 (by omega) (by unfold eG eL; omega)]; exact k8
  · exact I4.nx i4 ho (fun j hj => by rw [how j hj]; exact (i4 j hj).2.2.2.2.2) l19 (Or.inr t1) (Or.inr l21) (fun _ => t1) (fun _ => t2) (Or.inl l22)
  · exact I5.same i5 (hx 14 29 (by omega) (by unfold eG eL; omega)) (fun k hk j hj => hx k j (by omega) (by unfold eG eL; omega)) (hx 8 3 (by omega) (by unfold eG eL; omega)) (fun a ha k => hx a k (by omega) (by unfold eG eL; omega))
  · exact I6.nx i6 (by omega) ho hf.1 hK (hx 6 1 (by omega) (by unfold eG eL; omega)) (hx 14 25 (by omega) (by unfold eG eL; omega)) (fun i _ => hR 7 i (by omega) (by omega)) (fun i q' hi hq1 => by
      obtain ⟨q2, e1, e2, _⟩ := i6.2.2 i hi
      rw [hq1] at e1
      injection e1 with e1
      subst e1
      exact hq q' e2.1 e2.2.1)
  · exact I7.nx i7 (by omega) ho hf.1 hK (hR 0 7 (by omega) (by omega)) rot how (fun i _ => hR 7 i (by omega) (by omega)) (fun q' _ hp' => hq q' hp'.1 hp'.2.1) (fun _ => by rw [l23]; decide)
  · refine ⟨hrq, ⟨n, ⟨hp, by omega, rsl, l21, l23, l22, f0, f1, f2, f3, f4, f6, f7, f8, f10, f11, f12, f13, f14⟩⟩, hnq, fun e => ?_⟩
    rw [e] at i7
    obtain ⟨a, ⟨b, hb⟩, c⟩ : gR S 0 7 = some q ∧ (∃ b, OpP S n q b dP.1 dP.2) ∧ ∀ i, i < E → gR S 7 i ≠ some q := i7
    have := hb.1.2.1
    omega
  · exact I9.nx i9 i6 (by omega) ho (hx 13 1 (by omega) (by unfold eG eL; omega)) (fun j => hZ 13 j (by omega)) (hR 13 0 (by omega) (by omega)) (fun i _ => hR 7 i (by omega) (by omega))
  · exact I10.yes i10 ho (hZ 12 0 (by omega)) t4 t3 t1 l19 rfl t2.tm t5
  · exact I11_ab.mpr ⟨I1a.yes ia ho t3 t1 l19 rfl t5, I1b.yes ib ho c9 l21 l19 (by rw [l23]; exact Or.inr rfl) rfl hid⟩
  · obtain ⟨a, b, c⟩ := i12
    unfold I12
    rw [cnt_nx 0 how, cnt_nx 1 how, cnt_nx 2 how, l22, if_pos rfl, if_neg (by decide), if_neg (by decide), hx 0 11 (by omega) (by unfold eG eL; omega), hx 8 4 (by omega) (by unfold eG eL; omega)]
    refine ⟨?_, b, c⟩
    rw [a]
    simp [lnP, lnM, one]

def eA (n q k j : Nat) : Prop := eL n k j ∨ (k = q ∧ (j = 10 ∨ j = 11 ∨ j = 12 ∨ j = 13 ∨ j = 14))
theorem asm_part2 {S S6 : GS} {cap n E P lg pl q b : Nat} {oM : Option Nat} {dP : Int32 × Int32} (h : Inw S cap n E P lg pl (some q) oM dP) (hcap : cap < 48) (hop : OpP S n q b dP.1 dP.2) (hdn : dP.1 = -1) (hfix : Fix S6) (hcl : closed S6) (hf : Fr3 (eA n q) (fun _ _ => False) (fun _ _ => False) S S6)
    (c10 : gX S6 0 10 = nI (n + 1)) (c11 : gX S6 1 1 = 0) (r19 : gX S6 14 19 = nI (n + 1)) (r1 : gX S6 14 1 = 0) (l19 : gX S6 19 n = nI lg) (l21 : gX S6 21 n = 1) (l22 : gX S6 22 n = 0) (l23 : gX S6 23 n = 2) (l27 : gX S6 27 n = gX S 27 b) (ht : tmS S S6 n)
    (f5 : gX S6 q 10 = gX S6 28 (3 * n)) (f6 : gX S6 q 11 = gX S6 28 (3 * n + 1)) (fo5 : gX S6 q 12 = gX S q 12) (fo6 : gX S6 q 13 = gX S q 13) (f14 : gX S6 q 14 = gX S q 14 + 1) : Inw S6 (cap + 1) (n + 1) E P lg 0 (some q) oM (nI n, dP.2) := by
  obtain ⟨⟨hF, _⟩, i2, i3, i4, i5, i6, i7, i8, i9, i10, i11, i12⟩ := h
  have h39 := hF.1
  obtain ⟨k1, k2, k3, k4, k5, k6, k7, k8⟩ := i3
  have q39 := hop.1.1
  have ho : Old S S6 n E := Old.of h39 hf (by intro k j; unfold eA eL; omega)
  have hX := hf.2.2.1
  have hK : ∀ k, k < gN S → gK S6 k = gK S k := fun k hk => (hf.2.1 k hk).1
  have hZ : ∀ k j, k < gN S → gZ S6 k j = gZ S k j := fun k j hk => hf.2.2.2.1 k j hk (fun a => a)
  have hx : ∀ k j, k < 39 → ¬ (eA n q k j) → gX S6 k j = gX S k j := fun k j hk => hX k j (by omega)
  have how : ∀ j, j < n → gX S6 22 j = gX S 22 j := fun j hj => hx 22 j (by omega) (by unfold eA eL; omega)
  obtain ⟨ia, ib⟩ := I11_ab.mp i11
  obtain ⟨t1, t2, t3, t4, t5⟩ := ht
  have hR : ∀ k j, k < gN S → gR S6 k j = gR S k j := fun k j hk => hf.2.2.2.2 k j hk (fun a => a)
  have hq : ∀ q', 39 ≤ q' → q' < gN S → q' ≠ q → ∀ j, gX S6 q' j = gX S q' j := fun q' h1 h2 h3 j => hX q' j h2 (by unfold eA eL; omega)
  obtain ⟨b7, _, b7n⟩ : gR S 0 7 = some q ∧ (∃ b, OpP S n q b dP.1 dP.2) ∧ ∀ i, i < E → gR S 7 i ≠ some q := i7
  refine ⟨⟨hfix, hcl⟩, ⟨Nat.zero_le _, c11, r1, fun i => ?_⟩, ⟨by omega, by omega, by omega, by omega, by omega, c10, r19, ?_⟩, ?_, ?_, ?_, ?_, ?_, ?_, ?_, ?_, ?_⟩
  · rw [hx 2 i (by omega) (by unfold eA eL; omega), hx 15 i (by omega) (by unfold eA eL; omega)]
    exact i2.2.2.2 i
  · rw [hx 14 20 (by omega) (by unfold eA eL; omega)]; exact k8
  · exact I4.nx i4 ho (fun j hj => by rw [how j hj]; exact (i4 j hj).2.2.2.2.2) l19 (Or.inr t1) (Or.inr l21) (fun _ => t1) (fun _ => t2) (Or.inl l22)
  · exact I5.same i5 (hx 14 29 (by omega) (by unfold eA eL; omega)) (fun k hk j hj => hx k j (by omega) (by unfold eA eL; omega)) (hx 8 3 (by omega) (by unfold eA eL; omega)) (fun a ha k => hx a k (by omega) (by unfold eA eL; omega))
  · exact I6.nx i6 (by omega) ho hf.1 hK (hx 6 1 (by omega) (by unfold eA eL; omega)) (hx 14 25 (by omega) (by unfold eA eL; omega)) (fun i _ => hR 7 i (by omega)) (fun i q' hi hq1 => by
      obtain ⟨q2, e1, e2, _⟩ := i6.2.2 i hi
      rw [hq1] at e1
      injection e1 with e1
      subst e1
      exact hq q' e2.1 e2.2.1 (fun e => b7n i hi (by rw [hq1, e])))
  · refine ⟨by rw [hR 0 7 (by omega)]; exact b7, ⟨b, ?_⟩, fun i hi => by rw [hR 7 i (by omega)]; exact b7n i hi⟩
    obtain ⟨h0, h1, h2, h3, h4, h5, f0, f1, f2, f3, f4, g6, g7, g8, g10, g11, g12, g13, g14, l1, l2, w1, w2, u1, u2⟩ := hop
    have r23 := ho.1 23 (by omega) b h1
    have r24 := ho.1 24 (by omega) b h1
    have r25 := ho.1 25 (by omega) b h1
    have r26 := ho.1 26 (by omega) b h1
    have r27 := ho.1 27 (by omega) b h1
    have r21 := ho.1 21 (by omega) b h1
    have hqq : ∀ j, ¬ (j = 10 ∨ j = 11 ∨ j = 12 ∨ j = 13 ∨ j = 14) → gX S6 q j = gX S q j := fun j hj => hX q j h0.2.1 (by unfold eA eL; omega)
    have hnn : nI n ≠ -1 := nI_ne (by omega)
    have hcn := nj_clamp (show n < 2147483648 by omega)
    have on : one (nI n) = 1 := by unfold one; rw [if_neg hnn]
    have o1 : one dP.1 = 0 := by rw [hdn]; rfl
    have sn : ∀ t, szo (gX S6 28) (nI n) t = gX S6 28 (3 * n + t) := fun t => by unfold szo; rw [if_neg hnn, hcn]
    have lnn : Ln S6 (n + 1) b 2 (nI n) := Or.inr ⟨n, by omega, rfl, l21, l23, by rw [l27, r27]⟩
    have wn : nI n = -1 ∨ gX S6 22 (nI n).toNatClampNeg = 0 ∧ b < (nI n).toNatClampNeg := Or.inr (by rw [hcn]; exact ⟨l22, h1⟩)
    have hold : ∀ x : Int32, lno n x → (x = -1 ∨ gX S 22 x.toNatClampNeg = 0 ∧ b < x.toNatClampNeg) → (x = -1 ∨ gX S6 22 x.toNatClampNeg = 0 ∧ b < x.toNatClampNeg) := by
      intro x hx1 hw
      rcases hx1 with e | ⟨j, hj, e⟩
      · exact Or.inl e
      · rcases hw with w | w
        · exact Or.inl w
        · right
          rw [e, nj_clamp (by omega)] at w ⊢
          rw [how j hj]; exact w
    refine ⟨h0.nx hf.1 hK, by omega, by rw [hx 14 30 (by omega) (by unfold eA eL; omega)]; exact h2, by rw [r21]; exact h3, by rw [r23]; exact h4, by rw [how b h1]; exact h5, by rw [hqq 0 (by omega)]; exact f0, by rw [hqq 1 (by omega), r27]; exact f1, by rw [hqq 2 (by omega), r25]; exact f2, by rw [hqq 3 (by omega), r26]; exact f3, by rw [hqq 4 (by omega), r24]; exact f4, by rw [hqq 6 (by omega)]; exact g6, by rw [hqq 7 (by omega)]; exact g7, by rw [hqq 8 (by omega)]; exact g8, ?_, ?_, ?_, ?_, ?_, ?_, ?_, ?_, ?_, ?_, ?_⟩
    · rw [sn, f5]; rfl
    · rw [sn, f6]
    · rw [fo5, szo_old ho (by omega) l2.lno 0 (by omega)]; exact g12
    · rw [fo6, szo_old ho (by omega) l2.lno 1 (by omega)]; exact g13
    · show _ = nI (1 + one (nI n) + one dP.2)
      rw [f14, g14, nj_succ, on, o1]; congr 1; omega
    · exact lnn
    · exact l2.old ho h1 (by omega)
    · exact wn
    · exact hold _ l2.lno w2
    · intro j hb hj hta hs
      by_cases e : j = n
      · rw [e]
      · rw [ho.1 21 (by omega) j (by omega)] at hta
        rw [ho.1 23 (by omega) j (by omega)] at hs
        have := u1 j hb (by omega) hta hs
        rw [hdn] at this
        exact absurd this.symm (nI_ne (by omega))
    · intro j hb hj hta hs
      by_cases e : j = n
      · rw [e, l23] at hs; exact absurd hs (by decide)
      · rw [ho.1 21 (by omega) j (by omega)] at hta
        rw [ho.1 23 (by omega) j (by omega)] at hs
        exact u2 j hb (by omega) hta hs
  · exact I8.nx i8 ho hf.1 hK (hR 0 8 (by omega)) (hx 14 31 (by omega) (by unfold eA eL; omega)) (fun j hj _ => how j hj) (fun i _ => hR 7 i (by omega)) (fun q' _ hp' hne => hq q' hp'.1 hp'.2.1 (fun e => hne (by rw [e])))
  · exact I9.nx i9 i6 (by omega) ho (hx 13 1 (by omega) (by unfold eA eL; omega)) (fun j => hZ 13 j (by omega)) (hR 13 0 (by omega)) (fun i _ => hR 7 i (by omega))
  · exact I10.yes i10 ho (hZ 12 0 (by omega)) t4 t3 t1 l19 rfl t2.tm t5
  · exact I11_ab.mpr ⟨I1a.yes ia ho t3 t1 l19 rfl t5, I1b.no ib ho (hx 0 9 (by omega) (by unfold eA eL; omega)) (fun _ => by rw [l23]; decide)⟩
  · obtain ⟨a, b', c⟩ := i12
    have hnn : nI n ≠ -1 := nI_ne (by omega)
    have on : one (nI n) = 1 := by unfold one; rw [if_neg hnn]
    have o1 : one dP.1 = 0 := by rw [hdn]; rfl
    unfold I12
    rw [cnt_nx 0 how, cnt_nx 1 how, cnt_nx 2 how, l22, if_pos rfl, if_neg (by decide), if_neg (by decide), hx 0 11 (by omega) (by unfold eA eL; omega), hx 8 4 (by omega) (by unfold eA eL; omega)]
    refine ⟨?_, b', c⟩
    rw [a]
    simp only [lnP, on, o1]
    omega

theorem asm_part3 {S S6 : GS} {cap n E P lg pl q b : Nat} {oM : Option Nat} {dP : Int32 × Int32} (h : Inw S cap n E P lg pl (some q) oM dP) (hcap : cap < 48) (hop : OpP S n q b dP.1 dP.2) (hdn : dP.2 = -1) (hfix : Fix S6) (hcl : closed S6) (hf : Fr3 (eA n q) (fun _ _ => False) (fun _ _ => False) S S6)
    (c10 : gX S6 0 10 = nI (n + 1)) (c11 : gX S6 1 1 = 0) (r19 : gX S6 14 19 = nI (n + 1)) (r1 : gX S6 14 1 = 0) (l19 : gX S6 19 n = nI lg) (l21 : gX S6 21 n = 1) (l22 : gX S6 22 n = 0) (l23 : gX S6 23 n = 3) (l27 : gX S6 27 n = gX S 27 b) (ht : tmS S S6 n)
    (f5 : gX S6 q 12 = gX S6 28 (3 * n)) (f6 : gX S6 q 13 = gX S6 28 (3 * n + 1)) (fo5 : gX S6 q 10 = gX S q 10) (fo6 : gX S6 q 11 = gX S q 11) (f14 : gX S6 q 14 = gX S q 14 + 1) : Inw S6 (cap + 1) (n + 1) E P lg 0 (some q) oM (dP.1, nI n) := by
  obtain ⟨⟨hF, _⟩, i2, i3, i4, i5, i6, i7, i8, i9, i10, i11, i12⟩ := h
  have h39 := hF.1
  obtain ⟨k1, k2, k3, k4, k5, k6, k7, k8⟩ := i3
  have q39 := hop.1.1
  have ho : Old S S6 n E := Old.of h39 hf (by intro k j; unfold eA eL; omega)
  have hX := hf.2.2.1
  have hK : ∀ k, k < gN S → gK S6 k = gK S k := fun k hk => (hf.2.1 k hk).1
  have hZ : ∀ k j, k < gN S → gZ S6 k j = gZ S k j := fun k j hk => hf.2.2.2.1 k j hk (fun a => a)
  have hx : ∀ k j, k < 39 → ¬ (eA n q k j) → gX S6 k j = gX S k j := fun k j hk => hX k j (by omega)
  have how : ∀ j, j < n → gX S6 22 j = gX S 22 j := fun j hj => hx 22 j (by omega) (by unfold eA eL; omega)
  obtain ⟨ia, ib⟩ := I11_ab.mp i11
  obtain ⟨t1, t2, t3, t4, t5⟩ := ht
  have hR : ∀ k j, k < gN S → gR S6 k j = gR S k j := fun k j hk => hf.2.2.2.2 k j hk (fun a => a)
  have hq : ∀ q', 39 ≤ q' → q' < gN S → q' ≠ q → ∀ j, gX S6 q' j = gX S q' j := fun q' h1 h2 h3 j => hX q' j h2 (by unfold eA eL; omega)
  obtain ⟨b7, _, b7n⟩ : gR S 0 7 = some q ∧ (∃ b, OpP S n q b dP.1 dP.2) ∧ ∀ i, i < E → gR S 7 i ≠ some q := i7
  refine ⟨⟨hfix, hcl⟩, ⟨Nat.zero_le _, c11, r1, fun i => ?_⟩, ⟨by omega, by omega, by omega, by omega, by omega, c10, r19, ?_⟩, ?_, ?_, ?_, ?_, ?_, ?_, ?_, ?_, ?_⟩
  · rw [hx 2 i (by omega) (by unfold eA eL; omega), hx 15 i (by omega) (by unfold eA eL; omega)]
    exact i2.2.2.2 i
  · rw [hx 14 20 (by omega) (by unfold eA eL; omega)]; exact k8
  · exact I4.nx i4 ho (fun j hj => by rw [how j hj]; exact (i4 j hj).2.2.2.2.2) l19 (Or.inr t1) (Or.inr l21) (fun _ => t1) (fun _ => t2) (Or.inl l22)
  · exact I5.same i5 (hx 14 29 (by omega) (by unfold eA eL; omega)) (fun k hk j hj => hx k j (by omega) (by unfold eA eL; omega)) (hx 8 3 (by omega) (by unfold eA eL; omega)) (fun a ha k => hx a k (by omega) (by unfold eA eL; omega))
  · exact I6.nx i6 (by omega) ho hf.1 hK (hx 6 1 (by omega) (by unfold eA eL; omega)) (hx 14 25 (by omega) (by unfold eA eL; omega)) (fun i _ => hR 7 i (by omega)) (fun i q' hi hq1 => by
      obtain ⟨q2, e1, e2, _⟩ := i6.2.2 i hi
      rw [hq1] at e1
      injection e1 with e1
      subst e1
      exact hq q' e2.1 e2.2.1 (fun e => b7n i hi (by rw [hq1, e])))
  · refine ⟨by rw [hR 0 7 (by omega)]; exact b7, ⟨b, ?_⟩, fun i hi => by rw [hR 7 i (by omega)]; exact b7n i hi⟩
    obtain ⟨h0, h1, h2, h3, h4, h5, f0, f1, f2, f3, f4, g6, g7, g8, g10, g11, g12, g13, g14, l1, l2, w1, w2, u1, u2⟩ := hop
    have r23 := ho.1 23 (by omega) b h1
    have r24 := ho.1 24 (by omega) b h1
    have r25 := ho.1 25 (by omega) b h1
    have r26 := ho.1 26 (by omega) b h1
    have r27 := ho.1 27 (by omega) b h1
    have r21 := ho.1 21 (by omega) b h1
    have hqq : ∀ j, ¬ (j = 10 ∨ j = 11 ∨ j = 12 ∨ j = 13 ∨ j = 14) → gX S6 q j = gX S q j := fun j hj => hX q j h0.2.1 (by unfold eA eL; omega)
    have hnn : nI n ≠ -1 := nI_ne (by omega)
    have hcn := nj_clamp (show n < 2147483648 by omega)
    have on : one (nI n) = 1 := by unfold one; rw [if_neg hnn]
    have o1 : one dP.2 = 0 := by rw [hdn]; rfl
    have sn : ∀ t, szo (gX S6 28) (nI n) t = gX S6 28 (3 * n + t) := fun t => by unfold szo; rw [if_neg hnn, hcn]
    have lnn : Ln S6 (n + 1) b 3 (nI n) := Or.inr ⟨n, by omega, rfl, l21, l23, by rw [l27, r27]⟩
    have wn : nI n = -1 ∨ gX S6 22 (nI n).toNatClampNeg = 0 ∧ b < (nI n).toNatClampNeg := Or.inr (by rw [hcn]; exact ⟨l22, h1⟩)
    have hold : ∀ x : Int32, lno n x → (x = -1 ∨ gX S 22 x.toNatClampNeg = 0 ∧ b < x.toNatClampNeg) → (x = -1 ∨ gX S6 22 x.toNatClampNeg = 0 ∧ b < x.toNatClampNeg) := by
      intro x hx1 hw
      rcases hx1 with e | ⟨j, hj, e⟩
      · exact Or.inl e
      · rcases hw with w | w
        · exact Or.inl w
        · right
          rw [e, nj_clamp (by omega)] at w ⊢
          rw [how j hj]; exact w
    refine ⟨h0.nx hf.1 hK, by omega, by rw [hx 14 30 (by omega) (by unfold eA eL; omega)]; exact h2, by rw [r21]; exact h3, by rw [r23]; exact h4, by rw [how b h1]; exact h5, by rw [hqq 0 (by omega)]; exact f0, by rw [hqq 1 (by omega), r27]; exact f1, by rw [hqq 2 (by omega), r25]; exact f2, by rw [hqq 3 (by omega), r26]; exact f3, by rw [hqq 4 (by omega), r24]; exact f4, by rw [hqq 6 (by omega)]; exact g6, by rw [hqq 7 (by omega)]; exact g7, by rw [hqq 8 (by omega)]; exact g8, ?_, ?_, ?_, ?_, ?_, ?_, ?_, ?_, ?_, ?_, ?_⟩
    · rw [fo5, szo_old ho (by omega) l1.lno 0 (by omega)]; exact g10
    · rw [fo6, szo_old ho (by omega) l1.lno 1 (by omega)]; exact g11
    · rw [sn, f5]; rfl
    · rw [sn, f6]
    · rw [f14, g14, nj_succ, on, o1]
    · exact l1.old ho h1 (by omega)
    · exact lnn
    · exact hold _ l1.lno w1
    · exact wn
    · intro j hb hj hta hs
      by_cases e : j = n
      · rw [e, l23] at hs; exact absurd hs (by decide)
      · rw [ho.1 21 (by omega) j (by omega)] at hta
        rw [ho.1 23 (by omega) j (by omega)] at hs
        exact u1 j hb (by omega) hta hs
    · intro j hb hj hta hs
      by_cases e : j = n
      · rw [e]
      · rw [ho.1 21 (by omega) j (by omega)] at hta
        rw [ho.1 23 (by omega) j (by omega)] at hs
        have := u2 j hb (by omega) hta hs
        rw [hdn] at this
        exact absurd this.symm (nI_ne (by omega))
  · exact I8.nx i8 ho hf.1 hK (hR 0 8 (by omega)) (hx 14 31 (by omega) (by unfold eA eL; omega)) (fun j hj _ => how j hj) (fun i _ => hR 7 i (by omega)) (fun q' _ hp' hne => hq q' hp'.1 hp'.2.1 (fun e => hne (by rw [e])))
  · exact I9.nx i9 i6 (by omega) ho (hx 13 1 (by omega) (by unfold eA eL; omega)) (fun j => hZ 13 j (by omega)) (hR 13 0 (by omega)) (fun i _ => hR 7 i (by omega))
  · exact I10.yes i10 ho (hZ 12 0 (by omega)) t4 t3 t1 l19 rfl t2.tm t5
  · exact I11_ab.mpr ⟨I1a.yes ia ho t3 t1 l19 rfl t5, I1b.no ib ho (hx 0 9 (by omega) (by unfold eA eL; omega)) (fun _ => by rw [l23]; decide)⟩
  · obtain ⟨a, b', c⟩ := i12
    have hnn : nI n ≠ -1 := nI_ne (by omega)
    have on : one (nI n) = 1 := by unfold one; rw [if_neg hnn]
    have o1 : one dP.2 = 0 := by rw [hdn]; rfl
    unfold I12
    rw [cnt_nx 0 how, cnt_nx 1 how, cnt_nx 2 how, l22, if_pos rfl, if_neg (by decide), if_neg (by decide), hx 0 11 (by omega) (by unfold eA eL; omega), hx 8 4 (by omega) (by unfold eA eL; omega)]
    refine ⟨?_, b', c⟩
    rw [a]
    simp only [lnP, on, o1]
    omega

