/-! A LINE THAT ENDS AN EVENT. -/
theorem cnt_upd (f : Nat → Int32) (a : Nat) (v w : Int32) : ∀ n, a < n → cnt (fun j => if j = a then v else f j) w n + (if f a = w then 1 else 0) = cnt f w n + (if v = w then 1 else 0) := by
  intro n
  induction n with
  | zero => intro h; omega
  | succ n ih =>
    intro h
    rw [cnt, cnt]
    by_cases e : a = n
    · subst e
      have : cnt (fun j => if j = a then v else f j) w a = cnt f w a := cnt_congr w a (fun j hj => by
        have : ¬ j = a := by omega
        simp [this])
      rw [this]
      simp
      omega
    · have h1 := ih (by omega)
      have : ¬ n = a := by omega
      simp only [this, if_false]
      omega
/-- owners of an event's lines -/
theorem cnt_own {f g : Nat → Int32} {n b : Nat} {d o : Int32} (hn : n ≤ 512) (hb : b < n) (hfb : f b = 0) (hd : d = -1 ∨ ∃ j, j < n ∧ d = nI j ∧ f j = 0 ∧ j ≠ b) (ho : o = -1 ∨ ∃ j, j < n ∧ o = nI j ∧ f j = 0 ∧ j ≠ b ∧ d ≠ nI j) (hg : ∀ j, j < n → g j = if j = b ∨ d = nI j ∨ o = nI j then 1 else f j) : cnt g 0 n + (1 + one d + one o) = cnt f 0 n ∧ cnt g 1 n = cnt f 1 n + (1 + one d + one o) ∧ cnt g 2 n = cnt f 2 n := by
  have z01 : ¬ (0 : Int32) = 1 := by decide
  have z02 : ¬ (0 : Int32) = 2 := by decide
  have z10 : ¬ (1 : Int32) = 0 := by decide
  have z12 : ¬ (1 : Int32) = 2 := by decide
  have key : ∀ (f : Nat → Int32) (a : Nat), a < n → f a = 0 → cnt (fun j => if j = a then 1 else f j) 0 n + 1 = cnt f 0 n ∧ cnt (fun j => if j = a then 1 else f j) 1 n = cnt f 1 n + 1 ∧ cnt (fun j => if j = a then 1 else f j) 2 n = cnt f 2 n := by
    intro f a ha hfa
    have k0 := cnt_upd f a 1 0 n ha
    have k1 := cnt_upd f a 1 1 n ha
    have k2 := cnt_upd f a 1 2 n ha
    rw [hfa] at k0 k1 k2
    rw [if_pos rfl, if_neg z10] at k0
    rw [if_neg z01, if_pos rfl] at k1
    rw [if_neg z02, if_neg z12] at k2
    omega
  obtain ⟨b0, b1, b2⟩ := key f b hb hfb
  have hinj : ∀ i j, i < n → j < n → nI i = nI j → i = j := fun i j hi hj e => (nj_eq (by omega) (by omega)).mp e
  have step : ∀ (f1 g1 : Nat → Int32) (x : Int32), (x = -1 ∨ ∃ j, j < n ∧ x = nI j ∧ f1 j = 0) → (∀ j, j < n → g1 j = if x = nI j then 1 else f1 j) → cnt g1 0 n + one x = cnt f1 0 n ∧ cnt g1 1 n = cnt f1 1 n + one x ∧ cnt g1 2 n = cnt f1 2 n := by
    intro f1 g1 x hx hg1
    rcases hx with e | ⟨a, ha, e, h0⟩
    · have : ∀ w, cnt g1 w n = cnt f1 w n := fun w => cnt_congr w n (fun j hj => by
        rw [hg1 j hj, if_neg]
        rw [e]; intro c; exact nI_ne (by omega) c.symm)
      have o1 : one x = 0 := by rw [e]; rfl
      rw [this, this, this, o1]
      omega
    · have : ∀ w, cnt g1 w n = cnt (fun j => if j = a then 1 else f1 j) w n := fun w => cnt_congr w n (fun j hj => by
        rw [hg1 j hj, e]
        by_cases c : j = a
        · subst c; simp
        · rw [if_neg (fun c2 => c (hinj a j ha hj c2).symm)]; simp [c])
      have o1 : one x = 1 := by unfold one; rw [e, if_neg (nI_ne (by omega))]
      obtain ⟨q0, q1, q2⟩ := key f1 a ha h0
      rw [this, this, this, o1]
      omega
  obtain ⟨d0, d1, d2⟩ := step (fun j => if j = b then 1 else f j) (fun j => if d = nI j then 1 else if j = b then 1 else f j) d (by
    rcases hd with e | ⟨j, hj, e, h0, hne⟩
    · exact Or.inl e
    · exact Or.inr ⟨j, hj, e, by simp [hne, h0]⟩) (fun j _ => rfl)
  obtain ⟨o0, o1, o2⟩ := step (fun j => if d = nI j then 1 else if j = b then 1 else f j) g o (by
    rcases ho with e | ⟨j, hj, e, h0, hne, hdj⟩
    · exact Or.inl e
    · exact Or.inr ⟨j, hj, e, by simp [hne, h0, hdj]⟩) (fun j hj => by
      rw [hg j hj]
      by_cases c1 : o = nI j
      · rw [if_pos (Or.inr (Or.inr c1)), if_pos c1]
      · rw [if_neg c1]
        by_cases c2 : d = nI j
        · rw [if_pos (Or.inr (Or.inl c2)), if_pos c2]
        · rw [if_neg c2]
          by_cases c3 : j = b
          · rw [if_pos (Or.inl c3), if_pos c3]
          · rw [if_neg c3, if_neg]
            intro c
            rcases c with c | c | c
            · exact c3 c
            · exact c2 c
            · exact c1 c)
  omega
theorem ahd_isP (S : GS) (x : Int32) : ∀ i j, ahd S x i = some j → isP (gX S 23) (gX S 31) j = true := by
  intro i
  induction i with
  | zero => intro j h; simp [ahd] at h
  | succ i ih =>
    intro j h
    unfold ahd at h
    split at h
    · rename_i hp
      split at h
      · injection h with h; subst h; exact hp
      · simp at h
    · exact ih j h
def eP (n E q sl k j : Nat) : Prop := eL n k j ∨ k = 22 ∨ (k = q ∧ (j = 4 ∨ j = 5 ∨ j = 6 ∨ j = 7 ∨ j = 8 ∨ j = 9 ∨ j = 14)) ∨ (k = 13 ∧ j = 1) ∨ (k = 6 ∧ j = 1) ∨ (k = 0 ∧ j = 11) ∨ (k = 14 ∧ (j = 25 ∨ j = sl)) ∨ ((k = 30 ∨ k = 31 ∨ k = 32 ∨ k = 33) ∧ j = E)
theorem EvI.pause {S : GS} {n i q : Nat} (hn : n ≤ 512) (h : EvI S n i q) (hp : isP (gX S 23) (gX S 31) i = true) : ∃ e, e < n ∧ gX S 31 i = nI e ∧ gX S q 7 = gX S 28 (3 * e + 1) ∧ gX S q 5 = gX S 26 e := by
  obtain ⟨b, e, hb, he, hbe, h1, h2, h3, h4, h5, h6, h7, h8, h9, _⟩ := h
  have h23 : gX S 23 e = 1 := by
    simp only [isP, h2, decide_eq_true_eq] at hp
    rw [nj_clamp (by omega)] at hp
    exact hp
  refine ⟨e, he, h2, ?_, h9⟩
  rcases h6 with g | g
  · exact g.2.2.2.2.2.2.2.1
  · rw [h23] at g
    rcases g.1 with z | z
    · exact absurd z (by decide)
    · exact absurd z (by decide)
theorem szo_m1 {S : GS} {n E lg b : Nat} {s x : Int32} {t : Nat} (ht : t < 2) (hs : s = 2 ∨ s = 3) (h4 : I4 S n lg) (hn : n ≤ 512) (h : Ln S n b s x) : szo (gX S 28) x t = -1 ↔ x = -1 := by
  unfold szo
  constructor
  · intro a
    apply Classical.byContradiction
    intro c
    rw [if_neg c] at a
    rcases h with z | ⟨j, hj, z, h1, h2, _⟩
    · exact c z
    · obtain ⟨_, _, _, g4, g5, _⟩ := h4 j hj
      obtain ⟨s', k', c', r1, r2, r3, r4, r5, r6, r7⟩ := g5 (g4 h1)
      have hs' : s' = 2 ∨ s' = 3 := by
        rw [r4] at h2
        rcases hs with y | y
        · left; rw [y] at h2; exact (nj_eq (b := 2) (by omega) (by omega)).mp h2
        · right; rw [y] at h2; exact (nj_eq (b := 3) (by omega) (by omega)).mp h2
      have ok := r7.2.2.1 (by omega)
      rw [z, nj_clamp (by omega)] at a
      have hm : (-1 : Int32).toInt = -1 := by decide
      have ht2 : t = 0 ∨ t = 1 := by omega
      rcases ht2 with y | y
      · subst y
        have := ok.1.1
        rw [Nat.add_zero] at a
        rw [a, hm] at this
        omega
      · subst y
        have := ok.2.1
        rw [a, hm] at this
        omega
  · intro a
    rw [if_pos a]
theorem asm_endP {S S6 : GS} {cap n E P lg pl q b : Nat} {oM : Option Nat} {dP : Int32 × Int32} (h : Inw S cap n E P lg pl (some q) oM dP) (hcap : cap < 48) (hop : OpP S n q b dP.1 dP.2) (hfix : Fix S6) (hcl : closed S6) (hf : Fr3 (eP n E q 30) (fun k _ => k = 13) (rEp E) S S6)
    (c10 : gX S6 0 10 = nI (n + 1)) (c11 : gX S6 1 1 = 0) (r19 : gX S6 14 19 = nI (n + 1)) (r1 : gX S6 14 1 = 0) (l19 : gX S6 19 n = nI lg) (l21 : gX S6 21 n = 1) (l23 : gX S6 23 n = 1) (l24 : gX S6 24 n = gX S 24 b) (l25 : gX S6 25 n = gX S 25 b) (l27 : gX S6 27 n = gX S 27 b) (ht : tmS S S6 n)
    (m30 : gX S6 30 E = nI b) (m31 : gX S6 31 E = nI n) (m32 : gX S6 32 E = dP.1) (m33 : gX S6 33 E = dP.2) (m25 : gX S6 14 25 = nI (E + 1)) (m0 : gX S6 14 30 = -1) (mo : ∀ j, j < n + 1 → gX S6 22 j = if j = b ∨ j = n ∨ dP.1 = nI j ∨ dP.2 = nI j then 1 else gX S 22 j)
    (f5 : gX S6 q 5 = gX S6 26 n) (f6 : gX S6 q 6 = gX S6 28 (3 * n)) (f7 : gX S6 q 7 = gX S6 28 (3 * n + 1)) (f8 : gX S6 q 8 = gX S6 28 (3 * n + 2)) (f9 : gX S6 q 9 = gX S6 29 n) (f4 : gX S6 q 4 = gX S q 4) (f14 : gX S6 q 14 = gX S q 14 + 1)
    (s1 : gX S6 13 1 = gX S 13 1 + 1) (s2 : gZ S6 13 2 = gZ S 13 2 + (gX S6 29 n).toInt64) (s5 : gZ S6 13 5 = (if gX S q 12 = -1 then gZ S 13 5 else gZ S 13 5 + (gX S q 13 - gX S q 12).toInt64)) (s0 : gR S6 13 0 = some q)
    (sn : gR S 13 0 = none → gZ S6 13 3 = gZ S 13 3 ∧ gZ S6 13 4 = gZ S 13 4) (sa : ∀ a, gR S 13 0 = some a → gZ S6 13 3 = gZ S 13 3 + (gX S6 28 (3 * n) - gX S a 7).toInt64 ∧ gZ S6 13 4 = gZ S 13 4 + (gX S q 3 - gX S a 5).toInt64)
    (e61 : gX S6 6 1 = nI (E + 1)) (e11 : gX S6 0 11 = gX S 0 11 + (gX S q 14 + 1)) (e7 : gR S6 7 E = some q) (e07 : gR S6 0 7 = none) : Inw S6 (cap + 1) (n + 1) (E + 1) P lg 0 none oM dP := by
  obtain ⟨⟨hF, _⟩, i2, i3, i4, i5, i6, i7, i8, i9, i10, i11, i12⟩ := h
  have h39 := hF.1
  have q39 := hop.1.1
  obtain ⟨k1, k2, k3, k4, k5, k6, k7, k8⟩ := i3
  have k5' : 2 * E + 1 + oc oM ≤ n := k5
  have ho : Old S S6 n E := Old.of h39 hf (by intro k j; unfold eP eL; omega)
  have hX := hf.2.2.1
  have hK : ∀ k, k < gN S → gK S6 k = gK S k := fun k hk => (hf.2.1 k hk).1
  have hx : ∀ k j, k < 39 → ¬ (eP n E q 30 k j) → gX S6 k j = gX S k j := fun k j hk => hX k j (by omega)
  have hR : ∀ k j, k < gN S → ¬ rEp E k j → gR S6 k j = gR S k j := hf.2.2.2.2
  have hR7 : ∀ i, i < E → gR S6 7 i = gR S 7 i := fun i hi => hR 7 i (by omega) (by unfold rEp; omega)
  have hq : ∀ q', 39 ≤ q' → q' < gN S → q' ≠ q → ∀ j, gX S6 q' j = gX S q' j := fun q' h1 h2 h3 j => hX q' j h2 (by unfold eP eL; omega)
  obtain ⟨ia, ib⟩ := I11_ab.mp i11
  obtain ⟨t1, t2, t3, t4, t5⟩ := ht
  obtain ⟨b7, _, b7n⟩ : gR S 0 7 = some q ∧ (∃ b, OpP S n q b dP.1 dP.2) ∧ ∀ i, i < E → gR S 7 i ≠ some q := i7
  obtain ⟨h0, h1, h2, h3, h4, h5, g0, g1, g2, g3, g4, g6, g7, g8, g10, g11, g12, g13, g14, l1, l2, w1, w2, u1, u2⟩ := hop
  have r23 := ho.1 23 (by omega) b h1
  have r24 := ho.1 24 (by omega) b h1
  have r25 := ho.1 25 (by omega) b h1
  have r26 := ho.1 26 (by omega) b h1
  have r27 := ho.1 27 (by omega) b h1
  have r21 := ho.1 21 (by omega) b h1
  have hcn := nj_clamp (show n < 2147483648 by omega)
  have hcb := nj_clamp (show b < 2147483648 by omega)
  have hqq : ∀ j, ¬ (j = 4 ∨ j = 5 ∨ j = 6 ∨ j = 7 ∨ j = 8 ∨ j = 9 ∨ j = 14) → gX S6 q j = gX S q j := fun j hj => hX q j h0.2.1 (by unfold eP eL; omega)
  have n6 : ¬ gX S6 23 n = 6 := by rw [l23]; decide
  have tk : tkO S6 b n = gX S6 29 n := by unfold tkO; rw [if_neg n6]
  have hidx := i6.idx
  have hisP : isP (gX S6 23) (gX S6 31) E = true := by simp only [isP, m31, hcn, l23, decide_true]
  have hlogE : gX S6 19 (gX S6 31 E).toNatClampNeg = nI lg := by rw [m31, hcn]; exact l19
  have haI : aI S6 E = ahd S (nI lg) E := by
    unfold aI
    rw [if_pos hisP, hlogE, ahd_old ho hidx (by omega) _ E (Nat.le_refl _)]
  refine ⟨⟨hfix, hcl⟩, ⟨Nat.zero_le _, c11, r1, fun i => ?_⟩, ⟨by omega, by omega, by omega, by omega, ?_, c10, r19, ?_⟩, ?_, ?_, ?_, ?_, ?_, ?_, ?_, ?_, ?_⟩
  · rw [hx 2 i (by omega) (by unfold eP eL; omega), hx 15 i (by omega) (by unfold eP eL; omega)]
    exact i2.2.2.2 i
  · show 2 * (E + 1) + 0 + oc oM ≤ n + 1
    omega
  · rw [hx 14 20 (by omega) (by unfold eP eL; omega)]; exact k8
  · refine I4.nx i4 ho (fun j hj => ?_) l19 (Or.inr t1) (Or.inr l21) (fun _ => t1) (fun _ => t2) ?_
    · rw [mo j (by omega)]
      split
      · exact Or.inr (Or.inl rfl)
      · exact (i4 j hj).2.2.2.2.2
    · rw [mo n (by omega), if_pos (Or.inr (Or.inl rfl))]; exact Or.inr (Or.inl rfl)
  · exact I5.same i5 (hx 14 29 (by omega) (by unfold eP eL; omega)) (fun k hk j hj => hx k j (by omega) (by unfold eP eL; omega)) (hx 8 3 (by omega) (by unfold eP eL; omega)) (fun a ha k => hx a k (by omega) (by unfold eP eL; omega))
  · refine ⟨e61, m25, fun i hi => ?_⟩
    by_cases e : i = E
    · subst e
      refine ⟨q, e7, h0.nx hf.1 hK, b, n, by omega, by omega, h1, m30, m31, by rw [r21]; exact h3, l21, by rw [l27, r27], Or.inl ⟨l23, by rw [r23]; exact h4, by rw [l24, r24], by rw [l25, r25], by rw [f4, r24]; exact g4, by rw [hqq 2 (by omega), r25]; exact g2, f6, f7, f8⟩, by rw [hqq 1 (by omega), r27]; exact g1, by rw [hqq 3 (by omega), r26]; exact g3, f5, by rw [f9, tk], ?_, ?_, ?_, ?_, ?_, ?_, ?_⟩
      · rw [hqq 10 (by omega), m32, szo_old ho (by omega) l1.lno 0 (by omega)]; exact g10
      · rw [hqq 11 (by omega), m32, szo_old ho (by omega) l1.lno 1 (by omega)]; exact g11
      · rw [hqq 12 (by omega), m33, szo_old ho (by omega) l2.lno 0 (by omega)]; exact g12
      · rw [hqq 13 (by omega), m33, szo_old ho (by omega) l2.lno 1 (by omega)]; exact g13
      · rw [f14, g14, nj_succ, m32, m33]; congr 1; omega
      · rw [m32]; exact l1.old ho h1 (by omega)
      · rw [m33]; exact l2.old ho h1 (by omega)
    · obtain ⟨q', e1, e2, e3⟩ := i6.2.2 i (by omega)
      exact ⟨q', by rw [hR7 i (by omega)]; exact e1, e2.nx hf.1 hK, e3.old ho (by omega) (by omega) (by omega) (hq q' e2.1 e2.2.1 (fun z => b7n i (by omega) (by rw [e1, z])))⟩
  · exact ⟨e07, m0⟩
  · cases oM with
    | none =>
      obtain ⟨a, c⟩ : gR S 0 8 = none ∧ gX S 14 31 = -1 := i8
      exact ⟨by rw [hR 0 8 (by omega) (by unfold rEp; omega)]; exact a, by rw [hx 14 31 (by omega) (by unfold eP eL; omega)]; exact c⟩
    | some qm =>
      obtain ⟨a, ⟨bm, hb⟩, c, d⟩ : gR S 0 8 = some qm ∧ (∃ b, OpM S n qm b) ∧ (∀ i, i < E → gR S 7 i ≠ some qm) ∧ some q ≠ some qm := i8
      have hne : qm ≠ q := fun e => d (by rw [e])
      refine ⟨by rw [hR 0 8 (by omega) (by unfold rEp; omega)]; exact a, ⟨bm, hb.nx ho hf.1 hK (hx 14 31 (by omega) (by unfold eP eL; omega)) ?_ (hq qm hb.1.1 hb.1.2.1 hne)⟩, fun i hi => ?_, by simp⟩
      · rw [mo bm (by have := hb.2.1; omega), if_neg]
        have hbm := hb.2.1
        have hs4 := hb.2.2.2.2.1
        intro z
        rcases z with z | z | z | z
        · rw [z, h4] at hs4; exact absurd hs4 (by decide)
        · omega
        · rcases l1 with y | ⟨j, y1, y2, y3, y4, _⟩
          · rw [y] at z; exact nI_ne (by omega) z.symm
          · rw [y2] at z
            have := (nj_eq (by omega) (by omega)).mp z
            rw [this, hs4] at y4
            exact absurd y4 (by decide)
        · rcases l2 with y | ⟨j, y1, y2, y3, y4, _⟩
          · rw [y] at z; exact nI_ne (by omega) z.symm
          · rw [y2] at z
            have := (nj_eq (by omega) (by omega)).mp z
            rw [this, hs4] at y4
            exact absurd y4 (by decide)
      · by_cases e : i = E
        · subst e; rw [e7]; exact fun z => d z
        · rw [hR7 i (by omega)]; exact c i (by omega)
  · obtain ⟨a1, a2, a3, a4, a5, a6⟩ := i9
    refine ⟨?_, ?_, ?_, ?_, ?_, ?_⟩
    · rw [s1, a1, cntP, if_pos hisP, cntP_old ho hidx (by omega) E (Nat.le_refl _), nj_succ]
    · rw [s2, a2, sumT, if_pos hisP, sumT_old ho hidx (by omega) E (Nat.le_refl _)]
      unfold tkE
      rw [m30, m31, hcn, hcb, tk]
    · rw [s5, a3, sumO, m33, sumO_old ho hidx (by omega) E (Nat.le_refl _), g12, g13, szo_old ho (by omega) l2.lno 0 (by omega), szo_old ho (by omega) l2.lno 1 (by omega)]
      have hm := szo_m1 (E := E) (t := 0) (by omega) (Or.inr rfl) i4 (by omega) l2
      by_cases c : dP.2 = -1
      · rw [if_pos (hm.mpr c), if_pos c]
      · rw [if_neg (fun z => c (hm.mp z)), if_neg c]
    · rw [sumA, haI, sumA_old ho hidx (by omega) E (Nat.le_refl _)]
      cases ha : ahd S (nI lg) E with
      | none =>
        rw [ha] at a6
        simp only
        rw [(sn a6).1, a4]
      | some j =>
        have hj := ahd_lt S _ _ _ ha
        obtain ⟨qa, e1, e2, e3⟩ := i6.2.2 j hj
        obtain ⟨ej, p1, p2, p3, p4⟩ := e3.pause (by omega) (ahd_isP S _ _ _ ha)
        rw [ha, Option.bind_some, e1] at a6
        simp only
        rw [(sa qa a6).1, a4, p3, m31, hcn, ho.2.2 31 (by omega) j hj, p2, nj_clamp (by omega), ho.2.1 (3 * ej + 1) (by omega)]
    · rw [sumB, haI, sumB_old ho hidx (by omega) E (Nat.le_refl _)]
      cases ha : ahd S (nI lg) E with
      | none =>
        rw [ha] at a6
        simp only
        rw [(sn a6).2, a5]
      | some j =>
        have hj := ahd_lt S _ _ _ ha
        obtain ⟨qa, e1, e2, e3⟩ := i6.2.2 j hj
        obtain ⟨ej, p1, p2, p3, p4⟩ := e3.pause (by omega) (ahd_isP S _ _ _ ha)
        rw [ha, Option.bind_some, e1] at a6
        simp only
        rw [(sa qa a6).2, a5, p4, g3, m30, hcb, ho.2.2 31 (by omega) j hj, p2, nj_clamp (by omega), ho.1 26 (by omega) ej (by omega), r26]
    · rw [s0, ahd, if_pos hisP, if_pos hlogE, Option.bind_some, e7]
  · exact I10.yes i10 ho (hf.2.2.2.1 12 0 (by omega) (by omega)) t4 t3 t1 l19 rfl t2.tm t5
  · exact I11_ab.mpr ⟨I1a.yes ia ho t3 t1 l19 rfl t5, I1b.no ib ho (hx 0 9 (by omega) (by unfold eP eL; omega)) (fun _ => by rw [l23]; decide)⟩
  · obtain ⟨a, b', c⟩ := i12
    have hg : ∀ j, j < n → gX S6 22 j = if j = b ∨ dP.1 = nI j ∨ dP.2 = nI j then 1 else gX S 22 j := by
      intro j hj
      rw [mo j (by omega)]
      by_cases z : j = b ∨ dP.1 = nI j ∨ dP.2 = nI j
      · rw [if_pos z, if_pos]
        rcases z with z | z | z
        · exact Or.inl z
        · exact Or.inr (Or.inr (Or.inl z))
        · exact Or.inr (Or.inr (Or.inr z))
      · rw [if_neg z, if_neg]
        intro y
        rcases y with y | y | y | y
        · exact z (Or.inl y)
        · omega
        · exact z (Or.inr (Or.inl y))
        · exact z (Or.inr (Or.inr y))
    obtain ⟨o0, o1, o2⟩ := cnt_own (f := gX S 22) (g := gX S6 22) (n := n) (b := b) (d := dP.1) (o := dP.2) (by omega) h1 h5 (by
      rcases l1 with y | ⟨j, y1, y2, y3, y4, _⟩
      · exact Or.inl y
      · rcases w1 with w | w
        · exact Or.inl w
        · rw [y2, nj_clamp (by omega)] at w
          exact Or.inr ⟨j, y1, y2, w.1, by omega⟩) (by
      rcases l2 with y | ⟨j, y1, y2, y3, y4, _⟩
      · exact Or.inl y
      · rcases w2 with w | w
        · exact Or.inl w
        · rw [y2, nj_clamp (by omega)] at w
          refine Or.inr ⟨j, y1, y2, w.1, by omega, fun z => ?_⟩
          rcases l1 with x | ⟨i, x1, x2, x3, x4, _⟩
          · rw [x] at z; exact nI_ne (by omega) z.symm
          · rw [x2] at z
            have := (nj_eq (by omega) (by omega)).mp z
            rw [this, y4] at x4
            exact absurd x4 (by decide)) hg
    have on : gX S6 22 n = 1 := by rw [mo n (by omega), if_pos (Or.inr (Or.inl rfl))]
    have z10 : ¬ (1 : Int32) = 0 := by decide
    have z12 : ¬ (1 : Int32) = 2 := by decide
    unfold I12
    rw [cnt, cnt, cnt, on, if_neg z10, if_pos rfl, if_neg z12, e11, b', g14, hx 8 4 (by omega) (by unfold eP eL; omega)]
    simp only [lnP] at a ⊢
    refine ⟨by omega, ?_, ?_⟩
    · rw [nj_succ, nj_add]; congr 1; omega
    · rw [c]; congr 1; omega
theorem asm_endM {S S6 : GS} {cap n E P lg pl q b s : Nat} {oP : Option Nat} {dP : Int32 × Int32} (h : Inw S cap n E P lg pl oP (some q) dP) (hcap : cap < 48) (hs2 : s = 5 ∨ s = 6) (hop : OpM S n q b) (hfix : Fix S6) (hcl : closed S6) (hf : Fr3 (eP n E q 31) (fun _ _ => False) (rEm E) S S6)
    (c10 : gX S6 0 10 = nI (n + 1)) (c11 : gX S6 1 1 = 0) (r19 : gX S6 14 19 = nI (n + 1)) (r1 : gX S6 14 1 = 0) (l19 : gX S6 19 n = nI lg) (l21 : gX S6 21 n = 1) (l23 : gX S6 23 n = nI s) (l27 : gX S6 27 n = gX S 27 b) (ht : tmS S S6 n)
    (m30 : gX S6 30 E = nI b) (m31 : gX S6 31 E = nI n) (m32 : gX S6 32 E = -1) (m33 : gX S6 33 E = -1) (m25 : gX S6 14 25 = nI (E + 1)) (m0 : gX S6 14 31 = -1) (mo : ∀ j, j < n + 1 → gX S6 22 j = if j = b ∨ j = n then 1 else gX S 22 j)
    (f5 : gX S6 q 5 = gX S6 26 n) (f4 : gX S6 q 4 = (if s = 6 then 4 else 3)) (f9 : gX S6 q 9 = tkO S6 b n) (f6 : gX S6 q 6 = gX S q 6) (f7 : gX S6 q 7 = gX S q 7) (f8 : gX S6 q 8 = gX S q 8) (f14 : gX S6 q 14 = gX S q 14 + 1)
    (s1 : gX S6 13 1 = gX S 13 1) (e61 : gX S6 6 1 = nI (E + 1)) (e11 : gX S6 0 11 = gX S 0 11 + (gX S q 14 + 1)) (e7 : gR S6 7 E = some q) (e08 : gR S6 0 8 = none) : Inw S6 (cap + 1) (n + 1) (E + 1) P lg 0 oP none dP := by
  obtain ⟨⟨hF, _⟩, i2, i3, i4, i5, i6, i7, i8, i9, i10, i11, i12⟩ := h
  have h39 := hF.1
  have q39 := hop.1.1
  obtain ⟨k1, k2, k3, k4, k5, k6, k7, k8⟩ := i3
  have k5' : 2 * E + oc oP + 1 ≤ n := k5
  have ho : Old S S6 n E := Old.of h39 hf (by intro k j; unfold eP eL; omega)
  have hX := hf.2.2.1
  have hK : ∀ k, k < gN S → gK S6 k = gK S k := fun k hk => (hf.2.1 k hk).1
  have hx : ∀ k j, k < 39 → ¬ (eP n E q 31 k j) → gX S6 k j = gX S k j := fun k j hk => hX k j (by omega)
  have hR : ∀ k j, k < gN S → ¬ rEm E k j → gR S6 k j = gR S k j := hf.2.2.2.2
  have hZ : ∀ k j, k < gN S → gZ S6 k j = gZ S k j := fun k j hk => hf.2.2.2.1 k j hk (fun a => a)
  have hR7 : ∀ i, i < E → gR S6 7 i = gR S 7 i := fun i hi => hR 7 i (by omega) (by unfold rEm; omega)
  have hq : ∀ q', 39 ≤ q' → q' < gN S → q' ≠ q → ∀ j, gX S6 q' j = gX S q' j := fun q' h1 h2 h3 j => hX q' j h2 (by unfold eP eL; omega)
  obtain ⟨ia, ib⟩ := I11_ab.mp i11
  obtain ⟨t1, t2, t3, t4, t5⟩ := ht
  obtain ⟨b8, _, b8n, b8p⟩ : gR S 0 8 = some q ∧ (∃ b, OpM S n q b) ∧ (∀ i, i < E → gR S 7 i ≠ some q) ∧ oP ≠ some q := i8
  obtain ⟨h0, h1, h2, h3, h4, h5, g0, g1, g2, g3, g4, g6, g7, g8, g10, g11, g12, g13, g14⟩ := hop
  have r23 := ho.1 23 (by omega) b h1
  have r26 := ho.1 26 (by omega) b h1
  have r27 := ho.1 27 (by omega) b h1
  have r21 := ho.1 21 (by omega) b h1
  have hcn := nj_clamp (show n < 2147483648 by omega)
  have hcb := nj_clamp (show b < 2147483648 by omega)
  have hqq : ∀ j, ¬ (j = 4 ∨ j = 5 ∨ j = 6 ∨ j = 7 ∨ j = 8 ∨ j = 9 ∨ j = 14) → gX S6 q j = gX S q j := fun j hj => hX q j h0.2.1 (by unfold eP eL; omega)
  have hidx := i6.idx
  have n56 : gX S6 23 n = 5 ∨ gX S6 23 n = 6 := by
    rw [l23]
    rcases hs2 with z | z
    · left; rw [z]; decide
    · right; rw [z]; decide
  have n1 : ¬ gX S6 23 n = 1 := by rcases n56 with z | z <;> rw [z] <;> decide
  have hisP : ¬ isP (gX S6 23) (gX S6 31) E = true := by simp only [isP, m31, hcn, decide_eq_true_eq]; exact n1
  have haI : aI S6 E = none := by unfold aI; rw [if_neg hisP]
  refine ⟨⟨hfix, hcl⟩, ⟨Nat.zero_le _, c11, r1, fun i => ?_⟩, ⟨by omega, by omega, by omega, by omega, ?_, c10, r19, ?_⟩, ?_, ?_, ?_, ?_, ?_, ?_, ?_, ?_, ?_⟩
  · rw [hx 2 i (by omega) (by unfold eP eL; omega), hx 15 i (by omega) (by unfold eP eL; omega)]
    exact i2.2.2.2 i
  · show 2 * (E + 1) + oc oP + 0 ≤ n + 1
    omega
  · rw [hx 14 20 (by omega) (by unfold eP eL; omega)]; exact k8
  · refine I4.nx i4 ho (fun j hj => ?_) l19 (Or.inr t1) (Or.inr l21) (fun _ => t1) (fun _ => t2) ?_
    · rw [mo j (by omega)]
      split
      · exact Or.inr (Or.inl rfl)
      · exact (i4 j hj).2.2.2.2.2
    · rw [mo n (by omega), if_pos (Or.inr rfl)]; exact Or.inr (Or.inl rfl)
  · exact I5.same i5 (hx 14 29 (by omega) (by unfold eP eL; omega)) (fun k hk j hj => hx k j (by omega) (by unfold eP eL; omega)) (hx 8 3 (by omega) (by unfold eP eL; omega)) (fun a ha k => hx a k (by omega) (by unfold eP eL; omega))
  · refine ⟨e61, m25, fun i hi => ?_⟩
    by_cases e : i = E
    · subst e
      refine ⟨q, e7, h0.nx hf.1 hK, b, n, by omega, by omega, h1, m30, m31, by rw [r21]; exact h3, l21, by rw [l27, r27], Or.inr ⟨n56, by rw [r23]; exact h4, ?_, by rw [hqq 2 (by omega)]; exact g2, by rw [f6]; exact g6, by rw [f7]; exact g7, by rw [f8]; exact g8, m32, m33⟩, by rw [hqq 1 (by omega), r27]; exact g1, by rw [hqq 3 (by omega), r26]; exact g3, f5, f9, ?_, ?_, ?_, ?_, ?_, by rw [m32]; exact Or.inl rfl, by rw [m33]; exact Or.inl rfl⟩
      · rw [f4, l23]
        rcases hs2 with z | z
        · rw [z]; decide
        · rw [z]; decide
      · rw [hqq 10 (by omega), m32, g10]; rfl
      · rw [hqq 11 (by omega), m32, g11]; rfl
      · rw [hqq 12 (by omega), m33, g12]; rfl
      · rw [hqq 13 (by omega), m33, g13]; rfl
      · rw [f14, g14, m32, m33]; decide
    · obtain ⟨q', e1, e2, e3⟩ := i6.2.2 i (by omega)
      exact ⟨q', by rw [hR7 i (by omega)]; exact e1, e2.nx hf.1 hK, e3.old ho (by omega) (by omega) (by omega) (hq q' e2.1 e2.2.1 (fun z => b8n i (by omega) (by rw [e1, z])))⟩
  · cases oP with
    | none =>
      obtain ⟨a, c⟩ : gR S 0 7 = none ∧ gX S 14 30 = -1 := i7
      exact ⟨by rw [hR 0 7 (by omega) (by unfold rEm; omega)]; exact a, by rw [hx 14 30 (by omega) (by unfold eP eL; omega)]; exact c⟩
    | some qp =>
      obtain ⟨a, ⟨bp, hb⟩, c⟩ : gR S 0 7 = some qp ∧ (∃ b, OpP S n qp b dP.1 dP.2) ∧ ∀ i, i < E → gR S 7 i ≠ some qp := i7
      have hne : qp ≠ q := fun e => b8p (by rw [e])
      have hs3 : gX S6 23 n ≠ 2 ∧ gX S6 23 n ≠ 3 := by
        rcases n56 with z | z <;> rw [z] <;> decide
      -- owners of the open pause's lines: none is b
      have hown : ∀ j, j < n → gX S 23 j ≠ 4 → gX S6 22 j = gX S 22 j := by
        intro j hj h23
        rw [mo j (by omega), if_neg]
        intro z
        rcases z with z | z
        · exact h23 (by rw [z]; exact h4)
        · omega
      obtain ⟨p0, p1, p2, p3, p4, p5, y0, y1, y2, y3, y4, y6, y7, y8, y10, y11, y12, y13, y14, pl1, pl2, pw1, pw2, pu1, pu2⟩ := hb
      have x23 := ho.1 23 (by omega) bp p1
      have hqp := hq qp p0.1 p0.2.1 hne
      have hold : ∀ (x : Int32) (sx : Int32), sx ≠ 4 → Ln S n bp sx x → (x = -1 ∨ gX S 22 x.toNatClampNeg = 0 ∧ bp < x.toNatClampNeg) → (x = -1 ∨ gX S6 22 x.toNatClampNeg = 0 ∧ bp < x.toNatClampNeg) := by
        intro x sx hsx hx1 hw
        rcases hx1 with e | ⟨j, hj, e, _, e4, _⟩
        · exact Or.inl e
        · rcases hw with w | w
          · exact Or.inl w
          · right
            rw [e, nj_clamp (by omega)] at w ⊢
            rw [hown j hj (by rw [e4]; exact hsx)]; exact w
      refine ⟨by rw [hR 0 7 (by omega) (by unfold rEm; omega)]; exact a, ⟨bp, p0.nx hf.1 hK, by omega, by rw [hx 14 30 (by omega) (by unfold eP eL; omega)]; exact p2, by rw [ho.1 21 (by omega) bp p1]; exact p3, by rw [x23]; exact p4, by rw [hown bp p1 (by rw [p4]; decide)]; exact p5, by rw [hqp]; exact y0, by rw [hqp, ho.1 27 (by omega) bp p1]; exact y1, by rw [hqp, ho.1 25 (by omega) bp p1]; exact y2, by rw [hqp, ho.1 26 (by omega) bp p1]; exact y3, by rw [hqp, ho.1 24 (by omega) bp p1]; exact y4, by rw [hqp]; exact y6, by rw [hqp]; exact y7, by rw [hqp]; exact y8, ?_, ?_, ?_, ?_, by rw [hqp]; exact y14, pl1.old ho p1 (by omega), pl2.old ho p1 (by omega), hold _ 2 (by decide) pl1 pw1, hold _ 3 (by decide) pl2 pw2, ?_, ?_⟩, fun i hi => ?_⟩
      · rw [hqp, szo_old ho (by omega) pl1.lno 0 (by omega)]; exact y10
      · rw [hqp, szo_old ho (by omega) pl1.lno 1 (by omega)]; exact y11
      · rw [hqp, szo_old ho (by omega) pl2.lno 0 (by omega)]; exact y12
      · rw [hqp, szo_old ho (by omega) pl2.lno 1 (by omega)]; exact y13
      · intro j hb hj hta hsj
        by_cases e : j = n
        · subst e; exact absurd hsj hs3.1
        · rw [ho.1 21 (by omega) j (by omega)] at hta
          rw [ho.1 23 (by omega) j (by omega)] at hsj
          exact pu1 j hb (by omega) hta hsj
      · intro j hb hj hta hsj
        by_cases e : j = n
        · subst e; exact absurd hsj hs3.2
        · rw [ho.1 21 (by omega) j (by omega)] at hta
          rw [ho.1 23 (by omega) j (by omega)] at hsj
          exact pu2 j hb (by omega) hta hsj
      · by_cases e : i = E
        · subst e; rw [e7]; intro z; injection z with z; exact hne z.symm
        · rw [hR7 i (by omega)]; exact c i (by omega)
  · exact ⟨e08, m0⟩
  · obtain ⟨a1, a2, a3, a4, a5, a6⟩ := i9
    refine ⟨?_, ?_, ?_, ?_, ?_, ?_⟩
    · rw [s1, a1, cntP, if_neg hisP, cntP_old ho hidx (by omega) E (Nat.le_refl _)]; rfl
    · rw [hZ 13 2 (by omega), a2, sumT, if_neg hisP, sumT_old ho hidx (by omega) E (Nat.le_refl _)]
    · rw [hZ 13 5 (by omega), a3, sumO, if_pos m33, sumO_old ho hidx (by omega) E (Nat.le_refl _)]
    · rw [hZ 13 3 (by omega), a4, sumA, haI, sumA_old ho hidx (by omega) E (Nat.le_refl _)]
    · rw [hZ 13 4 (by omega), a5, sumB, haI, sumB_old ho hidx (by omega) E (Nat.le_refl _)]
    · rw [hR 13 0 (by omega) (by unfold rEm; omega), a6, ahd, if_neg hisP, ahd_old ho hidx (by omega) _ E (Nat.le_refl _)]
      cases ha : ahd S (nI lg) E with
      | none => rfl
      | some i =>
        have := ahd_lt S _ _ _ ha
        simp only [Option.bind_some]
        rw [hR7 i this]
  · exact I10.yes i10 ho (hZ 12 0 (by omega)) t4 t3 t1 l19 rfl t2.tm t5
  · refine I11_ab.mpr ⟨I1a.yes ia ho t3 t1 l19 rfl t5, I1b.no ib ho (hx 0 9 (by omega) (by unfold eP eL; omega)) (fun _ => ?_)⟩
    rcases n56 with z | z <;> rw [z] <;> decide
  · obtain ⟨a, b', c⟩ := i12
    obtain ⟨o0, o1, o2⟩ := cnt_own (f := gX S 22) (g := gX S6 22) (n := n) (b := b) (d := -1) (o := -1) (by omega) h1 h5 (Or.inl rfl) (Or.inl rfl) (by
      intro j hj
      have hne : ¬ (-1 : Int32) = nI j := fun z => nI_ne (by omega) z.symm
      rw [mo j (by omega)]
      by_cases z : j = b
      · rw [if_pos (Or.inl z), if_pos (Or.inl z)]
      · rw [if_neg, if_neg]
        · intro y
          rcases y with y | y | y
          · exact z y
          · exact hne y
          · exact hne y
        · intro y
          rcases y with y | y
          · exact z y
          · omega)
    have om : one (-1) = 0 := rfl
    rw [om] at o0 o1
    have on : gX S6 22 n = 1 := by rw [mo n (by omega), if_pos (Or.inr rfl)]
    have z10 : ¬ (1 : Int32) = 0 := by decide
    have z12 : ¬ (1 : Int32) = 2 := by decide
    unfold I12
    rw [cnt, cnt, cnt, on, if_neg z10, if_pos rfl, if_neg z12, e11, b', g14, hx 8 4 (by omega) (by unfold eP eL; omega)]
    simp only [lnM] at a ⊢
    refine ⟨by omega, ?_, ?_⟩
    · have e2 : (1 : Int32) + 1 = nI 2 := by decide
      rw [e2, nj_add]; congr 1; omega
    · rw [c]; congr 1; omega
