/-! A LINE THAT IS A PART OF A PAUSE. -/
theorem evP.sn {S S1 S2 : GS} {n q : Nat} {e : Nat → Int32} {x : Int32} (hsn : Sn S S1 S2 n e x) (h : evP S q) : evP S2 q :=
  ⟨h.1, by rw [hsn.N]; have := h.2.1; omega, by rw [hsn.K q h.2.1]; exact h.2.2⟩
theorem nE40 {S4 : GS} {E : Nat} (h : gX S4 14 25 = nI E) (hE : E < 40) : gX S4 14 25 ≠ 40 := by
  rw [h]
  intro a
  exact absurd ((nj_eq (b := 40) (by omega) (by omega)).mp a) (by omega)
theorem ln_part2 {S S1 S2 : GS} {cap n E P lg pl k c : Nat} {oP oM : Option Nat} {dP : Int32 × Int32} {e : Nat → Int32} (h : Inw S cap n E P lg pl oP oM dP) (hcap : cap < 48) (hft : Ft S pl 2 k c) (hen : En e 2 k c (rnm (gX S 15) pl (mld 2 k c))) (hsn : Sn S S1 S2 n e (fTm (rnm (gX S 15) pl (mld 2 k c)))) : wX8_addPart S2 0 5 (fun u S5 => gSh S5 S2 → gExt S5 S1 → wX8_line_66 (Kk S cap) 0 (gN S) 1 u S5) := by
  have h39 := h.1.1.1
  obtain ⟨_, i2, i3, i4, i5, i6, i7, i8, i9, i10, i11, i12⟩ := id h
  obtain ⟨ia, ib⟩ := I11_ab.mp i11
  obtain ⟨k1, k2, k3, k4, k5, k6, k7, k8⟩ := i3
  have hs6 : k ≤ 2 ∧ c ≤ 2 := by have := hft.2.1; unfold vld at this; omega
  have okt := ns_okT (by omega) hs6.1 hs6.2 hft.2.2
  generalize hns : rnm (gX S 15) pl (mld 2 k c) = ns at *
  obtain ⟨en0, en12, en3, en4, en56, en7, en8⟩ := hen
  have e3 : gX S2 5 3 = fId ns := by rw [hsn.en 3]; exact en3
  have hnb : ∀ S4, Vw S S4 n E lg 2 k c ns → ¬ ∃ j, j < n ∧ cBk S4 n j := fun S4 hv => not_back hv i4 ia okt.2.1.1 hsn.2.2.2.2
  have hE40 : E < 40 := by omega
  have hcp : cPt 2 = 10 := by rfl
  refine q_addPart (s := 2) hsn.fix (by rw [hsn.en 0]; exact en0) (by omega) ?_ ?_
  · intro hno _ _
    rw [hsn.R 0 7 (by omega)] at hno
    refine sn_bad (w := 5) h hcap hft (by rw [hns]; exact hsn) (by decide) (by decide) (by decide) (by decide) (fun S4 hv Q' hQ => ?_)
    rw [hns] at hv
    have hop : gX S4 14 30 = -1 := by
      rw [hv.2.2.2.2.2.1]
      cases oP with
      | none => exact (show gR S 0 7 = none ∧ gX S 14 30 = -1 from i7).2
      | some q' =>
        rw [i7.1] at hno; exact absurd hno (by simp)
    refine q_ww_more (s := 2) hv.1 (by omega) hv.2.2.2.2.2.2.2.1 (by omega) (by omega) (nE40 hv.2.2.2.2.1 hE40) (op := -1) (by rw [if_pos (by omega)]; exact hop.symm) (fun y => absurd y (hnb S4 hv)) (fun _ _ => hQ) (fun b hb hb5 => absurd hb.symm (nI_ne (by omega))) (Or.inl rfl)
  · intro q hq
    rw [hsn.R 0 7 (by omega)] at hq
    cases oP with
    | none =>
      rw [(show gR S 0 7 = none ∧ gX S 14 30 = -1 from i7).1] at hq; exact absurd hq (by simp)
    | some q' =>
    obtain ⟨a7, ⟨b, hop⟩, a7n⟩ : gR S 0 7 = some q' ∧ (∃ b, OpP S n q' b dP.1 dP.2) ∧ ∀ i, i < E → gR S 7 i ≠ some q' := i7
    have eq : q' = q := by rw [hq] at a7; injection a7 with a7; exact a7.symm
    subst eq
    have hop' := hop
    obtain ⟨h0, h1, h2, h3, h4, h5, g0, g1, g2, g3, g4, g6, g7, g8, g10, g11, g12, g13, g14, l1, l2, w1, w2, u1, u2⟩ := hop
    have x2 : ∀ j, gX S2 q' j = gX S q' j := fun j => hsn.X q' j h0.2.1 (by have := h0.1; omega)
    have hb30 : ∀ S4, Vw S S4 n E lg 2 k c ns → gX S4 14 30 = nI b := fun S4 hv => by rw [hv.2.2.2.2.2.1]; exact h2
    have hid : ∀ S4, Vw S S4 n E lg 2 k c ns → (gX S4 27 b = gX S4 27 n ↔ gX S2 q' 1 = gX S2 5 3) := fun S4 hv => by
      rw [x2, g1, e3, hv.2.1.1 27 (by omega) b h1, hv.2.2.2.2.2.2.2.2.2.2.2.1]
    have hbb : ∀ b', nI b = nI b' → b' < 512 → b' = b := fun b' z z5 => ((nj_eq (by omega) (by omega)).mp z).symm
    have hdm : gX S2 q' (cPt 2) = -1 ↔ dP.1 = -1 := by
      rw [hcp, x2, g10]
      exact szo_m1 (E := E) (by omega) (Or.inl rfl) i4 (by omega) l1
    refine ⟨evP.sn hsn h0, fun z _ _ => ?_, fun z => ⟨fun zd _ _ => ?_, fun zd S3 hA _ _ => ?_⟩⟩
    · refine sn_bad (w := 5) h hcap hft (by rw [hns]; exact hsn) (by decide) (by decide) (by decide) (by decide) (fun S4 hv Q' hQ => ?_)
      rw [hns] at hv
      refine q_ww_more (s := 2) hv.1 (by omega) hv.2.2.2.2.2.2.2.1 (by omega) (by omega) (nE40 hv.2.2.2.2.1 hE40) (op := nI b) (by rw [if_pos (by omega), hb30 S4 hv]) (fun y => absurd y (hnb S4 hv)) (fun _ _ => hQ) (fun b' hb hb5 => ?_) (Or.inr ⟨b, by omega, rfl⟩)
      have := hbb b' hb hb5
      subst this
      exact ⟨fun _ _ => hQ, fun y => absurd ((hid S4 hv).mp y) z⟩
    · have zd' : dP.1 ≠ -1 := fun y => zd (hdm.mpr y)
      refine sn_bad (w := 6) h hcap hft (by rw [hns]; exact hsn) (by decide) (by decide) (by decide) (by decide) (fun S4 hv Q' hQ => ?_)
      rw [hns] at hv
      refine q_ww_more (s := 2) hv.1 (by omega) hv.2.2.2.2.2.2.2.1 (by omega) (by omega) (nE40 hv.2.2.2.2.1 hE40) (op := nI b) (by rw [if_pos (by omega), hb30 S4 hv]) (fun y => absurd y (hnb S4 hv)) (fun _ y => absurd y (nI_ne (by omega))) (fun b' hb hb5 => ?_) (Or.inr ⟨b, by omega, rfl⟩)
      have := hbb b' hb hb5
      subst this
      refine ⟨fun y => absurd ((hid S4 hv).mpr z) y, fun _ _ Q2 q6 _ => ?_⟩
      exact q_isWrong_part (s := 2) (d := dP.1) hv.1 hv.2.2.2.1 (by omega) (by rw [hv.2.2.2.2.2.2.2.1]; decide) (by decide) (hb30 S4 hv) h1 ((hop'.isD i4 hv.2.1 (by omega)).1) (fun _ => q6 hQ) (fun y => absurd y zd')
    · have zd' : dP.1 = -1 := hdm.mp zd
      obtain ⟨A1, A2, A3, A4⟩ := hA
      rw [hcp] at A1 A2 A3
      refine c_good (by decide) (fun _ => ?_)
      have hfr3 : Fr3 (fun k j => xS k j ∨ (k = q' ∧ (j = 10 ∨ j = 11 ∨ j = 14))) (fun _ _ => False) (fun _ _ => False) S S3 := (hsn.fr.mono (fun k j y => Or.inl y) (fun _ _ y => y) (fun _ _ y => y)).tr (Fr3.ag A1 (fun k j y => Or.inr y))
      have f3 : Fix S3 := hsn.fix.ag A1
      have q39 := h0.1
      have hrs : RS S S3 := RS.of h39 f3 hfr3 (fun k j y => by unfold xS at y; omega)
      refine r_fit h hcap hrs hft.1 (fun S4 hp h29 hv => ?_)
      rw [hns] at hv
      refine q_ww_more (s := 2) hv.1 (by omega) hv.2.2.2.2.2.2.2.1 (by omega) (by omega) (nE40 hv.2.2.2.2.1 hE40) (op := nI b) (by rw [if_pos (by omega), hb30 S4 hv]) (fun y => absurd y (hnb S4 hv)) (fun _ y => absurd y (nI_ne (by omega))) (fun b' hb hb5 => ?_) (Or.inr ⟨b, by omega, rfl⟩)
      have := hbb b' hb hb5
      subst this
      refine ⟨fun y => absurd ((hid S4 hv).mpr z) y, fun hidd _ Q2 _ q0 => ?_⟩
      refine q_isWrong_part (s := 2) (d := dP.1) hv.1 hv.2.2.2.1 (by omega) (by rw [hv.2.2.2.2.2.2.2.1]; decide) (by decide) (hb30 S4 hv) h1 ((hop'.isD i4 hv.2.1 (by omega)).1) (fun y => absurd zd' y) (fun _ => q0 (fun _ => ?_))
      refine r_good (s := 2) hv.1 hv.2.2.2.1 (by omega) hv.2.2.2.2.2.2.2.1 (by omega) (fun y => absurd y (by omega)) (fun y => absurd y (by omega)) (fun _ S6 g5 => ?_) (fun y => absurd y (by omega))
      obtain ⟨f5, a5, b20, b21, b22, b19⟩ := g5
      obtain ⟨f4, a4, p19, p21, p1, p32⟩ := hp
      have hl := hv.2.2.2.2.2.2.2
      have x6 : ∀ k j, (k < 14 ∨ 36 < k) → gX S6 k j = gX S3 k j := fun k j hk => by
        rw [a5.X k j (rg_x hk), a4.X k j (pL_x hk)]
      have y6 : ∀ k j, k ≠ 14 → ¬ ((k = 20 ∨ k = 21 ∨ k = 22) ∧ j = n) → gX S6 k j = gX S4 k j := fun k j hk hj => a5.X k j (by omega)
      have hl6 : Lf S6 n 2 k c ns := hl.tr (fun a j ha => y6 a j (by omega) (by omega))
      have fr6 : Fr3 (eA n q') (fun _ _ => False) (fun _ _ => False) S S6 := by
        refine ((hfr3.mono (fun k j y => ?_) (fun _ _ y => y) (fun _ _ y => y)).tr (Fr3.ag a4 (fun k j y => Or.inl (pL_eL y)))).tr (Fr3.ag a5 (fun k j y => Or.inl (RG_eL y)))
        rcases y with y | y
        · exact Or.inl (xS_eL y)
        · exact Or.inr ⟨y.1, by omega⟩
      have z28 := hl6.2.2.2.2.2.1
      have z280 := z28 0 (by decide)
      rw [Nat.add_zero] at z280
      refine fun _ => ⟨rfl, n + 1, E, P, lg, 0, some q', oM, (nI n, dP.2), ?_⟩
      refine asm_part2 (b := b') h hcap hop' zd' f5 (closed_ag a5 (closed_ag a4 (closed_ag A1 hsn.cl))) fr6 ?_ ?_ b19 ?_ ?_ b21 b22 ?_ ?_ ?_ ?_ ?_ ?_ ?_ ?_
      · rw [x6 0 10 (by omega), A1.X 0 10 (by omega)]; exact hsn.ln.1
      · rw [x6 1 1 (by omega), A1.X 1 1 (by omega)]; exact hsn.ln.2
      · rw [a5.X 14 1 (by omega)]; exact p1
      · rw [y6 19 n (by omega) (by omega), p19, hrs.2 14 20 (by omega) (by omega)]; exact k8
      · rw [hl6.1]; decide
      · rw [hl6.2.2.2.2.1, ← e3, ← z, x2, g1]
      · refine ⟨b20, ?_, ?_, ?_, ?_⟩
        · have hl7 := hl6
          rw [← hns] at hl7
          exact hl7.rng hft.2.1 hft.2.2
        · rw [x6 12 2 (by omega), A1.X 12 2 (by omega), hl6.2.2.2.1]; exact hsn.2.2.1
        · rw [x6 12 1 (by omega), A1.X 12 1 (by omega), hl6.2.2.2.1]; exact hsn.2.2.2.1
        · rw [hl6.2.2.2.1]; exact hsn.2.2.2.2
      · rw [x6 _ _ (by omega), A2, hsn.en 5, (en56 (by omega)).1, z280]
      · rw [x6 _ _ (by omega), A3, hsn.en 6, (en56 (by omega)).2, z28 1 (by decide)]
      · rw [x6 _ _ (by omega), A1.X _ _ (by omega), x2]
      · rw [x6 _ _ (by omega), A1.X _ _ (by omega), x2]
      · rw [x6 _ _ (by omega), A4, x2]

theorem ln_part3 {S S1 S2 : GS} {cap n E P lg pl k c : Nat} {oP oM : Option Nat} {dP : Int32 × Int32} {e : Nat → Int32} (h : Inw S cap n E P lg pl oP oM dP) (hcap : cap < 48) (hft : Ft S pl 3 k c) (hen : En e 3 k c (rnm (gX S 15) pl (mld 3 k c))) (hsn : Sn S S1 S2 n e (fTm (rnm (gX S 15) pl (mld 3 k c)))) : wX8_addPart S2 0 5 (fun u S5 => gSh S5 S2 → gExt S5 S1 → wX8_line_66 (Kk S cap) 0 (gN S) 1 u S5) := by
  have h39 := h.1.1.1
  obtain ⟨_, i2, i3, i4, i5, i6, i7, i8, i9, i10, i11, i12⟩ := id h
  obtain ⟨ia, ib⟩ := I11_ab.mp i11
  obtain ⟨k1, k2, k3, k4, k5, k6, k7, k8⟩ := i3
  have hs6 : k ≤ 2 ∧ c ≤ 2 := by have := hft.2.1; unfold vld at this; omega
  have okt := ns_okT (by omega) hs6.1 hs6.2 hft.2.2
  generalize hns : rnm (gX S 15) pl (mld 3 k c) = ns at *
  obtain ⟨en0, en12, en3, en4, en56, en7, en8⟩ := hen
  have e3 : gX S2 5 3 = fId ns := by rw [hsn.en 3]; exact en3
  have hnb : ∀ S4, Vw S S4 n E lg 3 k c ns → ¬ ∃ j, j < n ∧ cBk S4 n j := fun S4 hv => not_back hv i4 ia okt.2.1.1 hsn.2.2.2.2
  have hE40 : E < 40 := by omega
  have hcp : cPt 3 = 12 := by rfl
  refine q_addPart (s := 3) hsn.fix (by rw [hsn.en 0]; exact en0) (by omega) ?_ ?_
  · intro hno _ _
    rw [hsn.R 0 7 (by omega)] at hno
    refine sn_bad (w := 5) h hcap hft (by rw [hns]; exact hsn) (by decide) (by decide) (by decide) (by decide) (fun S4 hv Q' hQ => ?_)
    rw [hns] at hv
    have hop : gX S4 14 30 = -1 := by
      rw [hv.2.2.2.2.2.1]
      cases oP with
      | none => exact (show gR S 0 7 = none ∧ gX S 14 30 = -1 from i7).2
      | some q' =>
        rw [i7.1] at hno; exact absurd hno (by simp)
    refine q_ww_more (s := 3) hv.1 (by omega) hv.2.2.2.2.2.2.2.1 (by omega) (by omega) (nE40 hv.2.2.2.2.1 hE40) (op := -1) (by rw [if_pos (by omega)]; exact hop.symm) (fun y => absurd y (hnb S4 hv)) (fun _ _ => hQ) (fun b hb hb5 => absurd hb.symm (nI_ne (by omega))) (Or.inl rfl)
  · intro q hq
    rw [hsn.R 0 7 (by omega)] at hq
    cases oP with
    | none =>
      rw [(show gR S 0 7 = none ∧ gX S 14 30 = -1 from i7).1] at hq; exact absurd hq (by simp)
    | some q' =>
    obtain ⟨a7, ⟨b, hop⟩, a7n⟩ : gR S 0 7 = some q' ∧ (∃ b, OpP S n q' b dP.1 dP.2) ∧ ∀ i, i < E → gR S 7 i ≠ some q' := i7
    have eq : q' = q := by rw [hq] at a7; injection a7 with a7; exact a7.symm
    subst eq
    have hop' := hop
    obtain ⟨h0, h1, h2, h3, h4, h5, g0, g1, g2, g3, g4, g6, g7, g8, g10, g11, g12, g13, g14, l1, l2, w1, w2, u1, u2⟩ := hop
    have x2 : ∀ j, gX S2 q' j = gX S q' j := fun j => hsn.X q' j h0.2.1 (by have := h0.1; omega)
    have hb30 : ∀ S4, Vw S S4 n E lg 3 k c ns → gX S4 14 30 = nI b := fun S4 hv => by rw [hv.2.2.2.2.2.1]; exact h2
    have hid : ∀ S4, Vw S S4 n E lg 3 k c ns → (gX S4 27 b = gX S4 27 n ↔ gX S2 q' 1 = gX S2 5 3) := fun S4 hv => by
      rw [x2, g1, e3, hv.2.1.1 27 (by omega) b h1, hv.2.2.2.2.2.2.2.2.2.2.2.1]
    have hbb : ∀ b', nI b = nI b' → b' < 512 → b' = b := fun b' z z5 => ((nj_eq (by omega) (by omega)).mp z).symm
    have hdm : gX S2 q' (cPt 3) = -1 ↔ dP.2 = -1 := by
      rw [hcp, x2, g12]
      exact szo_m1 (E := E) (by omega) (Or.inr rfl) i4 (by omega) l2
    refine ⟨evP.sn hsn h0, fun z _ _ => ?_, fun z => ⟨fun zd _ _ => ?_, fun zd S3 hA _ _ => ?_⟩⟩
    · refine sn_bad (w := 5) h hcap hft (by rw [hns]; exact hsn) (by decide) (by decide) (by decide) (by decide) (fun S4 hv Q' hQ => ?_)
      rw [hns] at hv
      refine q_ww_more (s := 3) hv.1 (by omega) hv.2.2.2.2.2.2.2.1 (by omega) (by omega) (nE40 hv.2.2.2.2.1 hE40) (op := nI b) (by rw [if_pos (by omega), hb30 S4 hv]) (fun y => absurd y (hnb S4 hv)) (fun _ _ => hQ) (fun b' hb hb5 => ?_) (Or.inr ⟨b, by omega, rfl⟩)
      have := hbb b' hb hb5
      subst this
      exact ⟨fun _ _ => hQ, fun y => absurd ((hid S4 hv).mp y) z⟩
    · have zd' : dP.2 ≠ -1 := fun y => zd (hdm.mpr y)
      refine sn_bad (w := 6) h hcap hft (by rw [hns]; exact hsn) (by decide) (by decide) (by decide) (by decide) (fun S4 hv Q' hQ => ?_)
      rw [hns] at hv
      refine q_ww_more (s := 3) hv.1 (by omega) hv.2.2.2.2.2.2.2.1 (by omega) (by omega) (nE40 hv.2.2.2.2.1 hE40) (op := nI b) (by rw [if_pos (by omega), hb30 S4 hv]) (fun y => absurd y (hnb S4 hv)) (fun _ y => absurd y (nI_ne (by omega))) (fun b' hb hb5 => ?_) (Or.inr ⟨b, by omega, rfl⟩)
      have := hbb b' hb hb5
      subst this
      refine ⟨fun y => absurd ((hid S4 hv).mpr z) y, fun _ _ Q2 q6 _ => ?_⟩
      exact q_isWrong_part (s := 3) (d := dP.2) hv.1 hv.2.2.2.1 (by omega) (by rw [hv.2.2.2.2.2.2.2.1]; decide) (by decide) (hb30 S4 hv) h1 ((hop'.isD i4 hv.2.1 (by omega)).2) (fun _ => q6 hQ) (fun y => absurd y zd')
    · have zd' : dP.2 = -1 := hdm.mp zd
      obtain ⟨A1, A2, A3, A4⟩ := hA
      rw [hcp] at A1 A2 A3
      refine c_good (by decide) (fun _ => ?_)
      have hfr3 : Fr3 (fun k j => xS k j ∨ (k = q' ∧ (j = 12 ∨ j = 13 ∨ j = 14))) (fun _ _ => False) (fun _ _ => False) S S3 := (hsn.fr.mono (fun k j y => Or.inl y) (fun _ _ y => y) (fun _ _ y => y)).tr (Fr3.ag A1 (fun k j y => Or.inr y))
      have f3 : Fix S3 := hsn.fix.ag A1
      have q39 := h0.1
      have hrs : RS S S3 := RS.of h39 f3 hfr3 (fun k j y => by unfold xS at y; omega)
      refine r_fit h hcap hrs hft.1 (fun S4 hp h29 hv => ?_)
      rw [hns] at hv
      refine q_ww_more (s := 3) hv.1 (by omega) hv.2.2.2.2.2.2.2.1 (by omega) (by omega) (nE40 hv.2.2.2.2.1 hE40) (op := nI b) (by rw [if_pos (by omega), hb30 S4 hv]) (fun y => absurd y (hnb S4 hv)) (fun _ y => absurd y (nI_ne (by omega))) (fun b' hb hb5 => ?_) (Or.inr ⟨b, by omega, rfl⟩)
      have := hbb b' hb hb5
      subst this
      refine ⟨fun y => absurd ((hid S4 hv).mpr z) y, fun hidd _ Q2 _ q0 => ?_⟩
      refine q_isWrong_part (s := 3) (d := dP.2) hv.1 hv.2.2.2.1 (by omega) (by rw [hv.2.2.2.2.2.2.2.1]; decide) (by decide) (hb30 S4 hv) h1 ((hop'.isD i4 hv.2.1 (by omega)).2) (fun y => absurd zd' y) (fun _ => q0 (fun _ => ?_))
      refine r_good (s := 3) hv.1 hv.2.2.2.1 (by omega) hv.2.2.2.2.2.2.2.1 (by omega) (fun y => absurd y (by omega)) (fun y => absurd y (by omega)) (fun _ S6 g5 => ?_) (fun y => absurd y (by omega))
      obtain ⟨f5, a5, b20, b21, b22, b19⟩ := g5
      obtain ⟨f4, a4, p19, p21, p1, p32⟩ := hp
      have hl := hv.2.2.2.2.2.2.2
      have x6 : ∀ k j, (k < 14 ∨ 36 < k) → gX S6 k j = gX S3 k j := fun k j hk => by
        rw [a5.X k j (rg_x hk), a4.X k j (pL_x hk)]
      have y6 : ∀ k j, k ≠ 14 → ¬ ((k = 20 ∨ k = 21 ∨ k = 22) ∧ j = n) → gX S6 k j = gX S4 k j := fun k j hk hj => a5.X k j (by omega)
      have hl6 : Lf S6 n 3 k c ns := hl.tr (fun a j ha => y6 a j (by omega) (by omega))
      have fr6 : Fr3 (eA n q') (fun _ _ => False) (fun _ _ => False) S S6 := by
        refine ((hfr3.mono (fun k j y => ?_) (fun _ _ y => y) (fun _ _ y => y)).tr (Fr3.ag a4 (fun k j y => Or.inl (pL_eL y)))).tr (Fr3.ag a5 (fun k j y => Or.inl (RG_eL y)))
        rcases y with y | y
        · exact Or.inl (xS_eL y)
        · exact Or.inr ⟨y.1, by omega⟩
      have z28 := hl6.2.2.2.2.2.1
      have z280 := z28 0 (by decide)
      rw [Nat.add_zero] at z280
      refine fun _ => ⟨rfl, n + 1, E, P, lg, 0, some q', oM, (dP.1, nI n), ?_⟩
      refine asm_part3 (b := b') h hcap hop' zd' f5 (closed_ag a5 (closed_ag a4 (closed_ag A1 hsn.cl))) fr6 ?_ ?_ b19 ?_ ?_ b21 b22 ?_ ?_ ?_ ?_ ?_ ?_ ?_ ?_
      · rw [x6 0 10 (by omega), A1.X 0 10 (by omega)]; exact hsn.ln.1
      · rw [x6 1 1 (by omega), A1.X 1 1 (by omega)]; exact hsn.ln.2
      · rw [a5.X 14 1 (by omega)]; exact p1
      · rw [y6 19 n (by omega) (by omega), p19, hrs.2 14 20 (by omega) (by omega)]; exact k8
      · rw [hl6.1]; decide
      · rw [hl6.2.2.2.2.1, ← e3, ← z, x2, g1]
      · refine ⟨b20, ?_, ?_, ?_, ?_⟩
        · have hl7 := hl6
          rw [← hns] at hl7
          exact hl7.rng hft.2.1 hft.2.2
        · rw [x6 12 2 (by omega), A1.X 12 2 (by omega), hl6.2.2.2.1]; exact hsn.2.2.1
        · rw [x6 12 1 (by omega), A1.X 12 1 (by omega), hl6.2.2.2.1]; exact hsn.2.2.2.1
        · rw [hl6.2.2.2.1]; exact hsn.2.2.2.2
      · rw [x6 _ _ (by omega), A2, hsn.en 5, (en56 (by omega)).1, z280]
      · rw [x6 _ _ (by omega), A3, hsn.en 6, (en56 (by omega)).2, z28 1 (by decide)]
      · rw [x6 _ _ (by omega), A1.X _ _ (by omega), x2]
      · rw [x6 _ _ (by omega), A1.X _ _ (by omega), x2]
      · rw [x6 _ _ (by omega), A4, x2]

