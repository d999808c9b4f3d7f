/-! A LINE THAT ENDS AN EVENT, BOTH SIDES. -/
theorem xEp_eP {n E q k j : Nat} (z : xEp q k j) : eP n E q 30 k j := by
  unfold xEp at z
  unfold eP
  rcases z with z | z | z | z
  · exact Or.inr (Or.inr (Or.inl ⟨z.1, by omega⟩))
  · exact Or.inr (Or.inr (Or.inr (Or.inl z)))
  · exact Or.inr (Or.inr (Or.inr (Or.inr (Or.inl z))))
  · exact Or.inr (Or.inr (Or.inr (Or.inr (Or.inr (Or.inl z)))))
theorem xEm_eP {n E q k j : Nat} (z : xEm q k j) : eP n E q 31 k j := by
  unfold xEm at z
  unfold eP
  rcases z with z | z | z
  · exact Or.inr (Or.inr (Or.inl ⟨z.1, by omega⟩))
  · exact Or.inr (Or.inr (Or.inr (Or.inr (Or.inl z))))
  · exact Or.inr (Or.inr (Or.inr (Or.inr (Or.inr (Or.inl z)))))
theorem pMe_eP {n E q sl k j : Nat} (z : pMe E sl k j) : eP n E q sl k j := by
  unfold pMe at z
  unfold eP
  rcases z with z | z | z
  · exact Or.inr (Or.inr (Or.inr (Or.inr (Or.inr (Or.inr (Or.inr z))))))
  · exact Or.inr (Or.inr (Or.inr (Or.inr (Or.inr (Or.inr (Or.inl z))))))
  · exact Or.inr (Or.inl z)
theorem isD_nx {S4 S5 : GS} {n b : Nat} {s d : Int32} (h : isD S4 n b s d) (h21 : ∀ j, j < n → gX S5 21 j = gX S4 21 j) (h23 : ∀ j, j < n + 1 → gX S5 23 j = gX S4 23 j) (hn : gX S4 23 n ≠ s) : isD S5 (n + 1) b s d := by
  refine ⟨fun j hb hj ht hs => ?_, ?_⟩
  · by_cases e : j = n
    · subst e; rw [h23 j (by omega)] at hs; exact absurd hs hn
    · rw [h21 j (by omega)] at ht
      rw [h23 j (by omega)] at hs
      exact h.1 j hb (by omega) ht hs
  · rcases h.2 with e | ⟨j, h1, h2, h3, h4, h5⟩
    · exact Or.inl e
    · exact Or.inr ⟨j, h1, by omega, by rw [h21 j h2]; exact h3, by rw [h23 j (by omega)]; exact h4, h5⟩
theorem ln_endP {S S1 S2 : GS} {cap n E P lg pl k c : Nat} {oP oM : Option Nat} {dP : Int32 × Int32} {e : Nat → Int32} (h : Inw S cap n E P lg pl oP oM dP) (hcap : cap < 48) (hft : Ft S pl 1 k c) (hen : En e 1 k c (rnm (gX S 15) pl (mld 1 k c))) (hsn : Sn S S1 S2 n e (fTm (rnm (gX S 15) pl (mld 1 k c)))) : wX8_endPause S2 0 5 (fun u S5 => gSh S5 S2 → gExt S5 S1 → wX8_line_66 (Kk S cap) 0 (gN S) 1 u S5) := by
  have h39 := h.1.1.1
  obtain ⟨_, i2, i3, i4, i5, i6, i7, i8, i9, i10, i11, i12⟩ := id h
  obtain ⟨ia, ib⟩ := I11_ab.mp i11
  obtain ⟨k1, k2, k3, k4, k5, k6, k7, k8⟩ := i3
  have hs6 : k ≤ 2 ∧ c ≤ 2 := by have := hft.2.1; unfold vld at this; omega
  have okt := ns_okT (by omega) hs6.1 hs6.2 hft.2.2
  generalize hns : rnm (gX S 15) pl (mld 1 k c) = ns at *
  obtain ⟨en0, en12, en3, en4, en56, en7, en8⟩ := hen
  have e3 : gX S2 5 3 = fId ns := by rw [hsn.en 3]; exact en3
  have hnb : ∀ S4, Vw S S4 n E lg 1 k c ns → ¬ ∃ j, j < n ∧ cBk S4 n j := fun S4 hv => not_back hv i4 ia okt.2.1.1 hsn.2.2.2.2
  have hE40 : E < 40 := by omega
  refine q_endPause (E := E) hsn.fix (by rw [hsn.X 6 1 (by omega) (by omega)]; exact i6.1) hE40 ?_ ?_
  · intro hno _ _
    rw [hsn.R 0 7 (by omega)] at hno
    refine sn_bad (w := 5) h hcap hft (by rw [hns]; exact hsn) (by decide) (by decide) (by decide) (by decide) (fun S4 hv Q' hQ => ?_)
    rw [hns] at hv
    have hop : gX S4 14 30 = -1 := by
      rw [hv.2.2.2.2.2.1]
      cases oP with
      | none => exact (show gR S 0 7 = none ∧ gX S 14 30 = -1 from i7).2
      | some q' =>
        rw [i7.1] at hno; exact absurd hno (by simp)
    refine q_ww_more (s := 1) hv.1 (by omega) hv.2.2.2.2.2.2.2.1 (by omega) (by omega) (nE40 hv.2.2.2.2.1 hE40) (op := -1) (by rw [if_pos (by omega)]; exact hop.symm) (fun y => absurd y (hnb S4 hv)) (fun _ _ => hQ) (fun b hb hb5 => absurd hb.symm (nI_ne (by omega))) (Or.inl rfl)
  · intro q hq
    rw [hsn.R 0 7 (by omega)] at hq
    cases oP with
    | none =>
      rw [(show gR S 0 7 = none ∧ gX S 14 30 = -1 from i7).1] at hq; exact absurd hq (by simp)
    | some q' =>
    obtain ⟨a7, ⟨b, hop⟩, a7n⟩ : gR S 0 7 = some q' ∧ (∃ b, OpP S n q' b dP.1 dP.2) ∧ ∀ i, i < E → gR S 7 i ≠ some q' := i7
    have eq : q' = q := by rw [hq] at a7; injection a7 with a7; exact a7.symm
    subst eq
    have hop' := hop
    obtain ⟨h0, h1, h2, h3, h4, h5, g0, g1, g2, g3, g4, g6, g7, g8, g10, g11, g12, g13, g14, l1, l2, w1, w2, u1, u2⟩ := hop
    have x2 : ∀ j, gX S2 q' j = gX S q' j := fun j => hsn.X q' j h0.2.1 (by have := h0.1; omega)
    have hb30 : ∀ S4, Vw S S4 n E lg 1 k c ns → gX S4 14 30 = nI b := fun S4 hv => by rw [hv.2.2.2.2.2.1]; exact h2
    have hid : ∀ S4, Vw S S4 n E lg 1 k c ns → (gX S4 27 b = gX S4 27 n ↔ gX S2 q' 1 = gX S2 5 3) := fun S4 hv => by
      rw [x2, g1, e3, hv.2.1.1 27 (by omega) b h1, hv.2.2.2.2.2.2.2.2.2.2.2.1]
    have hbb : ∀ b', nI b = nI b' → b' < 512 → b' = b := fun b' z z5 => ((nj_eq (by omega) (by omega)).mp z).symm
    have hwi : ∀ S4, Vw S S4 n E lg 1 k c ns → (cw1 S2 q' ↔ wr1 S4 n b dP.1 dP.2) := fun S4 hv => wrong_iff hv i4 hop' (by omega) (fun _ => rfl) x2 (by rw [hsn.en 1]; exact (en12 (by omega)).1) (by rw [hsn.en 2]; exact (en12 (by omega)).2) (by rw [hsn.en 4]; exact en4) (by rw [hsn.en 5]; exact (en56 (by omega)).1) (by rw [hsn.en 6]; exact (en56 (by omega)).2) (by rw [hsn.en 7]; exact en7 rfl) (by rw [hsn.en 8]; exact en8 (by omega))
    have hahd : ∀ a, gR S 13 0 = some a → evP S a ∧ a ≠ q' := by
      intro a ha
      have := i9.2.2.2.2.2
      rw [ha] at this
      cases hj : ahd S (nI lg) E with
      | none => rw [hj] at this; exact absurd this (by simp)
      | some j =>
        rw [hj, Option.bind_some] at this
        have hlt := ahd_lt S _ _ _ hj
        obtain ⟨qa, y1, y2, _⟩ := i6.2.2 j hlt
        rw [y1] at this
        injection this with this
        subst this
        exact ⟨y2, fun y => a7n j hlt (by rw [y1, y])⟩
    refine ⟨evP.sn hsn h0, fun a ha => ?_, fun z _ _ => ?_, fun z => ⟨fun zd _ _ => ?_, fun zd S3 hA _ _ => ?_⟩⟩
    · rw [hsn.R 13 0 (by omega)] at ha
      exact ⟨evP.sn hsn (hahd a ha).1, (hahd a ha).2⟩
    · refine sn_bad (w := 5) h hcap hft (by rw [hns]; exact hsn) (by decide) (by decide) (by decide) (by decide) (fun S4 hv Q' hQ => ?_)
      rw [hns] at hv
      refine q_ww_more (s := 1) hv.1 (by omega) hv.2.2.2.2.2.2.2.1 (by omega) (by omega) (nE40 hv.2.2.2.2.1 hE40) (op := nI b) (by rw [if_pos (by omega), hb30 S4 hv]) (fun y => absurd y (hnb S4 hv)) (fun _ _ => hQ) (fun b' hb hb5 => ?_) (Or.inr ⟨b, by omega, rfl⟩)
      have := hbb b' hb hb5
      subst this
      exact ⟨fun _ _ => hQ, fun y => absurd ((hid S4 hv).mp y) z⟩
    · refine sn_bad (w := 6) h hcap hft (by rw [hns]; exact hsn) (by decide) (by decide) (by decide) (by decide) (fun S4 hv Q' hQ => ?_)
      rw [hns] at hv
      refine q_ww_more (s := 1) hv.1 (by omega) hv.2.2.2.2.2.2.2.1 (by omega) (by omega) (nE40 hv.2.2.2.2.1 hE40) (op := nI b) (by rw [if_pos (by omega), hb30 S4 hv]) (fun y => absurd y (hnb S4 hv)) (fun _ y => absurd y (nI_ne (by omega))) (fun b' hb hb5 => ?_) (Or.inr ⟨b, by omega, rfl⟩)
      have := hbb b' hb hb5
      subst this
      refine ⟨fun y => absurd ((hid S4 hv).mpr z) y, fun _ _ Q2 q6 _ => ?_⟩
      have hD := hop'.isD i4 hv.2.1 (by omega)
      exact q_isWrong_end hv.1 hv.2.2.2.1 (by omega) (by rw [hv.2.2.2.2.2.2.2.1]; decide) (hb30 S4 hv) h1 hD.1 hD.2 (fun _ => q6 hQ) (fun y => absurd ((hwi S4 hv).mp zd) y)
    · obtain ⟨G1, ⟨F5, F6, F7, F8, F9, F14⟩, T1, T2, T5, T0, Tn, Ta, U61, U11, U7, U07⟩ := hA
      refine c_good (by decide) (fun _ => ?_)
      have q39 := h0.1
      have hfr3 : Fr3 (fun k j => xS k j ∨ xEp q' k j) (fun k _ => k = 13) (rEp E) S S3 := (hsn.fr.mono (fun k j y => Or.inl y) (fun _ _ y => y.elim) (fun _ _ y => y.elim)).tr (Fr3.gf G1 (fun k j y => Or.inr y) (fun _ _ y => y) (fun _ _ y => y))
      have f3 : Fix S3 := G1.fix hsn.fix (fR_ep E)
      have cl3 : closed S3 := by
        intro a j q2 ha hq2
        rw [G1.1] at ha ⊢
        by_cases y : rEp E a j
        · unfold rEp at y
          rcases y with ⟨y1, y2⟩ | ⟨y1, y2⟩ | ⟨y1, y2⟩
          · subst y1 y2; rw [U07] at hq2; exact absurd hq2 (by simp)
          · subst y1 y2; rw [T0] at hq2; injection hq2 with hq2; subst hq2; have := h0.2.1; rw [hsn.N]; omega
          · subst y1 y2; rw [U7] at hq2; injection hq2 with hq2; subst hq2; have := h0.2.1; rw [hsn.N]; omega
        · rw [G1.2.2.2.2.2 a j y] at hq2
          exact hsn.cl a j q2 ha hq2
      have hrs : RS S S3 := RS.of h39 f3 hfr3 (fun k j y => by unfold xS xEp at y; omega)
      refine r_fit h hcap hrs hft.1 (fun S4 hp h29 hv => ?_)
      rw [hns] at hv
      have hD := hop'.isD i4 hv.2.1 (by omega)
      refine q_ww_more (s := 1) hv.1 (by omega) hv.2.2.2.2.2.2.2.1 (by omega) (by omega) (nE40 hv.2.2.2.2.1 hE40) (op := nI b) (by rw [if_pos (by omega), hb30 S4 hv]) (fun y => absurd y (hnb S4 hv)) (fun _ y => absurd y (nI_ne (by omega))) (fun b' hb hb5 => ?_) (Or.inr ⟨b, by omega, rfl⟩)
      have := hbb b' hb hb5
      subst this
      refine ⟨fun y => absurd ((hid S4 hv).mpr z) y, fun hidd _ Q2 _ q0 => ?_⟩
      refine q_isWrong_end hv.1 hv.2.2.2.1 (by omega) (by rw [hv.2.2.2.2.2.2.2.1]; decide) (hb30 S4 hv) h1 hD.1 hD.2 (fun y => absurd ((hwi S4 hv).mpr y) zd) (fun hnw => q0 (fun _ => ?_))
      refine r_good (s := 1) hv.1 hv.2.2.2.1 (by omega) hv.2.2.2.2.2.2.2.1 (by omega) (fun y => absurd y (by omega)) (fun y => absurd y (by omega)) (fun y => absurd y (by omega)) (fun _ S5 g5 => ?_)
      obtain ⟨f5, a5, b20, b21, b22, b19⟩ := g5
      have hl := hv.2.2.2.2.2.2.2
      have s4n : gX S4 23 n = 1 := by rw [hl.1]; decide
      have y5 : ∀ k j, k ≠ 14 → ¬ ((k = 20 ∨ k = 21 ∨ k = 22) ∧ j = n) → gX S5 k j = gX S4 k j := fun k j hk hj => a5.X k j (by omega)
      have hD2 : isD S5 (n + 1) b' 2 dP.1 := isD_nx hD.1 (fun j hj => y5 21 j (by omega) (by omega)) (fun j hj => y5 23 j (by omega) (by omega)) (by rw [s4n]; decide)
      have hD3 : isD S5 (n + 1) b' 3 dP.2 := isD_nx hD.2 (fun j hj => y5 21 j (by omega) (by omega)) (fun j hj => y5 23 j (by omega) (by omega)) (by rw [s4n]; decide)
      refine q_makeEvent_p (E := E) (N := n + 1) (b := b') f5 hE40 (by rw [a5.X 14 25 (by omega)]; exact hv.2.2.2.2.1) (by omega) (by rw [y5 23 n (by omega) (by omega)]; exact s4n) b19 (by omega) (by rw [a5.X 14 30 (by omega)]; exact hb30 S4 hv) (by omega) hD2 hD3 (fun S6 h6 _ => ?_)
      obtain ⟨a6, m30, m31, m32, m33, m25, m0, mo⟩ := h6
      obtain ⟨f4, a4, p19, p21, p1, p32⟩ := hp
      have x6 : ∀ k j, (k < 14 ∨ 36 < k) → gX S6 k j = gX S3 k j := fun k j hk => by
        rw [a6.X k j (by unfold pMe; omega), a5.X k j (rg_x hk), a4.X k j (pL_x hk)]
      have y6 : ∀ k j, k ≠ 14 → (k < 20 ∨ 22 < k) → k < 30 → gX S6 k j = gX S4 k j := fun k j hk hj h30 => by
        rw [a6.X k j (by unfold pMe; omega), a5.X k j (by omega)]
      have hl6 : Lf S6 n 1 k c ns := hl.tr (fun a j ha => y6 a j (by omega) (by omega) (by omega))
      have fr6 : Fr3 (eP n E q' 30) (fun k _ => k = 13) (rEp E) S S6 := by
        refine (((hfr3.mono (fun k j y => ?_) (fun _ _ y => y) (fun _ _ y => y)).tr (Fr3.ag a4 (fun k j y => Or.inl (pL_eL y)))).tr (Fr3.ag a5 (fun k j y => Or.inl (RG_eL y)))).tr (Fr3.ag a6 (fun k j y => pMe_eP y))
        rcases y with y | y
        · exact Or.inl (xS_eL y)
        · exact xEp_eP y
      have z28 := hl6.2.2.2.2.2.1
      have z280 := z28 0 (by decide)
      rw [Nat.add_zero] at z280
      have hR6 : ∀ a j, gR S6 a j = gR S3 a j := fun a j => by rw [a6.R, a5.R, a4.R]
      have hZ6 : ∀ a j, gZ S6 a j = gZ S3 a j := fun a j => by rw [a6.Z, a5.Z, a4.Z]
      have hwr : gX S4 24 n = gX S4 24 b' ∧ gX S4 25 n = gX S4 25 b' := by
        refine ⟨Classical.byContradiction (fun y => hnw (Or.inl y)), Classical.byContradiction (fun y => hnw (Or.inr (Or.inl y)))⟩
      refine fun _ => ⟨rfl, n + 1, E + 1, P, lg, 0, none, oM, dP, ?_⟩
      refine asm_endP (b := b') h hcap hop' (f5.ag a6) (closed_ag a6 (closed_ag a5 (closed_ag a4 cl3))) fr6 ?_ ?_ ?_ ?_ ?_ ?_ ?_ ?_ ?_ ?_ ?_ m30 m31 m32 m33 m25 m0 ?_ ?_ ?_ ?_ ?_ ?_ ?_ ?_ ?_ ?_ ?_ ?_ ?_ ?_ ?_ ?_ ?_ ?_
      · rw [x6 0 10 (by omega), G1.2.2.2.1 0 10 (by unfold xEp; omega)]; exact hsn.ln.1
      · rw [x6 1 1 (by omega), G1.2.2.2.1 1 1 (by unfold xEp; omega)]; exact hsn.ln.2
      · rw [a6.X 14 19 (by unfold pMe; omega)]; exact b19
      · rw [a6.X 14 1 (by unfold pMe; omega), a5.X 14 1 (by omega)]; exact p1
      · rw [y6 19 n (by omega) (by omega) (by omega), p19, hrs.2 14 20 (by omega) (by omega)]; exact k8
      · rw [a6.X 21 n (by unfold pMe; omega)]; exact b21
      · rw [hl6.1]; decide
      · rw [y6 24 n (by omega) (by omega) (by omega), hwr.1, hv.2.1.1 24 (by omega) b' h1]
      · rw [y6 25 n (by omega) (by omega) (by omega), hwr.2, hv.2.1.1 25 (by omega) b' h1]
      · rw [hl6.2.2.2.2.1, ← e3, ← z, x2, g1]
      · refine ⟨by rw [a6.X 20 n (by unfold pMe; omega)]; exact b20, ?_, ?_, ?_, ?_⟩
        · have hl7 := hl6
          rw [← hns] at hl7
          exact hl7.rng hft.2.1 hft.2.2
        · rw [x6 12 2 (by omega), G1.2.2.2.1 12 2 (by unfold xEp; omega), hl6.2.2.2.1]; exact hsn.2.2.1
        · rw [x6 12 1 (by omega), G1.2.2.2.1 12 1 (by unfold xEp; omega), hl6.2.2.2.1]; exact hsn.2.2.2.1
        · rw [hl6.2.2.2.1]; exact hsn.2.2.2.2
      · intro j hj
        rw [mo j (by omega)]
        by_cases y : j = b' ∨ j = n ∨ dP.1 = nI j ∨ dP.2 = nI j
        · rw [if_pos y, if_pos y]
        · rw [if_neg y, if_neg y, a5.X 22 j (by omega), a4.X 22 j (by unfold pL; omega), hrs.2 22 j (by omega) (by omega)]
      · rw [x6 _ _ (by omega), F5, hsn.en 4, en4, hl6.2.2.2.1]
      · rw [x6 _ _ (by omega), F6, hsn.en 5, (en56 (by omega)).1, z280]
      · rw [x6 _ _ (by omega), F7, hsn.en 6, (en56 (by omega)).2, z28 1 (by decide)]
      · rw [x6 _ _ (by omega), F8, hsn.en 7, en7 rfl, z28 2 (by decide)]
      · rw [x6 _ _ (by omega), F9, hsn.en 8, en8 (by omega), hl6.2.2.2.2.2.2]
      · rw [x6 _ _ (by omega), G1.2.2.2.1 q' 4 (by unfold xEp; omega), x2]
      · rw [x6 _ _ (by omega), F14, x2]
      · rw [x6 13 1 (by omega), T1, hsn.X 13 1 (by omega) (by omega)]
      · rw [hZ6, T2, hsn.Z 13 2 (by omega), hsn.en 8, en8 (by omega), hl6.2.2.2.2.2.2]
      · rw [hZ6, T5, hsn.Z 13 5 (by omega), x2, x2]
      · rw [hR6]; exact T0
      · intro y
        rw [hZ6, hZ6, ← hsn.Z 13 3 (by omega), ← hsn.Z 13 4 (by omega)]
        exact Tn (by rw [hsn.R 13 0 (by omega)]; exact y)
      · intro a y
        have ha := hahd a y
        have := Ta a (by rw [hsn.R 13 0 (by omega)]; exact y)
        rw [hZ6, hZ6, this.1, this.2, hsn.Z 13 3 (by omega), hsn.Z 13 4 (by omega), hsn.en 5, (en56 (by omega)).1, z280, x2, hsn.X a 7 ha.1.2.1 (by have := ha.1.1; omega), hsn.X a 5 ha.1.2.1 (by have := ha.1.1; omega)]
        exact ⟨rfl, rfl⟩
      · rw [x6 6 1 (by omega)]; exact U61
      · rw [x6 0 11 (by omega), U11, hsn.X 0 11 (by omega) (by omega), x2]
      · rw [hR6]; exact U7
      · rw [hR6]; exact U07

theorem ln_endM5 {S S1 S2 : GS} {cap n E P lg pl k c : Nat} {oP oM : Option Nat} {dP : Int32 × Int32} {e : Nat → Int32} (h : Inw S cap n E P lg pl oP oM dP) (hcap : cap < 48) (hft : Ft S pl 5 k c) (hen : En e 5 k c (rnm (gX S 15) pl (mld 5 k c))) (hsn : Sn S S1 S2 n e (fTm (rnm (gX S 15) pl (mld 5 k c)))) : wX8_endMark S2 0 5 (fun u S5 => gSh S5 S2 → gExt S5 S1 → wX8_line_66 (Kk S cap) 0 (gN S) 1 u S5) := by
  have h39 := h.1.1.1
  obtain ⟨_, i2, i3, i4, i5, i6, i7, i8, i9, i10, i11, i12⟩ := id h
  obtain ⟨ia, ib⟩ := I11_ab.mp i11
  obtain ⟨k1, k2, k3, k4, k5, k6, k7, k8⟩ := i3
  have hs6 : k ≤ 2 ∧ c ≤ 2 := by have := hft.2.1; unfold vld at this; omega
  have okt := ns_okT (by omega) hs6.1 hs6.2 hft.2.2
  generalize hns : rnm (gX S 15) pl (mld 5 k c) = ns at *
  obtain ⟨en0, en12, en3, en4, en56, en7, en8⟩ := hen
  have e3 : gX S2 5 3 = fId ns := by rw [hsn.en 3]; exact en3
  have hnb : ∀ S4, Vw S S4 n E lg 5 k c ns → ¬ ∃ j, j < n ∧ cBk S4 n j := fun S4 hv => not_back hv i4 ia okt.2.1.1 hsn.2.2.2.2
  have hE40 : E < 40 := by omega
  refine q_endMark (E := E) (s := 5) hsn.fix (by rw [hsn.X 6 1 (by omega) (by omega)]; exact i6.1) hE40 (by rw [hsn.en 0]; exact en0) (by omega) ?_ ?_
  · intro hno _ _
    rw [hsn.R 0 8 (by omega)] at hno
    refine sn_bad (w := 5) h hcap hft (by rw [hns]; exact hsn) (by decide) (by decide) (by decide) (by decide) (fun S4 hv Q' hQ => ?_)
    rw [hns] at hv
    have hop : gX S4 14 31 = -1 := by
      rw [hv.2.2.2.2.2.2.1]
      cases oM with
      | none => exact (show gR S 0 8 = none ∧ gX S 14 31 = -1 from i8).2
      | some q' =>
        rw [i8.1] at hno; exact absurd hno (by simp)
    refine q_ww_more (s := 5) hv.1 (by omega) hv.2.2.2.2.2.2.2.1 (by omega) (by omega) (nE40 hv.2.2.2.2.1 hE40) (op := -1) (by rw [if_neg (by omega)]; exact hop.symm) (fun y => absurd y (hnb S4 hv)) (fun _ _ => hQ) (fun b hb hb5 => absurd hb.symm (nI_ne (by omega))) (Or.inl rfl)
  · intro q hq
    rw [hsn.R 0 8 (by omega)] at hq
    cases oM with
    | none =>
      rw [(show gR S 0 8 = none ∧ gX S 14 31 = -1 from i8).1] at hq; exact absurd hq (by simp)
    | some q' =>
    obtain ⟨a8, ⟨b, hop⟩, a8n, a8p⟩ : gR S 0 8 = some q' ∧ (∃ b, OpM S n q' b) ∧ (∀ i, i < E → gR S 7 i ≠ some q') ∧ oP ≠ some q' := i8
    have eq : q' = q := by rw [hq] at a8; injection a8 with a8; exact a8.symm
    subst eq
    have hop' := hop
    obtain ⟨h0, h1, h2, h3, h4, h5, g0, g1, g2, g3, g4, g6, g7, g8, g10, g11, g12, g13, g14⟩ := hop
    have x2 : ∀ j, gX S2 q' j = gX S q' j := fun j => hsn.X q' j h0.2.1 (by have := h0.1; omega)
    have hb31 : ∀ S4, Vw S S4 n E lg 5 k c ns → gX S4 14 31 = nI b := fun S4 hv => by rw [hv.2.2.2.2.2.2.1]; exact h2
    have hid : ∀ S4, Vw S S4 n E lg 5 k c ns → (gX S4 27 b = gX S4 27 n ↔ gX S2 q' 1 = gX S2 5 3) := fun S4 hv => by
      rw [x2, g1, e3, hv.2.1.1 27 (by omega) b h1, hv.2.2.2.2.2.2.2.2.2.2.2.1]
    have hbb : ∀ b', nI b = nI b' → b' < 512 → b' = b := fun b' z z5 => ((nj_eq (by omega) (by omega)).mp z).symm
    have hsw : ∀ S4, Vw S S4 n E lg 5 k c ns → (slw (gX S2 5 8) (gX S2 5 4) (gX S2 q' 3) ↔ slw (gX S4 29 n) (gX S4 26 n) (gX S4 26 b)) := fun S4 hv => by
      rw [hsn.en 8, en8 (by omega), hsn.en 4, en4, x2, g3, hv.2.2.2.2.2.2.2.2.2.2.2.2.2, hv.2.2.2.2.2.2.2.2.2.2.1, hv.2.1.1 26 (by omega) b h1]
    refine ⟨evP.sn hsn h0, fun z _ _ => ?_, fun z => ⟨fun zd _ _ => ?_, fun zd S3 hA _ _ => ?_⟩⟩
    · refine sn_bad (w := 5) h hcap hft (by rw [hns]; exact hsn) (by decide) (by decide) (by decide) (by decide) (fun S4 hv Q' hQ => ?_)
      rw [hns] at hv
      refine q_ww_more (s := 5) hv.1 (by omega) hv.2.2.2.2.2.2.2.1 (by omega) (by omega) (nE40 hv.2.2.2.2.1 hE40) (op := nI b) (by rw [if_neg (by omega), hb31 S4 hv]) (fun y => absurd y (hnb S4 hv)) (fun _ _ => hQ) (fun b' hb hb5 => ?_) (Or.inr ⟨b, by omega, rfl⟩)
      have := hbb b' hb hb5
      subst this
      exact ⟨fun _ _ => hQ, fun y => absurd ((hid S4 hv).mp y) z⟩
    · refine sn_bad (w := 6) h hcap hft (by rw [hns]; exact hsn) (by decide) (by decide) (by decide) (by decide) (fun S4 hv Q' hQ => ?_)
      rw [hns] at hv
      refine q_ww_more (s := 5) hv.1 (by omega) hv.2.2.2.2.2.2.2.1 (by omega) (by omega) (nE40 hv.2.2.2.2.1 hE40) (op := nI b) (by rw [if_neg (by omega), hb31 S4 hv]) (fun y => absurd y (hnb S4 hv)) (fun _ y => absurd y (nI_ne (by omega))) (fun b' hb hb5 => ?_) (Or.inr ⟨b, by omega, rfl⟩)
      have := hbb b' hb hb5
      subst this
      refine ⟨fun y => absurd ((hid S4 hv).mpr z) y, fun _ _ Q2 q6 _ => ?_⟩
      exact q_isWrong_mark hv.1 (by omega) (by rw [hv.2.2.2.2.2.2.2.1]; decide) (hb31 S4 hv) h1 (fun _ => q6 hQ) (fun y => absurd ((hsw S4 hv).mp zd.2) y)
    · obtain ⟨G1, F5, F4, F9, F14, U61, U11, U7, U08⟩ := hA
      refine c_good (by decide) (fun _ => ?_)
      have q39 := h0.1
      have hfr3 : Fr3 (fun k j => xS k j ∨ xEm q' k j) (fun _ _ => False) (rEm E) S S3 := (hsn.fr.mono (fun k j y => Or.inl y) (fun _ _ y => y.elim) (fun _ _ y => y.elim)).tr (Fr3.gf G1 (fun k j y => Or.inr y) (fun _ _ y => y) (fun _ _ y => y))
      have f3 : Fix S3 := G1.fix hsn.fix (fR_em E)
      have cl3 : closed S3 := by
        intro a j q2 ha hq2
        rw [G1.1] at ha ⊢
        by_cases y : rEm E a j
        · unfold rEm at y
          rcases y with ⟨y1, y2⟩ | ⟨y1, y2⟩
          · subst y1 y2; rw [U08] at hq2; exact absurd hq2 (by simp)
          · subst y1 y2; rw [U7] at hq2; injection hq2 with hq2; subst hq2; have := h0.2.1; rw [hsn.N]; omega
        · rw [G1.2.2.2.2.2 a j y] at hq2
          exact hsn.cl a j q2 ha hq2
      have hrs : RS S S3 := RS.of h39 f3 hfr3 (fun k j y => by unfold xS xEm at y; omega)
      refine r_fit h hcap hrs hft.1 (fun S4 hp h29 hv => ?_)
      rw [hns] at hv
      refine q_ww_more (s := 5) hv.1 (by omega) hv.2.2.2.2.2.2.2.1 (by omega) (by omega) (nE40 hv.2.2.2.2.1 hE40) (op := nI b) (by rw [if_neg (by omega), hb31 S4 hv]) (fun y => absurd y (hnb S4 hv)) (fun _ y => absurd y (nI_ne (by omega))) (fun b' hb hb5 => ?_) (Or.inr ⟨b, by omega, rfl⟩)
      have := hbb b' hb hb5
      subst this
      refine ⟨fun y => absurd ((hid S4 hv).mpr z) y, fun hidd _ Q2 _ q0 => ?_⟩
      refine q_isWrong_mark hv.1 (by omega) (by rw [hv.2.2.2.2.2.2.2.1]; decide) (hb31 S4 hv) h1 (fun y => absurd ⟨rfl, (hsw S4 hv).mpr y⟩ zd) (fun _ => q0 (fun _ => ?_))
      refine r_good (s := 5) hv.1 hv.2.2.2.1 (by omega) hv.2.2.2.2.2.2.2.1 (by omega) (fun y => absurd y (by omega)) (fun y => absurd y (by omega)) (fun y => absurd y (by omega)) (fun _ S5 g5 => ?_)
      obtain ⟨f5, a5, b20, b21, b22, b19⟩ := g5
      have hl := hv.2.2.2.2.2.2.2
      have y5 : ∀ k j, k ≠ 14 → ¬ ((k = 20 ∨ k = 21 ∨ k = 22) ∧ j = n) → gX S5 k j = gX S4 k j := fun k j hk hj => a5.X k j (by omega)
      refine q_makeEvent_m (E := E) (b := b') f5 hE40 (by rw [a5.X 14 25 (by omega)]; exact hv.2.2.2.2.1) (by omega) (by rw [y5 23 n (by omega) (by omega), hl.1]; decide) (by rw [a5.X 14 31 (by omega)]; exact hb31 S4 hv) (by omega) (fun S6 h6 _ => ?_)
      obtain ⟨a6, m30, m31, m32, m33, m25, m0, mo⟩ := h6
      obtain ⟨f4, a4, p19, p21, p1, p32⟩ := hp
      have x6 : ∀ k j, (k < 14 ∨ 36 < k) → gX S6 k j = gX S3 k j := fun k j hk => by
        rw [a6.X k j (by unfold pMe; omega), a5.X k j (rg_x hk), a4.X k j (pL_x hk)]
      have y6 : ∀ k j, k ≠ 14 → (k < 20 ∨ 22 < k) → k < 30 → gX S6 k j = gX S4 k j := fun k j hk hj h30 => by
        rw [a6.X k j (by unfold pMe; omega), a5.X k j (by omega)]
      have hl6 : Lf S6 n 5 k c ns := hl.tr (fun a j ha => y6 a j (by omega) (by omega) (by omega))
      have fr6 : Fr3 (eP n E q' 31) (fun _ _ => False) (rEm E) S S6 := by
        refine (((hfr3.mono (fun k j y => ?_) (fun _ _ y => y) (fun _ _ y => y)).tr (Fr3.ag a4 (fun k j y => Or.inl (pL_eL y)))).tr (Fr3.ag a5 (fun k j y => Or.inl (RG_eL y)))).tr (Fr3.ag a6 (fun k j y => pMe_eP y))
        rcases y with y | y
        · exact Or.inl (xS_eL y)
        · exact xEm_eP y
      have hR6 : ∀ a j, gR S6 a j = gR S3 a j := fun a j => by rw [a6.R, a5.R, a4.R]
      refine fun _ => ⟨rfl, n + 1, E + 1, P, lg, 0, oP, none, dP, ?_⟩
      refine asm_endM (b := b') (s := 5) h hcap (by omega) hop' (f5.ag a6) (closed_ag a6 (closed_ag a5 (closed_ag a4 cl3))) fr6 ?_ ?_ ?_ ?_ ?_ ?_ hl6.1 ?_ ?_ m30 m31 m32 m33 m25 m0 ?_ ?_ ?_ ?_ ?_ ?_ ?_ ?_ ?_ ?_ ?_ ?_ ?_
      · rw [x6 0 10 (by omega), G1.2.2.2.1 0 10 (by unfold xEm; omega)]; exact hsn.ln.1
      · rw [x6 1 1 (by omega), G1.2.2.2.1 1 1 (by unfold xEm; omega)]; exact hsn.ln.2
      · rw [a6.X 14 19 (by unfold pMe; omega)]; exact b19
      · rw [a6.X 14 1 (by unfold pMe; omega), a5.X 14 1 (by omega)]; exact p1
      · rw [y6 19 n (by omega) (by omega) (by omega), p19, hrs.2 14 20 (by omega) (by omega)]; exact k8
      · rw [a6.X 21 n (by unfold pMe; omega)]; exact b21
      · rw [hl6.2.2.2.2.1, ← e3, ← z, x2, g1]
      · refine ⟨by rw [a6.X 20 n (by unfold pMe; omega)]; exact b20, ?_, ?_, ?_, ?_⟩
        · have hl7 := hl6
          rw [← hns] at hl7
          exact hl7.rng hft.2.1 hft.2.2
        · rw [x6 12 2 (by omega), G1.2.2.2.1 12 2 (by unfold xEm; omega), hl6.2.2.2.1]; exact hsn.2.2.1
        · rw [x6 12 1 (by omega), G1.2.2.2.1 12 1 (by unfold xEm; omega), hl6.2.2.2.1]; exact hsn.2.2.2.1
        · rw [hl6.2.2.2.1]; exact hsn.2.2.2.2
      · intro j hj
        have hne : ¬ (-1 : Int32) = nI j := fun y => nI_ne (by omega) y.symm
        rw [mo j (by omega)]
        by_cases y : j = b' ∨ j = n
        · rw [if_pos (by rcases y with y | y; exact Or.inl y; exact Or.inr (Or.inl y)), if_pos y]
        · rw [if_neg (by
            intro w
            rcases w with w | w | w | w
            · exact y (Or.inl w)
            · exact y (Or.inr w)
            · exact hne w
            · exact hne w), if_neg y, a5.X 22 j (by omega), a4.X 22 j (by unfold pL; omega), hrs.2 22 j (by omega) (by omega)]
      · rw [x6 _ _ (by omega), F5, hsn.en 4, en4, hl6.2.2.2.1]
      · rw [x6 _ _ (by omega), F4]
      · rw [x6 _ _ (by omega), F9]
        unfold tkO
        rw [hl6.1, hl6.2.2.2.1, hl6.2.2.2.2.2.2, y6 26 b' (by omega) (by omega) (by omega), hv.2.1.1 26 (by omega) b' h1, hsn.en 4, en4, x2, g3]
        rw [if_neg (by omega), if_neg (by decide), hsn.en 8]
        exact en8 (by omega)
      · rw [x6 _ _ (by omega), G1.2.2.2.1 q' 6 (by unfold xEm; omega), x2]
      · rw [x6 _ _ (by omega), G1.2.2.2.1 q' 7 (by unfold xEm; omega), x2]
      · rw [x6 _ _ (by omega), G1.2.2.2.1 q' 8 (by unfold xEm; omega), x2]
      · rw [x6 _ _ (by omega), F14, x2]
      · rw [x6 13 1 (by omega), G1.2.2.2.1 13 1 (by unfold xEm; omega), hsn.X 13 1 (by omega) (by omega)]
      · rw [x6 6 1 (by omega)]; exact U61
      · rw [x6 0 11 (by omega), U11, hsn.X 0 11 (by omega) (by omega), x2]
      · rw [hR6]; exact U7
      · rw [hR6]; exact U08

theorem ln_endM6 {S S1 S2 : GS} {cap n E P lg pl k c : Nat} {oP oM : Option Nat} {dP : Int32 × Int32} {e : Nat → Int32} (h : Inw S cap n E P lg pl oP oM dP) (hcap : cap < 48) (hft : Ft S pl 6 k c) (hen : En e 6 k c (rnm (gX S 15) pl (mld 6 k c))) (hsn : Sn S S1 S2 n e (fTm (rnm (gX S 15) pl (mld 6 k c)))) : wX8_endMark S2 0 5 (fun u S5 => gSh S5 S2 → gExt S5 S1 → wX8_line_66 (Kk S cap) 0 (gN S) 1 u S5) := by
  have h39 := h.1.1.1
  obtain ⟨_, i2, i3, i4, i5, i6, i7, i8, i9, i10, i11, i12⟩ := id h
  obtain ⟨ia, ib⟩ := I11_ab.mp i11
  obtain ⟨k1, k2, k3, k4, k5, k6, k7, k8⟩ := i3
  have hs6 : k ≤ 2 ∧ c ≤ 2 := by have := hft.2.1; unfold vld at this; omega
  have okt := ns_okT (by omega) hs6.1 hs6.2 hft.2.2
  generalize hns : rnm (gX S 15) pl (mld 6 k c) = ns at *
  obtain ⟨en0, en12, en3, en4, en56, en7, en8⟩ := hen
  have e3 : gX S2 5 3 = fId ns := by rw [hsn.en 3]; exact en3
  have hnb : ∀ S4, Vw S S4 n E lg 6 k c ns → ¬ ∃ j, j < n ∧ cBk S4 n j := fun S4 hv => not_back hv i4 ia okt.2.1.1 hsn.2.2.2.2
  have hE40 : E < 40 := by omega
  refine q_endMark (E := E) (s := 6) hsn.fix (by rw [hsn.X 6 1 (by omega) (by omega)]; exact i6.1) hE40 (by rw [hsn.en 0]; exact en0) (by omega) ?_ ?_
  · intro hno _ _
    rw [hsn.R 0 8 (by omega)] at hno
    refine sn_bad (w := 5) h hcap hft (by rw [hns]; exact hsn) (by decide) (by decide) (by decide) (by decide) (fun S4 hv Q' hQ => ?_)
    rw [hns] at hv
    have hop : gX S4 14 31 = -1 := by
      rw [hv.2.2.2.2.2.2.1]
      cases oM with
      | none => exact (show gR S 0 8 = none ∧ gX S 14 31 = -1 from i8).2
      | some q' =>
        rw [i8.1] at hno; exact absurd hno (by simp)
    refine q_ww_more (s := 6) hv.1 (by omega) hv.2.2.2.2.2.2.2.1 (by omega) (by omega) (nE40 hv.2.2.2.2.1 hE40) (op := -1) (by rw [if_neg (by omega)]; exact hop.symm) (fun y => absurd y (hnb S4 hv)) (fun _ _ => hQ) (fun b hb hb5 => absurd hb.symm (nI_ne (by omega))) (Or.inl rfl)
  · intro q hq
    rw [hsn.R 0 8 (by omega)] at hq
    cases oM with
    | none =>
      rw [(show gR S 0 8 = none ∧ gX S 14 31 = -1 from i8).1] at hq; exact absurd hq (by simp)
    | some q' =>
    obtain ⟨a8, ⟨b, hop⟩, a8n, a8p⟩ : gR S 0 8 = some q' ∧ (∃ b, OpM S n q' b) ∧ (∀ i, i < E → gR S 7 i ≠ some q') ∧ oP ≠ some q' := i8
    have eq : q' = q := by rw [hq] at a8; injection a8 with a8; exact a8.symm
    subst eq
    have hop' := hop
    obtain ⟨h0, h1, h2, h3, h4, h5, g0, g1, g2, g3, g4, g6, g7, g8, g10, g11, g12, g13, g14⟩ := hop
    have x2 : ∀ j, gX S2 q' j = gX S q' j := fun j => hsn.X q' j h0.2.1 (by have := h0.1; omega)
    have hb31 : ∀ S4, Vw S S4 n E lg 6 k c ns → gX S4 14 31 = nI b := fun S4 hv => by rw [hv.2.2.2.2.2.2.1]; exact h2
    have hid : ∀ S4, Vw S S4 n E lg 6 k c ns → (gX S4 27 b = gX S4 27 n ↔ gX S2 q' 1 = gX S2 5 3) := fun S4 hv => by
      rw [x2, g1, e3, hv.2.1.1 27 (by omega) b h1, hv.2.2.2.2.2.2.2.2.2.2.2.1]
    have hbb : ∀ b', nI b = nI b' → b' < 512 → b' = b := fun b' z z5 => ((nj_eq (by omega) (by omega)).mp z).symm
    refine ⟨evP.sn hsn h0, fun z _ _ => ?_, fun z => ⟨fun zd _ _ => ?_, fun zd S3 hA _ _ => ?_⟩⟩
    · refine sn_bad (w := 5) h hcap hft (by rw [hns]; exact hsn) (by decide) (by decide) (by decide) (by decide) (fun S4 hv Q' hQ => ?_)
      rw [hns] at hv
      refine q_ww_more (s := 6) hv.1 (by omega) hv.2.2.2.2.2.2.2.1 (by omega) (by omega) (nE40 hv.2.2.2.2.1 hE40) (op := nI b) (by rw [if_neg (by omega), hb31 S4 hv]) (fun y => absurd y (hnb S4 hv)) (fun _ _ => hQ) (fun b' hb hb5 => ?_) (Or.inr ⟨b, by omega, rfl⟩)
      have := hbb b' hb hb5
      subst this
      exact ⟨fun _ _ => hQ, fun y => absurd ((hid S4 hv).mp y) z⟩
    · exact absurd zd.1 (by omega)
    · obtain ⟨G1, F5, F4, F9, F14, U61, U11, U7, U08⟩ := hA
      refine c_good (by decide) (fun _ => ?_)
      have q39 := h0.1
      have hfr3 : Fr3 (fun k j => xS k j ∨ xEm q' k j) (fun _ _ => False) (rEm E) S S3 := (hsn.fr.mono (fun k j y => Or.inl y) (fun _ _ y => y.elim) (fun _ _ y => y.elim)).tr (Fr3.gf G1 (fun k j y => Or.inr y) (fun _ _ y => y) (fun _ _ y => y))
      have f3 : Fix S3 := G1.fix hsn.fix (fR_em E)
      have cl3 : closed S3 := by
        intro a j q2 ha hq2
        rw [G1.1] at ha ⊢
        by_cases y : rEm E a j
        · unfold rEm at y
          rcases y with ⟨y1, y2⟩ | ⟨y1, y2⟩
          · subst y1 y2; rw [U08] at hq2; exact absurd hq2 (by simp)
          · subst y1 y2; rw [U7] at hq2; injection hq2 with hq2; subst hq2; have := h0.2.1; rw [hsn.N]; omega
        · rw [G1.2.2.2.2.2 a j y] at hq2
          exact hsn.cl a j q2 ha hq2
      have hrs : RS S S3 := RS.of h39 f3 hfr3 (fun k j y => by unfold xS xEm at y; omega)
      refine r_fit h hcap hrs hft.1 (fun S4 hp h29 hv => ?_)
      rw [hns] at hv
      refine q_ww_more (s := 6) hv.1 (by omega) hv.2.2.2.2.2.2.2.1 (by omega) (by omega) (nE40 hv.2.2.2.2.1 hE40) (op := nI b) (by rw [if_neg (by omega), hb31 S4 hv]) (fun y => absurd y (hnb S4 hv)) (fun _ y => absurd y (nI_ne (by omega))) (fun b' hb hb5 => ?_) (Or.inr ⟨b, by omega, rfl⟩)
      have := hbb b' hb hb5
      subst this
      refine ⟨fun y => absurd ((hid S4 hv).mpr z) y, fun hidd _ Q2 _ q0 => ?_⟩
      refine q_isWrong_no (s := 6) hv.1 (by omega) (by rw [hv.2.2.2.2.2.2.2.1]; decide) (by decide) (q0 (fun _ => ?_))
      refine r_good (s := 6) hv.1 hv.2.2.2.1 (by omega) hv.2.2.2.2.2.2.2.1 (by omega) (fun y => absurd y (by omega)) (fun y => absurd y (by omega)) (fun y => absurd y (by omega)) (fun _ S5 g5 => ?_)
      obtain ⟨f5, a5, b20, b21, b22, b19⟩ := g5
      have hl := hv.2.2.2.2.2.2.2
      have y5 : ∀ k j, k ≠ 14 → ¬ ((k = 20 ∨ k = 21 ∨ k = 22) ∧ j = n) → gX S5 k j = gX S4 k j := fun k j hk hj => a5.X k j (by omega)
      refine q_makeEvent_m (E := E) (b := b') f5 hE40 (by rw [a5.X 14 25 (by omega)]; exact hv.2.2.2.2.1) (by omega) (by rw [y5 23 n (by omega) (by omega), hl.1]; decide) (by rw [a5.X 14 31 (by omega)]; exact hb31 S4 hv) (by omega) (fun S6 h6 _ => ?_)
      obtain ⟨a6, m30, m31, m32, m33, m25, m0, mo⟩ := h6
      obtain ⟨f4, a4, p19, p21, p1, p32⟩ := hp
      have x6 : ∀ k j, (k < 14 ∨ 36 < k) → gX S6 k j = gX S3 k j := fun k j hk => by
        rw [a6.X k j (by unfold pMe; omega), a5.X k j (rg_x hk), a4.X k j (pL_x hk)]
      have y6 : ∀ k j, k ≠ 14 → (k < 20 ∨ 22 < k) → k < 30 → gX S6 k j = gX S4 k j := fun k j hk hj h30 => by
        rw [a6.X k j (by unfold pMe; omega), a5.X k j (by omega)]
      have hl6 : Lf S6 n 6 k c ns := hl.tr (fun a j ha => y6 a j (by omega) (by omega) (by omega))
      have fr6 : Fr3 (eP n E q' 31) (fun _ _ => False) (rEm E) S S6 := by
        refine (((hfr3.mono (fun k j y => ?_) (fun _ _ y => y) (fun _ _ y => y)).tr (Fr3.ag a4 (fun k j y => Or.inl (pL_eL y)))).tr (Fr3.ag a5 (fun k j y => Or.inl (RG_eL y)))).tr (Fr3.ag a6 (fun k j y => pMe_eP y))
        rcases y with y | y
        · exact Or.inl (xS_eL y)
        · exact xEm_eP y
      have hR6 : ∀ a j, gR S6 a j = gR S3 a j := fun a j => by rw [a6.R, a5.R, a4.R]
      refine fun _ => ⟨rfl, n + 1, E + 1, P, lg, 0, oP, none, dP, ?_⟩
      refine asm_endM (b := b') (s := 6) h hcap (by omega) hop' (f5.ag a6) (closed_ag a6 (closed_ag a5 (closed_ag a4 cl3))) fr6 ?_ ?_ ?_ ?_ ?_ ?_ hl6.1 ?_ ?_ m30 m31 m32 m33 m25 m0 ?_ ?_ ?_ ?_ ?_ ?_ ?_ ?_ ?_ ?_ ?_ ?_ ?_
      · rw [x6 0 10 (by omega), G1.2.2.2.1 0 10 (by unfold xEm; omega)]; exact hsn.ln.1
      · rw [x6 1 1 (by omega), G1.2.2.2.1 1 1 (by unfold xEm; omega)]; exact hsn.ln.2
      · rw [a6.X 14 19 (by unfold pMe; omega)]; exact b19
      · rw [a6.X 14 1 (by unfold pMe; omega), a5.X 14 1 (by omega)]; exact p1
      · rw [y6 19 n (by omega) (by omega) (by omega), p19, hrs.2 14 20 (by omega) (by omega)]; exact k8
      · rw [a6.X 21 n (by unfold pMe; omega)]; exact b21
      · rw [hl6.2.2.2.2.1, ← e3, ← z, x2, g1]
      · refine ⟨by rw [a6.X 20 n (by unfold pMe; omega)]; exact b20, ?_, ?_, ?_, ?_⟩
        · have hl7 := hl6
          rw [← hns] at hl7
          exact hl7.rng hft.2.1 hft.2.2
        · rw [x6 12 2 (by omega), G1.2.2.2.1 12 2 (by unfold xEm; omega), hl6.2.2.2.1]; exact hsn.2.2.1
        · rw [x6 12 1 (by omega), G1.2.2.2.1 12 1 (by unfold xEm; omega), hl6.2.2.2.1]; exact hsn.2.2.2.1
        · rw [hl6.2.2.2.1]; exact hsn.2.2.2.2
      · intro j hj
        have hne : ¬ (-1 : Int32) = nI j := fun y => nI_ne (by omega) y.symm
        rw [mo j (by omega)]
        by_cases y : j = b' ∨ j = n
        · rw [if_pos (by rcases y with y | y; exact Or.inl y; exact Or.inr (Or.inl y)), if_pos y]
        · rw [if_neg (by
            intro w
            rcases w with w | w | w | w
            · exact y (Or.inl w)
            · exact y (Or.inr w)
            · exact hne w
            · exact hne w), if_neg y, a5.X 22 j (by omega), a4.X 22 j (by unfold pL; omega), hrs.2 22 j (by omega) (by omega)]
      · rw [x6 _ _ (by omega), F5, hsn.en 4, en4, hl6.2.2.2.1]
      · rw [x6 _ _ (by omega), F4]
      · rw [x6 _ _ (by omega), F9]
        unfold tkO
        rw [hl6.1, hl6.2.2.2.1, hl6.2.2.2.2.2.2, y6 26 b' (by omega) (by omega) (by omega), hv.2.1.1 26 (by omega) b' h1, hsn.en 4, en4, x2, g3]
        rw [if_pos rfl, if_pos (by decide)]
        rfl
      · rw [x6 _ _ (by omega), G1.2.2.2.1 q' 6 (by unfold xEm; omega), x2]
      · rw [x6 _ _ (by omega), G1.2.2.2.1 q' 7 (by unfold xEm; omega), x2]
      · rw [x6 _ _ (by omega), G1.2.2.2.1 q' 8 (by unfold xEm; omega), x2]
      · rw [x6 _ _ (by omega), F14, x2]
      · rw [x6 13 1 (by omega), G1.2.2.2.1 13 1 (by unfold xEm; omega), hsn.X 13 1 (by omega) (by omega)]
      · rw [x6 6 1 (by omega)]; exact U61
      · rw [x6 0 11 (by omega), U11, hsn.X 0 11 (by omega) (by omega), x2]
      · rw [hR6]; exact U7
      · rw [hR6]; exact U08

