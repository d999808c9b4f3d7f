/-! A LINE THAT BEGINS AN EVENT. -/
theorem c_good {K : Int32 → GS → Prop} {rq : Nat} {x2 u : Int32} {S5 : GS} (hu : (0 : Int32) ≤ u) (h : K u S5) : wX8_line_66 K 0 rq x2 u S5 := ⟨fun _ => h, fun a => absurd hu a⟩
theorem pL_x {n k j : Nat} (h : k < 14 ∨ 36 < k) : ¬ pL n k j := by unfold pL; omega
theorem rg_x {n k j : Nat} (h : k < 14 ∨ 36 < k) : ¬ (((k = 20 ∨ k = 21 ∨ k = 22) ∧ j = n) ∨ (k = 14 ∧ j = 19)) := by omega
theorem RG_eL {n k j : Nat} (z : ((k = 20 ∨ k = 21 ∨ k = 22) ∧ j = n) ∨ (k = 14 ∧ j = 19)) : eL n k j := by
  rcases z with z | z
  · exact eL_20 z
  · exact eL_19 z
theorem not_back {S S4 : GS} {n E lg s k c : Nat} {ns : List Int32} (hv : Vw S S4 n E lg s k c ns) (h4 : I4 S n lg) (ha : I1a S n lg) (hx : 0 ≤ (fTm ns).toInt) (hle : (gX S 12 2).toInt ≤ (fTm ns).toInt) : ¬ ∃ j, j < n ∧ cBk S4 n j := fun z => (back_iff hv h4 ha hx).mp z (le32 hle)
theorem ln_begP {S S1 S2 : GS} {cap n E P lg pl k c : Nat} {oP oM : Option Nat} {dP : Int32 × Int32} {e : Nat → Int32} (h : Inw S cap n E P lg pl oP oM dP) (hcap : cap < 48) (hft : Ft S pl 0 k c) (hen : En e 0 k c (rnm (gX S 15) pl (mld 0 k c))) (hsn : Sn S S1 S2 n e (fTm (rnm (gX S 15) pl (mld 0 k c)))) : wX8_begin S2 0 5 (fun u S5 => gExt S5 S2 → gExt S5 S1 → wX8_line_66 (Kk S cap) 0 (gN S) 1 u S5) := by
  have h39 := h.1.1.1
  obtain ⟨_, i2, i3, i4, i5, i6, i7, i8, i9, i10, i11, i12⟩ := id h
  obtain ⟨ia, ib⟩ := I11_ab.mp i11
  obtain ⟨k1, k2, k3, k4, k5, k6, k7, k8⟩ := i3
  have hs6 : k ≤ 2 ∧ c ≤ 2 := by have := hft.2.1; unfold vld at this; omega
  have okt := ns_okT (by omega) hs6.1 hs6.2 hft.2.2
  generalize hns : rnm (gX S 15) pl (mld 0 k c) = ns at *
  obtain ⟨en0, en12, en3, en4, en56, en7, en8⟩ := hen
  have c9 : gX S2 0 9 = gX S 0 9 := hsn.X 0 9 (by omega) (by omega)
  have e3 : gX S2 5 3 = fId ns := by rw [hsn.en 3]; exact en3
  have hnb : ∀ S4, Vw S S4 n E lg 0 k c ns → ¬ ∃ j, j < n ∧ cBk S4 n j := fun S4 hv => not_back hv i4 ia okt.2.1.1 hsn.2.2.2.2
  have hsl : (if 0 = 4 then 8 else 7) = 7 := by rfl
  refine q_begin (s := 0) hsn.fix hsn.cl (by rw [hsn.en 0]; exact en0) (by omega) ?_ ?_ ?_
  · intro z _ _
    rw [c9, e3] at z
    refine sn_bad (w := 3) h hcap hft (by rw [hns]; exact hsn) (by decide) (by decide) (by decide) (by decide) (fun S4 hv Q' hQ => ?_)
    rw [hns] at hv
    have hst := (stale_iff hv i4 ib okt.1.1).mpr z
    refine q_ww_open (s := 0) hv.1 (by omega) hv.2.2.2.2.2.2.2.1 (by omega) (fun y => absurd y (hnb S4 hv)) (fun _ _ => hQ) (fun _ y => ?_) (fun _ y => ?_)
    · obtain ⟨j, hj, y1⟩ := hst
      exact absurd y1 (y j hj)
    · obtain ⟨j, hj, y1⟩ := hst
      exact absurd y1 (y j hj)
  · intro z q hq _ _
    rw [c9, e3] at z
    rw [hsl, hsn.R 0 7 (by omega)] at hq
    refine sn_bad (w := 4) h hcap hft (by rw [hns]; exact hsn) (by decide) (by decide) (by decide) (by decide) (fun S4 hv Q' hQ => ?_)
    rw [hns] at hv
    refine q_ww_open (s := 0) hv.1 (by omega) hv.2.2.2.2.2.2.2.1 (by omega) (fun y => absurd y (hnb S4 hv)) (fun _ y => absurd z ((stale_iff hv i4 ib okt.1.1).mp y)) (fun _ _ _ => hQ) (fun _ _ y => ?_)
    rw [if_pos (by omega), hv.2.2.2.2.2.1] at y
    cases oP with
    | none =>
      obtain ⟨a, b⟩ : gR S 0 7 = none ∧ gX S 14 30 = -1 := i7
      rw [a] at hq; exact absurd hq (by simp)
    | some q' =>
      obtain ⟨a, ⟨b, hb⟩, _⟩ : gR S 0 7 = some q' ∧ (∃ b, OpP S n q' b dP.1 dP.2) ∧ ∀ i, i < E → gR S 7 i ≠ some q' := i7
      rw [hb.2.2.1] at y
      exact absurd y (nI_ne (by have := hb.2.1; omega))
  · intro z hno S3 hB _ _
    rw [c9, e3] at z
    rw [hsl] at hno hB
    rw [hsn.R 0 7 (by omega)] at hno
    refine c_good (by decide) (fun _ => ?_)
    obtain ⟨B1, B2, B3, B4, B5, B6, B7, B8, B9, B10, F0, F1, F2, F3, F4, F6, F7, F8, F10, F11, F12, F13, F14⟩ := hB
    have N2 := hsn.N
    have hfr3 : Fr3 (fun k j => xS k j ∨ (k = 0 ∧ j = 9)) (fun _ _ => False) (fun k j => k = 0 ∧ j = 7) S S3 := (hsn.fr.mono (fun k j y => Or.inl y) (fun _ _ y => y) (fun _ _ y => y.elim)).tr ⟨by omega, B5, fun k j hk y => B9 k j hk (fun w => y (Or.inr w)), fun k j hk _ => B6 k j hk, fun k j hk y => B7 k j hk y⟩
    have hrs : RS S S3 := RS.of h39 B1 hfr3 (fun k j y => by unfold xS at y; omega)
    refine r_fit h hcap hrs hft.1 (fun S4 hp h29 hv => ?_)
    rw [hns] at hv
    refine q_ww_open (s := 0) hv.1 (by omega) hv.2.2.2.2.2.2.2.1 (by omega) (fun y => absurd y (hnb S4 hv)) (fun _ y => absurd z ((stale_iff hv i4 ib okt.1.1).mp y)) (fun _ _ y => ?_) (fun _ _ _ _ => ?_)
    · exfalso
      apply y
      rw [if_pos (by omega), hv.2.2.2.2.2.1]
      cases oP with
      | none => exact (show gR S 0 7 = none ∧ gX S 14 30 = -1 from i7).2
      | some q' =>
        obtain ⟨a, _⟩ : gR S 0 7 = some q' ∧ (∃ b, OpP S n q' b dP.1 dP.2) ∧ ∀ i, i < E → gR S 7 i ≠ some q' := i7
        rw [a] at hno; exact absurd hno (by simp)
    refine r_good (s := 0) hv.1 hv.2.2.2.1 (by omega) hv.2.2.2.2.2.2.2.1 (by omega) (fun _ S5 g5 => ?_) (fun y => absurd y (by omega)) (fun y => absurd y (by omega)) (fun y => absurd y (by omega))
    obtain ⟨f5, a5, b20, b21, b22, b19⟩ := g5
    obtain ⟨f4, a4, p19, p21, p1, p32⟩ := hp
    have hl := hv.2.2.2.2.2.2.2
    generalize hS6 : sX S5 14 30 (nI n) = S6
    have e6 : S6 = sX S5 14 30 (nI n) := hS6.symm
    have x6 : ∀ k j, (k < 14 ∨ 36 < k) → gX S6 k j = gX S3 k j := fun k j hk => by
      rw [e6, x_sX, if_neg (by omega), a5.X k j (rg_x hk), a4.X k j (pL_x hk)]
    have y6 : ∀ k j, k ≠ 14 → ¬ ((k = 20 ∨ k = 21 ∨ k = 22) ∧ j = n) → gX S6 k j = gX S4 k j := fun k j hk hj => by
      rw [e6, x_sX, if_neg (fun w => hk w.1), a5.X k j (by omega)]
    have hl6 : Lf S6 n 0 k c ns := hl.tr (fun a j ha => y6 a j (by omega) (by omega))
    have hR6 : ∀ a j, gR S6 a j = gR S3 a j := fun a j => by rw [e6]; show gR S5 a j = _; rw [a5.R, a4.R]
    have hN6 : gN S6 = gN S3 := by rw [e6]; show gN S5 = _; rw [a5.1, a4.1]
    have hK6 : ∀ a, gK S6 a = gK S3 a := fun a => by rw [e6]; show gK S5 a = _; rw [a5.2.1, a4.2.1]
    have fr6 : Fr3 (eG n) (fun _ _ => False) (fun k j => k = 0 ∧ j = 7) S S6 := by
      rw [e6]
      refine (((hfr3.mono (fun k j y => ?_) (fun _ _ y => y) (fun _ _ y => y)).tr (Fr3.ag a4 (fun k j y => Or.inl (pL_eL y)))).tr (Fr3.ag a5 (fun k j y => Or.inl (RG_eL y)))).tr (Fr3.ag ((Ag.rf (fun k j => k = 14 ∧ j = 30) S5).x _ _ _ ⟨rfl, rfl⟩) (fun k j y => Or.inr (Or.inr ⟨y.1, by omega⟩)))
      rcases y with y | y
      · exact Or.inl (xS_eL y)
      · exact Or.inr (Or.inl y)
    refine fun _ => ⟨rfl, n + 1, E, P, lg, 0, some (gN S2), oM, (-1, -1), ?_⟩
    have q39 : 39 ≤ gN S2 := by omega
    have hoN : oP = none := by
      cases oP with
      | none => rfl
      | some q' =>
        rw [i7.1] at hno; exact absurd hno (by simp)
    rw [hoN] at h
    refine asm_begP (q := gN S2) h hcap ?_ ?_ fr6 ?_ ?_ ?_ ?_ ?_ ?_ ?_ ?_ ?_ ?_ ?_ ?_ ?_ ?_ ?_ ?_ ?_ ?_ ?_ ?_ ?_ ?_ ?_ ?_ ?_ ?_ ?_ ?_ ?_
    · rw [e6]; exact f5.x _ _ _
    · rw [e6]; exact (closed_ag a5 (closed_ag a4 B2) : closed S5)
    · rw [x6 0 10 (by omega), B9 0 10 (by omega) (by omega)]; exact hsn.ln.1
    · rw [x6 1 1 (by omega), B9 1 1 (by omega) (by omega)]; exact hsn.ln.2
    · rw [e6, x_sX, if_neg (by omega)]; exact b19
    · rw [e6, x_sX, if_neg (by omega), a5.X 14 1 (by omega)]; exact p1
    · rw [y6 19 n (by omega) (by omega), p19, hrs.2 14 20 (by omega) (by omega)]; exact k8
    · rw [e6, x_sX, if_neg (by omega)]; exact b21
    · rw [e6, x_sX, if_neg (by omega)]; exact b22
    · rw [hl6.1]; decide
    · refine ⟨by rw [e6, x_sX, if_neg (by omega)]; exact b20, ?_, ?_, ?_, ?_⟩
      · have hl7 := hl6
        rw [← hns] at hl7
        exact hl7.rng hft.2.1 hft.2.2
      · rw [x6 12 2 (by omega), B9 12 2 (by omega) (by omega), hl6.2.2.2.1]; exact hsn.2.2.1
      · rw [x6 12 1 (by omega), B9 12 1 (by omega) (by omega), hl6.2.2.2.1]; exact hsn.2.2.2.1
      · rw [hl6.2.2.2.1]; exact hsn.2.2.2.2
    · rw [e6, x_sX, if_pos ⟨rfl, rfl⟩]
    · rw [e6, x_sX, if_neg (by omega), a5.X 14 31 (by omega)]; exact hv.2.2.2.2.2.2.1
    · rw [x6 0 9 (by omega), B10, e3, hl6.2.2.2.2.1]
    · rw [hl6.2.2.2.2.1]; exact Int.le_of_lt (le_of_lt32 z)
    · omega
    · exact ⟨q39, by rw [hN6]; omega, by rw [hK6]; exact B4⟩
    · rw [hR6]; exact B8
    · rw [x6 _ _ (by omega), F0]; exact hsn.ln.1
    · rw [x6 _ _ (by omega), F1, e3, hl6.2.2.2.2.1]
    · rw [x6 _ _ (by omega), F2, if_neg (by omega), hsn.en 2, (en12 (by omega)).2, hl6.2.2.1]
    · rw [x6 _ _ (by omega), F3, hsn.en 4, en4, hl6.2.2.2.1]
    · rw [x6 _ _ (by omega), F4, if_neg (by omega), hsn.en 1, (en12 (by omega)).1, hl6.2.1]
    · rw [x6 _ _ (by omega)]; exact F6
    · rw [x6 _ _ (by omega)]; exact F7
    · rw [x6 _ _ (by omega)]; exact F8
    · rw [x6 _ _ (by omega)]; exact F10
    · rw [x6 _ _ (by omega)]; exact F11
    · rw [x6 _ _ (by omega)]; exact F12
    · rw [x6 _ _ (by omega)]; exact F13
    · rw [x6 _ _ (by omega)]; exact F14

theorem ln_begM {S S1 S2 : GS} {cap n E P lg pl k c : Nat} {oP oM : Option Nat} {dP : Int32 × Int32} {e : Nat → Int32} (h : Inw S cap n E P lg pl oP oM dP) (hcap : cap < 48) (hft : Ft S pl 4 k c) (hen : En e 4 k c (rnm (gX S 15) pl (mld 4 k c))) (hsn : Sn S S1 S2 n e (fTm (rnm (gX S 15) pl (mld 4 k c)))) : wX8_begin S2 0 5 (fun u S5 => gExt S5 S2 → gExt S5 S1 → wX8_line_66 (Kk S cap) 0 (gN S) 1 u S5) := by
  have h39 := h.1.1.1
  obtain ⟨_, i2, i3, i4, i5, i6, i7, i8, i9, i10, i11, i12⟩ := id h
  obtain ⟨ia, ib⟩ := I11_ab.mp i11
  obtain ⟨k1, k2, k3, k4, k5, k6, k7, k8⟩ := i3
  have hs6 : k ≤ 2 ∧ c ≤ 2 := by have := hft.2.1; unfold vld at this; omega
  have okt := ns_okT (by omega) hs6.1 hs6.2 hft.2.2
  generalize hns : rnm (gX S 15) pl (mld 4 k c) = ns at *
  obtain ⟨en0, en12, en3, en4, en56, en7, en8⟩ := hen
  have c9 : gX S2 0 9 = gX S 0 9 := hsn.X 0 9 (by omega) (by omega)
  have e3 : gX S2 5 3 = fId ns := by rw [hsn.en 3]; exact en3
  have hnb : ∀ S4, Vw S S4 n E lg 4 k c ns → ¬ ∃ j, j < n ∧ cBk S4 n j := fun S4 hv => not_back hv i4 ia okt.2.1.1 hsn.2.2.2.2
  have hsl : (if 4 = 4 then 8 else 7) = 8 := by rfl
  refine q_begin (s := 4) hsn.fix hsn.cl (by rw [hsn.en 0]; exact en0) (by omega) ?_ ?_ ?_
  · intro z _ _
    rw [c9, e3] at z
    refine sn_bad (w := 3) h hcap hft (by rw [hns]; exact hsn) (by decide) (by decide) (by decide) (by decide) (fun S4 hv Q' hQ => ?_)
    rw [hns] at hv
    have hst := (stale_iff hv i4 ib okt.1.1).mpr z
    refine q_ww_open (s := 4) hv.1 (by omega) hv.2.2.2.2.2.2.2.1 (by omega) (fun y => absurd y (hnb S4 hv)) (fun _ _ => hQ) (fun _ y => ?_) (fun _ y => ?_)
    · obtain ⟨j, hj, y1⟩ := hst
      exact absurd y1 (y j hj)
    · obtain ⟨j, hj, y1⟩ := hst
      exact absurd y1 (y j hj)
  · intro z q hq _ _
    rw [c9, e3] at z
    rw [hsl, hsn.R 0 8 (by omega)] at hq
    refine sn_bad (w := 4) h hcap hft (by rw [hns]; exact hsn) (by decide) (by decide) (by decide) (by decide) (fun S4 hv Q' hQ => ?_)
    rw [hns] at hv
    refine q_ww_open (s := 4) hv.1 (by omega) hv.2.2.2.2.2.2.2.1 (by omega) (fun y => absurd y (hnb S4 hv)) (fun _ y => absurd z ((stale_iff hv i4 ib okt.1.1).mp y)) (fun _ _ _ => hQ) (fun _ _ y => ?_)
    rw [if_neg (by omega), hv.2.2.2.2.2.2.1] at y
    cases oM with
    | none =>
      obtain ⟨a, b⟩ : gR S 0 8 = none ∧ gX S 14 31 = -1 := i8
      rw [a] at hq; exact absurd hq (by simp)
    | some q' =>
      obtain ⟨a, ⟨b, hb⟩, _⟩ : gR S 0 8 = some q' ∧ (∃ b, OpM S n q' b) ∧ (∀ i, i < E → gR S 7 i ≠ some q') ∧ oP ≠ some q' := i8
      rw [hb.2.2.1] at y
      exact absurd y (nI_ne (by have := hb.2.1; omega))
  · intro z hno S3 hB _ _
    rw [c9, e3] at z
    rw [hsl] at hno hB
    rw [hsn.R 0 8 (by omega)] at hno
    refine c_good (by decide) (fun _ => ?_)
    obtain ⟨B1, B2, B3, B4, B5, B6, B7, B8, B9, B10, F0, F1, F2, F3, F4, F6, F7, F8, F10, F11, F12, F13, F14⟩ := hB
    have N2 := hsn.N
    have hfr3 : Fr3 (fun k j => xS k j ∨ (k = 0 ∧ j = 9)) (fun _ _ => False) (fun k j => k = 0 ∧ j = 8) S S3 := (hsn.fr.mono (fun k j y => Or.inl y) (fun _ _ y => y) (fun _ _ y => y.elim)).tr ⟨by omega, B5, fun k j hk y => B9 k j hk (fun w => y (Or.inr w)), fun k j hk _ => B6 k j hk, fun k j hk y => B7 k j hk y⟩
    have hrs : RS S S3 := RS.of h39 B1 hfr3 (fun k j y => by unfold xS at y; omega)
    refine r_fit h hcap hrs hft.1 (fun S4 hp h29 hv => ?_)
    rw [hns] at hv
    refine q_ww_open (s := 4) hv.1 (by omega) hv.2.2.2.2.2.2.2.1 (by omega) (fun y => absurd y (hnb S4 hv)) (fun _ y => absurd z ((stale_iff hv i4 ib okt.1.1).mp y)) (fun _ _ y => ?_) (fun _ _ _ _ => ?_)
    · exfalso
      apply y
      rw [if_neg (by omega), hv.2.2.2.2.2.2.1]
      cases oM with
      | none => exact (show gR S 0 8 = none ∧ gX S 14 31 = -1 from i8).2
      | some q' =>
        obtain ⟨a, _⟩ : gR S 0 8 = some q' ∧ (∃ b, OpM S n q' b) ∧ (∀ i, i < E → gR S 7 i ≠ some q') ∧ oP ≠ some q' := i8
        rw [a] at hno; exact absurd hno (by simp)
    refine r_good (s := 4) hv.1 hv.2.2.2.1 (by omega) hv.2.2.2.2.2.2.2.1 (by omega) (fun y => absurd y (by omega)) (fun _ S5 g5 => ?_) (fun y => absurd y (by omega)) (fun y => absurd y (by omega))
    obtain ⟨f5, a5, b20, b21, b22, b19⟩ := g5
    obtain ⟨f4, a4, p19, p21, p1, p32⟩ := hp
    have hl := hv.2.2.2.2.2.2.2
    generalize hS6 : sX S5 14 31 (nI n) = S6
    have e6 : S6 = sX S5 14 31 (nI n) := hS6.symm
    have x6 : ∀ k j, (k < 14 ∨ 36 < k) → gX S6 k j = gX S3 k j := fun k j hk => by
      rw [e6, x_sX, if_neg (by omega), a5.X k j (rg_x hk), a4.X k j (pL_x hk)]
    have y6 : ∀ k j, k ≠ 14 → ¬ ((k = 20 ∨ k = 21 ∨ k = 22) ∧ j = n) → gX S6 k j = gX S4 k j := fun k j hk hj => by
      rw [e6, x_sX, if_neg (fun w => hk w.1), a5.X k j (by omega)]
    have hl6 : Lf S6 n 4 k c ns := hl.tr (fun a j ha => y6 a j (by omega) (by omega))
    have hR6 : ∀ a j, gR S6 a j = gR S3 a j := fun a j => by rw [e6]; show gR S5 a j = _; rw [a5.R, a4.R]
    have hN6 : gN S6 = gN S3 := by rw [e6]; show gN S5 = _; rw [a5.1, a4.1]
    have hK6 : ∀ a, gK S6 a = gK S3 a := fun a => by rw [e6]; show gK S5 a = _; rw [a5.2.1, a4.2.1]
    have fr6 : Fr3 (eG n) (fun _ _ => False) (fun k j => k = 0 ∧ j = 8) S S6 := by
      rw [e6]
      refine (((hfr3.mono (fun k j y => ?_) (fun _ _ y => y) (fun _ _ y => y)).tr (Fr3.ag a4 (fun k j y => Or.inl (pL_eL y)))).tr (Fr3.ag a5 (fun k j y => Or.inl (RG_eL y)))).tr (Fr3.ag ((Ag.rf (fun k j => k = 14 ∧ j = 31) S5).x _ _ _ ⟨rfl, rfl⟩) (fun k j y => Or.inr (Or.inr ⟨y.1, by omega⟩)))
      rcases y with y | y
      · exact Or.inl (xS_eL y)
      · exact Or.inr (Or.inl y)
    refine fun _ => ⟨rfl, n + 1, E, P, lg, 0, oP, some (gN S2), dP, ?_⟩
    have q39 : 39 ≤ gN S2 := by omega
    have hoN : oM = none := by
      cases oM with
      | none => rfl
      | some q' =>
        rw [i8.1] at hno; exact absurd hno (by simp)
    rw [hoN] at h
    refine asm_begM (q := gN S2) h hcap ?_ ?_ fr6 ?_ ?_ ?_ ?_ ?_ ?_ ?_ ?_ ?_ ?_ ?_ ?_ ?_ ?_ ?_ ?_ ?_ ?_ ?_ ?_ ?_ ?_ ?_ ?_ ?_ ?_ ?_ ?_ ?_
    · rw [e6]; exact f5.x _ _ _
    · rw [e6]; exact (closed_ag a5 (closed_ag a4 B2) : closed S5)
    · rw [x6 0 10 (by omega), B9 0 10 (by omega) (by omega)]; exact hsn.ln.1
    · rw [x6 1 1 (by omega), B9 1 1 (by omega) (by omega)]; exact hsn.ln.2
    · rw [e6, x_sX, if_neg (by omega)]; exact b19
    · rw [e6, x_sX, if_neg (by omega), a5.X 14 1 (by omega)]; exact p1
    · rw [y6 19 n (by omega) (by omega), p19, hrs.2 14 20 (by omega) (by omega)]; exact k8
    · rw [e6, x_sX, if_neg (by omega)]; exact b21
    · rw [e6, x_sX, if_neg (by omega)]; exact b22
    · rw [hl6.1]; decide
    · refine ⟨by rw [e6, x_sX, if_neg (by omega)]; exact b20, ?_, ?_, ?_, ?_⟩
      · have hl7 := hl6
        rw [← hns] at hl7
        exact hl7.rng hft.2.1 hft.2.2
      · rw [x6 12 2 (by omega), B9 12 2 (by omega) (by omega), hl6.2.2.2.1]; exact hsn.2.2.1
      · rw [x6 12 1 (by omega), B9 12 1 (by omega) (by omega), hl6.2.2.2.1]; exact hsn.2.2.2.1
      · rw [hl6.2.2.2.1]; exact hsn.2.2.2.2
    · rw [e6, x_sX, if_pos ⟨rfl, rfl⟩]
    · rw [e6, x_sX, if_neg (by omega), a5.X 14 30 (by omega)]; exact hv.2.2.2.2.2.1
    · rw [x6 0 9 (by omega), B10, e3, hl6.2.2.2.2.1]
    · rw [hl6.2.2.2.2.1]; exact Int.le_of_lt (le_of_lt32 z)
    · omega
    · exact ⟨q39, by rw [hN6]; omega, by rw [hK6]; exact B4⟩
    · rw [hR6]; exact B8
    · rw [x6 _ _ (by omega), F0]; exact hsn.ln.1
    · rw [x6 _ _ (by omega), F1, e3, hl6.2.2.2.2.1]
    · rw [x6 _ _ (by omega), F2, if_pos rfl]
    · rw [x6 _ _ (by omega), F3, hsn.en 4, en4, hl6.2.2.2.1]
    · rw [x6 _ _ (by omega), F4, if_pos rfl]
    · rw [x6 _ _ (by omega)]; exact F6
    · rw [x6 _ _ (by omega)]; exact F7
    · rw [x6 _ _ (by omega)]; exact F8
    · rw [x6 _ _ (by omega)]; exact F10
    · rw [x6 _ _ (by omega)]; exact F11
    · rw [x6 _ _ (by omega)]; exact F12
    · rw [x6 _ _ (by omega)]; exact F13
    · rw [x6 _ _ (by omega)]; exact F14

