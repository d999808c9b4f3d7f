/-! THE END OF A LINE ON BOTH SIDES. -/
theorem Fr3.mono {X Z R X' Z' R' : Nat → Nat → Prop} {S S2 : GS} (h : Fr3 X Z R S S2) (hx : ∀ k j, X k j → X' k j) (hz : ∀ k j, Z k j → Z' k j) (hr : ∀ k j, R k j → R' k j) : Fr3 X' Z' R' S S2 :=
  ⟨h.1, h.2.1, fun k j hk a => h.2.2.1 k j hk (fun b => a (hx k j b)), fun k j hk a => h.2.2.2.1 k j hk (fun b => a (hz k j b)), fun k j hk a => h.2.2.2.2 k j hk (fun b => a (hr k j b))⟩
def RB (S4 S6 : GS) (n P : Nat) (w fa : Int32) : Prop := Fix S6 ∧ Ag (fun k j => ((k = 20 ∨ k = 21) ∧ j = n) ∨ (k = 14 ∧ j = 19) ∨ pD P n k j) S4 S6 ∧ gX S6 20 n = (if w = 1 ∨ w = 2 then 0 else 1) ∧ gX S6 21 n = 0 ∧ gX S6 14 19 = nI (n + 1) ∧ gX S6 34 P = w ∧ gX S6 35 P = nI n ∧ gX S6 36 P = fa ∧ gX S6 14 29 = nI (P + 1) ∧ gX S6 22 n = 2
theorem r_bad {S4 : GS} {n P : Nat} {w x : Int32} {Q : Int32 → GS → Prop} (hF : Fix S4) (hn : gX S4 14 19 = nI n) (hn5 : n < 512) (hP : gX S4 14 29 = nI P) (hP5 : P < 512) (hw : w ≠ 0) (hQ : ∀ S6, RB S4 S6 n P w (if w = 1 then x else 0) → Q (-w) S6) : wX9_line_51 Q 14 (nI n) x w S4 := by
  refine q_line51 hF hn hn5 (fun a => absurd a hw) (fun _ S5 h5 => ?_)
  obtain ⟨f5, a5, b1, b2, b3⟩ := h5
  rw [if_neg hw] at b2
  refine q_diagnose f5 (by rw [a5.X 14 29 (by omega)]; exact hP) hP5 hn5 (fun S6 h6 _ => hQ S6 ?_)
  obtain ⟨a6, c1, c2, c3, c4, c5⟩ := h6
  refine ⟨f5.ag a6, (a5.mono (fun k j z => by omega)).tr (a6.mono (fun k j z => Or.inr (Or.inr z))), ?_, ?_, ?_, c1, c2, c3, c4, c5⟩
  · rw [a6.X 20 n (by unfold pD; omega)]; exact b1
  · rw [a6.X 21 n (by unfold pD; omega)]; exact b2
  · rw [a6.X 14 19 (by unfold pD; omega)]; exact b3
def xC (k j : Nat) : Prop := k = 5 ∨ (k = 0 ∧ j = 10) ∨ (k = 1 ∧ j = 1) ∨ (k = 12 ∧ (j = 1 ∨ j = 2)) ∨ (k = 8 ∧ (j = 3 ∨ j = 4)) ∨ k = 9 ∨ k = 10 ∨ k = 11
def CBd (S S3 : GS) (n : Nat) (w fa : Int32) : Prop := Fix S3 ∧ closed S3 ∧ Fr3 xC (fun _ _ => False) (fun _ _ => False) S S3 ∧ gX S3 0 10 = nI (n + 1) ∧ gX S3 1 1 = 0 ∧ gX S3 8 3 = gX S 8 3 + 1 ∧ gX S3 8 4 = gX S 8 4 + 1 ∧ (∀ k, k < 12 → gX S3 9 k = if k = 0 then w else gX S 9 (k - 1)) ∧ (∀ k, k < 12 → gX S3 10 k = if k = 0 then nI (n + 1) else gX S 10 (k - 1)) ∧ (∀ k, k < 12 → gX S3 11 k = if k = 0 then fa else gX S 11 (k - 1))
theorem mkCBd {S S1 S2 S3 : GS} {n : Nat} {e : Nat → Int32} {w fa : Int32} (h39 : 39 ≤ gN S) (hA : Ac S S1 n e) (h2 : Ag pSe S1 S2) (hD : Da S2 S3 w (gX S2 0 10) fa 1) : CBd S S3 n w fa := by
  obtain ⟨d1, d2, d3, d4, d5, d6⟩ := hD
  have hfr : Fr3 xC (fun _ _ => False) (fun _ _ => False) S S2 := (Fr3.ac hA (fun k j z => by unfold xC; omega)).tr (Fr3.ag h2 (fun k j z => by unfold pSe at z; unfold xC; omega))
  have f2 : Fix S2 := hA.1.ag h2
  have x2 : ∀ k j, k < 39 → ¬ (k = 5 ∨ (k = 0 ∧ j = 10) ∨ (k = 1 ∧ j = 1) ∨ (k = 12 ∧ (j = 1 ∨ j = 2))) → gX S2 k j = gX S k j := by
    intro k j hk hne
    rw [h2.X k j (by unfold pSe; omega), hA.2.2.2.2.2.2.2.1 k j (by omega) (by omega)]
  have c10 : gX S2 0 10 = nI (n + 1) := by rw [h2.X 0 10 (by unfold pSe; omega)]; exact hA.2.2.2.2.2.2.2.2.1
  have c11 : gX S2 1 1 = 0 := by rw [h2.X 1 1 (by unfold pSe; omega)]; exact hA.2.2.2.2.2.2.2.2.2.1
  refine ⟨f2.ag d1, closed_ag d1 (closed_ag h2 hA.2.1), hfr.tr (Fr3.ag d1 (fun k j z => by unfold pDg at z; unfold xC; omega)), ?_, ?_, ?_, ?_, ?_, ?_, ?_⟩
  · rw [d1.X 0 10 (by unfold pDg; omega)]; exact c10
  · rw [d1.X 1 1 (by unfold pDg; omega)]; exact c11
  · rw [d2, x2 8 3 (by omega) (by omega)]
  · rw [d3, x2 8 4 (by omega) (by omega)]
  · intro k hk; rw [d4 k hk, x2 9 (k - 1) (by omega) (by omega)]
  · intro k hk; rw [d5 k hk, c10, x2 10 (k - 1) (by omega) (by omega)]
  · intro k hk; rw [d6 k hk, x2 11 (k - 1) (by omega) (by omega)]
theorem c_bad {S2 : GS} {rq : Nat} {w x2 fa : Int32} {K : Int32 → GS → Prop} (hF : Fix S2) (hw : ¬ (0 : Int32) ≤ -w) (hx : (x2 = 0 ∧ rq < gN S2 ∧ gK S2 rq = 4 ∧ fa = gX S2 rq 2) ∨ (x2 ≠ 0 ∧ fa = 0)) (hK : ∀ S3, Da S2 S3 w (gX S2 0 10) fa 1 → K (-w) S3) : wX8_line_66 K 0 rq x2 (-w) S2 := by
  have h93 : wX8_line_93 K 0 (-w) (gR S2 0 4) (- -w) (gX S2 0 10) fa S2 := by
    rw [Int32.neg_neg]
    exact ⟨8, fr_0_4 hF, fn_8 hF, fk_8 hF, q_dadd hF (fun S3 h3 _ => hK S3 h3)⟩
  refine ⟨fun a => absurd a hw, fun _ => ⟨fn_0 hF, fk_0 hF, fun a => ?_, fun a => ?_⟩⟩
  · rcases hx with z | z
    · rw [z.2.2.2] at h93
      exact ⟨z.2.1, z.2.2.1, h93⟩
    · exact absurd a z.1
  · rcases hx with z | z
    · exact absurd z.1 a
    · rw [z.2] at h93
      exact h93
theorem pL_eL {n k j : Nat} (z : pL n k j) : eL n k j := by
  unfold pL at z
  unfold eL
  rcases z with z | z | ⟨z, y⟩ | ⟨z, y⟩ | z
  · exact Or.inr (Or.inl z)
  · exact Or.inr (Or.inr (Or.inl z))
  · refine Or.inr (Or.inr (Or.inr (Or.inr (Or.inr (Or.inr (Or.inl ⟨z, ?_⟩))))))
    omega
  · refine Or.inr (Or.inr (Or.inr (Or.inr (Or.inr (Or.inr (Or.inr (Or.inl ⟨?_, y⟩)))))))
    omega
  · exact Or.inr (Or.inr (Or.inr (Or.inr (Or.inr (Or.inr (Or.inr (Or.inr z)))))))
theorem xC_eB {n P k j : Nat} (z : xC k j) : eB n P k j := by
  unfold xC at z
  unfold eB eL
  rcases z with z | z | z | z | z | z | z | z
  · exact Or.inl (Or.inl z)
  · exact Or.inl (Or.inr (Or.inr (Or.inr (Or.inl z))))
  · exact Or.inl (Or.inr (Or.inr (Or.inr (Or.inr (Or.inl z)))))
  · exact Or.inl (Or.inr (Or.inr (Or.inr (Or.inr (Or.inr (Or.inl z))))))
  · exact Or.inr (Or.inl z)
  · exact Or.inr (Or.inr (Or.inl z))
  · exact Or.inr (Or.inr (Or.inr (Or.inl z)))
  · exact Or.inr (Or.inr (Or.inr (Or.inr (Or.inl z))))
theorem eL_20 {n k j : Nat} (z : (k = 20 ∨ k = 21 ∨ k = 22) ∧ j = n) : eL n k j := by
  unfold eL
  refine Or.inr (Or.inr (Or.inr (Or.inr (Or.inr (Or.inr (Or.inr (Or.inl ⟨?_, z.2⟩)))))))
  omega
theorem eL_19 {n k j : Nat} (z : k = 14 ∧ j = 19) : eL n k j := by
  unfold eL
  refine Or.inr (Or.inr (Or.inr (Or.inr (Or.inr (Or.inr (Or.inl ⟨z.1, ?_⟩))))))
  omega
theorem pD_eB {n P k j : Nat} (z : ((k = 20 ∨ k = 21) ∧ j = n) ∨ (k = 14 ∧ j = 19) ∨ pD P n k j) : eB n P k j := by
  unfold pD at z
  rcases z with z | z | z | z | z
  · exact Or.inl (eL_20 ⟨by omega, z.2⟩)
  · exact Or.inl (eL_19 z)
  · exact Or.inr (Or.inr (Or.inr (Or.inr (Or.inr (Or.inr z)))))
  · exact Or.inr (Or.inr (Or.inr (Or.inr (Or.inr (Or.inl z)))))
  · exact Or.inl (eL_20 ⟨by omega, z.2⟩)
theorem fin_bad {S S3 S4 S6 : GS} {cap n E P lg pl : Nat} {oP oM : Option Nat} {dP : Int32 × Int32} {w fa : Int32} (h : Inw S cap n E P lg pl oP oM dP) (hcap : cap < 48) (hc : CBd S S3 n w fa) (hp : Lp S3 S4 n) (hb : RB S4 S6 n P w fa) (ht : (gX S6 20 n = 0 ∧ gX S3 12 1 = gX S 12 1 ∧ gX S3 12 2 = gX S 12 2) ∨ (gX S6 20 n = 1 ∧ Rng S6 n ∧ gX S3 12 2 = gX S6 26 n ∧ gX S3 12 1 = (if gX S 12 1 = -1 then gX S6 26 n else gX S 12 1) ∧ (gX S 12 2).toInt ≤ (gX S6 26 n).toInt)) : Inw S6 (cap + 1) (n + 1) E (P + 1) lg 0 oP oM dP := by
  obtain ⟨f3, cl3, fr3, c10, c11, d83, d84, r9, r10, r11⟩ := hc
  obtain ⟨f4, a4, p19, p21, p1, p32⟩ := hp
  obtain ⟨f6, a6, b20, b21, b19, b34, b35, b36, b29, b22⟩ := hb
  have h39 := h.1.1.1
  have hlg : gX S 14 20 = nI lg := h.2.2.1.2.2.2.2.2.2.2
  have x6 : ∀ k j, k < 14 → gX S6 k j = gX S3 k j := fun k j hk => by
    rw [a6.X k j (by unfold pD; omega), a4.X k j (by unfold pL; omega)]
  have fr : Fr3 (eB n P) (fun _ _ => False) (fun _ _ => False) S S6 := ((fr3.mono (fun k j z => xC_eB z) (fun _ _ z => z) (fun _ _ z => z)).tr (Fr3.ag a4 (fun k j z => Or.inl (pL_eL z)))).tr (Fr3.ag a6 (fun k j z => pD_eB z))
  refine asm_bad h hcap f6 (closed_ag a6 (closed_ag a4 cl3)) fr (by rw [x6 0 10 (by omega)]; exact c10) (by rw [x6 1 1 (by omega)]; exact c11) b19 (by rw [a6.X 14 1 (by unfold pD; omega)]; exact p1) ?_ b21 b22 ?_ b29 b34 b35 b36 (by rw [x6 8 3 (by omega)]; exact d83) (by rw [x6 8 4 (by omega)]; exact d84) (fun k hk => by rw [x6 9 k (by omega)]; exact r9 k hk) (fun k hk => by rw [x6 10 k (by omega)]; exact r10 k hk) (fun k hk => by rw [x6 11 k (by omega)]; exact r11 k hk)
  · rw [a6.X 19 n (by unfold pD; omega), p19, fr3.2.2.1 14 20 (by omega) (by unfold xC; omega)]; exact hlg
  · unfold tmS
    rw [x6 12 1 (by omega), x6 12 2 (by omega)]
    exact ht
/-- the class left the reference alone -/
def RS (S S3 : GS) : Prop := Fix S3 ∧ ∀ k j, 14 ≤ k → k ≤ 36 → gX S3 k j = gX S k j
theorem RS.of {X Z R : Nat → Nat → Prop} {S S3 : GS} (h39 : 39 ≤ gN S) (hF : Fix S3) (h : Fr3 X Z R S S3) (hx : ∀ k j, X k j → k < 14 ∨ 36 < k) : RS S S3 :=
  ⟨hF, fun k j h1 h2 => h.2.2.1 k j (by omega) (fun a => by have := hx k j a; omega)⟩
theorem r_syn {S S3 : GS} {cap n E P lg pl fault : Nat} {oP oM : Option Nat} {dP : Int32 × Int32} {Q : Int32 → GS → Prop} (h : Inw S cap n E P lg pl oP oM dP) (hcap : cap < 48) (hrs : RS S S3) (hrd : rdF (gX S 15) pl allM 0 = (none, fault)) (hQ : ∀ S4 S6, Lp S3 S4 n → RB S4 S6 n P 1 (nI fault) → Q (-1) S6) : wX9_line S3 14 Q := by
  obtain ⟨f3, x3⟩ := hrs
  obtain ⟨⟨hF, _⟩, i2, i3, i4, i5, _⟩ := h
  obtain ⟨k1, k2, k3, k4, k5, k6, k7, k8⟩ := i3
  have t3 : gX S3 15 = gX S 15 := funext (fun j => x3 15 j (by omega) (by omega))
  refine q_line_pre (n := n) (pl := pl) f3 (by rw [x3 14 19 (by omega) (by omega)]; exact k7) (by omega) (by rw [x3 14 1 (by omega) (by omega)]; exact i2.2.2.1) i2.1 (fun fa S4 hr hp => ?_) (fun s k c S4 hr hp _ => ?_)
  · rw [t3, hrd] at hr
    injection hr with _ hr
    subst hr
    have a4 := hp.2.1
    refine r_bad hp.1 (by rw [a4.X 14 19 (by unfold pL; omega), x3 14 19 (by omega) (by omega)]; exact k7) (by omega) (by rw [a4.X 14 29 (by unfold pL; omega), x3 14 29 (by omega) (by omega)]; exact i5.1) (by omega) (by decide) (fun S6 h6 => ?_)
    rw [if_pos rfl] at h6
    exact hQ S4 S6 hp h6
  · obtain ⟨z, hr⟩ := hr
    rw [t3, hrd] at hr
    injection hr with hr _
    exact absurd hr (by simp)
theorem r_fit {S S3 : GS} {cap n E P lg pl s k c : Nat} {oP oM : Option Nat} {dP : Int32 × Int32} {Q : Int32 → GS → Prop} (h : Inw S cap n E P lg pl oP oM dP) (hcap : cap < 48) (hrs : RS S S3) (hrd : rdF (gX S 15) pl allM 0 = (some (s, k, c), 0)) (hj : ∀ S4, Lp S3 S4 n → gX S4 14 29 = nI P → Vw S S4 n E lg s k c (rnm (gX S 15) pl (mld s k c)) → wX9_wrongWith S4 14 (nI n) (fun u S2 => gSh S2 S4 → wX9_line_51 Q 14 (nI n) (-1) u S2)) : wX9_line S3 14 Q := by
  obtain ⟨f3, x3⟩ := hrs
  obtain ⟨⟨hF, _⟩, i2, i3, i4, i5, i6, _⟩ := h
  obtain ⟨k1, k2, k3, k4, k5, k6, k7, k8⟩ := i3
  have t3 : gX S3 15 = gX S 15 := funext (fun j => x3 15 j (by omega) (by omega))
  refine q_line_pre (n := n) (pl := pl) f3 (by rw [x3 14 19 (by omega) (by omega)]; exact k7) (by omega) (by rw [x3 14 1 (by omega) (by omega)]; exact i2.2.2.1) i2.1 (fun fa S4 hr hp => ?_) (fun s' k' c' S4 hr hp hl => ?_)
  · rw [t3, hrd] at hr
    injection hr with hr _
    exact absurd hr (by simp)
  · obtain ⟨z, hr⟩ := hr
    rw [t3, hrd] at hr
    injection hr with hr _
    injection hr with hr
    injection hr with hr1 hr
    injection hr with hr2 hr3
    subst hr1 hr2 hr3
    rw [t3] at hl
    have a4 := hp.2.1
    have e4 : ∀ k j, 14 ≤ k → k ≤ 36 → ¬ pL n k j → gX S4 k j = gX S k j := fun k j h1 h2 h3 => by rw [a4.X k j h3, x3 k j h1 h2]
    refine hj S4 hp (by rw [e4 14 29 (by omega) (by omega) (by unfold pL; omega)]; exact i5.1) ⟨hp.1, ⟨fun k hk j hj => e4 k j (by omega) (by omega) (by unfold pL; omega), fun j hj => e4 28 j (by omega) (by omega) (by unfold pL; omega), fun k hk i hi => e4 k i (by omega) (by omega) (by unfold pL; omega)⟩, ?_, ?_, ?_, e4 14 30 (by omega) (by omega) (by unfold pL; omega), e4 14 31 (by omega) (by omega) (by unfold pL; omega), hl⟩
    · rw [e4 14 20 (by omega) (by omega) (by unfold pL; omega)]; exact k8
    · rw [e4 14 19 (by omega) (by omega) (by unfold pL; omega)]; exact k7
    · rw [e4 14 25 (by omega) (by omega) (by unfold pL; omega)]; exact i6.2.1
/-- the line as it was read has a text -/
theorem Lf.rng {S6 : GS} {T : Nat → Int32} {n pl s k c : Nat} (hv : vld s k c) (hok : rok T pl (mld s k c) = true) (h : Lf S6 n s k c (rnm T pl (mld s k c))) : Rng S6 n := by
  have hs : s ≤ 6 ∧ k ≤ 2 ∧ c ≤ 2 := by unfold vld at hv; omega
  obtain ⟨a1, a2, a3, a4, a5, a6, a7⟩ := h
  refine ⟨s, k, c, hs.1, hs.2.1, hs.2.2, a1, a2, a3, ?_⟩
  have ok := ns_okT hs.1 hs.2.1 hs.2.2 hok
  rw [a5, a4, a7]
  refine ⟨ok.1, ok.2.1, fun z => ?_, fun z => ?_, ok.2.2.2.2⟩
  · have hm : 2 ≤ mSizes s := by
      unfold mSizes
      rcases z with z | z | z <;> subst z <;> decide
    have e0 := a6 0 (by omega)
    rw [Nat.add_zero] at e0
    rw [e0, a6 1 (by omega)]
    exact ok.2.2.1 z
  · have hm : mSizes s = 3 := by subst z; rfl
    rw [a6 2 (by omega)]
    exact ok.2.2.2.1 z
theorem Lf.tr {S4 S6 : GS} {n s k c : Nat} {ns : List Int32} (h : Lf S4 n s k c ns) (hx : ∀ a j, (a = 23 ∨ a = 24 ∨ a = 25 ∨ a = 26 ∨ a = 27 ∨ a = 28 ∨ a = 29) → gX S6 a j = gX S4 a j) : Lf S6 n s k c ns := by
  obtain ⟨a1, a2, a3, a4, a5, a6, a7⟩ := h
  exact ⟨by rw [hx 23 n (by omega)]; exact a1, by rw [hx 24 n (by omega)]; exact a2, by rw [hx 25 n (by omega)]; exact a3, by rw [hx 26 n (by omega)]; exact a4, by rw [hx 27 n (by omega)]; exact a5, fun j hj => by rw [hx 28 _ (by omega)]; exact a6 j hj, by rw [hx 29 n (by omega)]; exact a7⟩
/-- what is known of a fitting line -/
def Ft (S : GS) (pl s k c : Nat) : Prop := rdF (gX S 15) pl allM 0 = (some (s, k, c), 0) ∧ vld s k c ∧ rok (gX S 15) pl (mld s k c) = true
/-- a fitting line that the reference finds wrong too -/
theorem fin_w {S S3 : GS} {cap n E P lg pl s k c : Nat} {oP oM : Option Nat} {dP : Int32 × Int32} {w : Int32} (h : Inw S cap n E P lg pl oP oM dP) (hcap : cap < 48) (hft : Ft S pl s k c) (hc : CBd S S3 n w 0) (hw0 : w ≠ 0) (hw1 : w ≠ 1) (hj : ∀ S4, Vw S S4 n E lg s k c (rnm (gX S 15) pl (mld s k c)) → ∀ Q' : Int32 → GS → Prop, Q' w S4 → wX9_wrongWith S4 14 (nI n) Q')
    (ht : (w = 2 ∧ gX S3 12 1 = gX S 12 1 ∧ gX S3 12 2 = gX S 12 2) ∨ (w ≠ 2 ∧ gX S3 12 2 = fTm (rnm (gX S 15) pl (mld s k c)) ∧ gX S3 12 1 = (if gX S 12 1 = -1 then fTm (rnm (gX S 15) pl (mld s k c)) else gX S 12 1) ∧ (gX S 12 2).toInt ≤ (fTm (rnm (gX S 15) pl (mld s k c))).toInt)) : wX9_line S3 14 (fun r2 S6 => gSh S6 S3 → -w = r2 ∧ Inv S6 (cap + 1)) := by
  have h39 := h.1.1.1
  have hrs : RS S S3 := RS.of h39 hc.1 hc.2.2.1 (fun k j z => by unfold xC at z; omega)
  refine r_fit h hcap hrs hft.1 (fun S4 hp h29 hv => hj S4 hv _ (fun _ => ?_))
  have hP5 : P < 512 := by have := h.2.2.1.2.2.1; omega
  have hn5 : n < 512 := by have := h.2.2.1.2.1; omega
  refine r_bad hv.1 hv.2.2.2.1 hn5 h29 hP5 hw0 (fun S6 h6 _ => ⟨rfl, n + 1, E, P + 1, lg, 0, oP, oM, dP, ?_⟩)
  rw [if_neg hw1] at h6
  refine fin_bad h hcap hc hp h6 ?_
  have b20 := h6.2.2.1
  have hl6 : Lf S6 n s k c (rnm (gX S 15) pl (mld s k c)) := hv.2.2.2.2.2.2.2.tr (fun a j ha => h6.2.1.X a j (by unfold pD; omega))
  rcases ht with ⟨z, z1, z2⟩ | ⟨z, z1, z2, z3⟩
  · left
    rw [if_pos (Or.inr z)] at b20
    exact ⟨b20, z1, z2⟩
  · right
    rw [if_neg (fun y => by rcases y with y | y; exact hw1 y; exact z y)] at b20
    rw [hl6.2.2.2.1]
    exact ⟨b20, hl6.rng hft.2.1 hft.2.2, z1, z2, z3⟩
