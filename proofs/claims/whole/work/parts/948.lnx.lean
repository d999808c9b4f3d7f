/-! ANY LINE: both sides answer alike, and the invariant stands. -/
theorem rdF_some {T : Nat → Int32} {n : Nat} : ∀ (l : List (Nat × Nat × Nat)) (f : Nat) (t : Nat × Nat × Nat) (z : Nat), rdF T n l f = (some t, z) → fit T n t := by
  intro l
  induction l with
  | nil => intro f t z h; simp [rdF] at h
  | cons a l ih =>
    intro f t z h
    unfold rdF at h
    split at h
    · rename_i hf
      injection h with h _
      injection h with h
      subst h
      exact (fitb_iff T n a).mp hf
    · exact ih _ t z h
theorem ww_back {S4 : GS} {n s : Nat} {Q : Int32 → GS → Prop} (hF : Fix S4) (hn5 : n < 512) (hs : gX S4 23 n = nI s) (hs6 : s ≤ 6) (hb : ∃ j, j < n ∧ cBk S4 n j) (hQ : Q 2 S4) : wX9_wrongWith S4 14 (nI n) Q := by
  refine q_ww_head hF hn5 hs hs6 ⟨fn_14 hF, fk_14 hF, q_isBack hF hn5 (fun _ _ => ⟨fun x => absurd x (by decide), fun _ => hQ⟩) (fun a => ?_)⟩
  obtain ⟨j, hj, hc⟩ := hb
  exact absurd hc (a j hj)
theorem line_ok {S : GS} {cap n E P lg pl : Nat} {oP oM : Option Nat} {dP : Int32 × Int32} (h : Inw S cap n E P lg pl oP oM dP) (hcap : cap < 48) : wX8_line S 0 (Kk S cap) := by
  have h39 := h.1.1.1
  obtain ⟨⟨hF, hcl⟩, i2, i3, i4, i5, i6, i7, i8, i9, i10, i11, i12⟩ := id h
  obtain ⟨ia, ib⟩ := I11_ab.mp i11
  obtain ⟨k1, k2, k3, k4, k5, k6, k7, k8⟩ := i3
  have hT : gX S 2 = gX S 15 := funext i2.2.2.2
  refine c_read (n := n) (pl := pl) hF hcl k6 i2.2.1 i2.1 (fun S1 fault e hrd hA hrq => ?_) (fun S1 s k c e hrd hv hA hen => ?_)
  · rw [hT] at hrd
    refine c_bad (w := 1) hA.1 (by decide) (Or.inl ⟨rfl, by rw [hA.2.2.1]; omega, hA.2.2.2.1, hrq.symm⟩) (fun S3 h3 _ => ?_)
    have hc := mkCBd h39 hA (Ag.rf _ _) h3
    have hrs : RS S S3 := RS.of h39 hc.1 hc.2.2.1 (fun k j z => by unfold xC at z; omega)
    refine r_syn h hcap hrs hrd (fun S4 S6 hp h6 _ => ⟨rfl, n + 1, E, P + 1, lg, 0, oP, oM, dP, fin_bad h hcap hc hp h6 (Or.inl ⟨?_, ?_, ?_⟩)⟩)
    · rw [h6.2.2.1, if_pos (Or.inl rfl)]
    · rw [h3.1.X 12 1 (by unfold pDg; omega), hA.2.2.2.2.2.2.2.1 12 1 (by omega) (by omega)]
    · rw [h3.1.X 12 2 (by unfold pDg; omega), hA.2.2.2.2.2.2.2.1 12 2 (by omega) (by omega)]
  · rw [hT] at hrd hen
    have hfit := rdF_some _ _ _ _ hrd
    have hft : Ft S pl s k c := ⟨hrd, hv, hfit.1⟩
    have hs6 : s ≤ 6 ∧ k ≤ 2 ∧ c ≤ 2 := by unfold vld at hv; omega
    have okt := ns_okT hs6.1 hs6.2.1 hs6.2.2 hft.2.2
    have e4 : gX S1 5 4 = fTm (rnm (gX S 15) pl (mld s k c)) := by rw [hA.2.2.2.2.2.2.2.2.2.2 4]; exact hen.2.2.2.1
    have l2 : gX S1 12 2 = gX S 12 2 := hA.2.2.2.2.2.2.2.1 12 2 (by omega) (by omega)
    have l1 : gX S1 12 1 = gX S 12 1 := hA.2.2.2.2.2.2.2.1 12 1 (by omega) (by omega)
    refine c_answer hA.1 (by rw [hA.2.2.2.2.2.2.2.2.2.2 0]; exact hen.1) hs6.1 (fun z _ => ?_) (fun z S2 g2 b2 b1 => ?_)
    · rw [l2, e4] at z
      refine c_bad (w := 2) hA.1 (by decide) (Or.inr ⟨by decide, rfl⟩) (fun S3 h3 _ => ?_)
      have hc := mkCBd h39 hA (Ag.rf _ _) h3
      refine fin_w h hcap hft hc (by decide) (by decide) (fun S4 hw Q' hQ => ww_back hw.1 (by omega) hw.2.2.2.2.2.2.2.1 hs6.1 ((back_iff hw i4 ia okt.2.1.1).mpr z) hQ) (Or.inl ⟨rfl, ?_, ?_⟩)
      · rw [h3.1.X 12 1 (by unfold pDg; omega)]; exact l1
      · rw [h3.1.X 12 2 (by unfold pDg; omega)]; exact l2
    · rw [l2, e4] at z
      rw [e4] at b2
      rw [e4, l1] at b1
      have hsn : Sn S S1 S2 n e (fTm (rnm (gX S 15) pl (mld s k c))) := ⟨hA, g2, b2, b1, le_32 z⟩
      have hc7 : s = 0 ∨ s = 1 ∨ s = 2 ∨ s = 3 ∨ s = 4 ∨ s = 5 ∨ s = 6 := by omega
      rcases hc7 with y | y | y | y | y | y | y <;> subst y
      · exact ⟨fun _ => ln_begP h hcap hft hen hsn, fun y => absurd y (by omega), fun y => absurd y (by omega), fun y => absurd y (by omega)⟩
      · exact ⟨fun y => absurd y (by omega), fun y => absurd y (by omega), fun _ => ln_endP h hcap hft hen hsn, fun y => absurd y (by omega)⟩
      · exact ⟨fun y => absurd y (by omega), fun _ => ln_part2 h hcap hft hen hsn, fun y => absurd y (by omega), fun y => absurd y (by omega)⟩
      · exact ⟨fun y => absurd y (by omega), fun _ => ln_part3 h hcap hft hen hsn, fun y => absurd y (by omega), fun y => absurd y (by omega)⟩
      · exact ⟨fun _ => ln_begM h hcap hft hen hsn, fun y => absurd y (by omega), fun y => absurd y (by omega), fun y => absurd y (by omega)⟩
      · exact ⟨fun y => absurd y (by omega), fun y => absurd y (by omega), fun y => absurd y (by omega), fun _ => ln_endM5 h hcap hft hen hsn⟩
      · exact ⟨fun y => absurd y (by omega), fun y => absurd y (by omega), fun y => absurd y (by omega), fun _ => ln_endM6 h hcap hft hen hsn⟩
