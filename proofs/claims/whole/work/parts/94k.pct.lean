/-! PERCENTILE, both sides. -/
/-- the best so far, beginning with s -/
def pcv (S : GS) (p A : Int32) (E : Nat) (s : Int32) : Nat → Int32
  | 0 => s
  | i + 1 => if isP (gX S 23) (gX S 31) i = true ∧ ¬ pcv S p A E s i ≤ tkE S i ∧ ¬ (100 * nI (btw S 0 (tkE S i) E) < p * A) then tkE S i else pcv S p A E s i
theorem pcv_X {S S' : GS} (h : ∀ k j, k ≠ 14 → gX S' k j = gX S k j) (p A : Int32) (E : Nat) (s : Int32) (i : Nat) : pcv S' p A E s i = pcv S p A E s i := by
  induction i with
  | zero => rfl
  | succ i ih => rw [pcv, pcv, ih, isP_X h, tkE_X h, btw_X h]
theorem cntP_X {S S' : GS} (h : ∀ k j, k ≠ 14 → gX S' k j = gX S k j) (i : Nat) : cntP (gX S' 23) (gX S' 31) i = cntP (gX S 23) (gX S 31) i := by
  induction i with
  | zero => rfl
  | succ i ih => rw [cntP, cntP, ih, isP_X h]
theorem cntP_le (sh eL : Nat → Int32) (i : Nat) : cntP sh eL i ≤ i := by
  induction i with
  | zero => exact Nat.le_refl _
  | succ i ih => rw [cntP]; split <;> omega
/-- the longest of the pauses -/
theorem pc_max (f : Nat → Bool) (t : Nat → Int) : ∀ E, (∃ i, i < E ∧ f i = true) → ∃ i, i < E ∧ f i = true ∧ ∀ j, j < E → f j = true → t j ≤ t i := by
  intro E
  induction E with
  | zero => rintro ⟨i, hi, _⟩; omega
  | succ E ih =>
    rintro ⟨i, hi, hf⟩
    by_cases hx : ∃ i, i < E ∧ f i = true
    · obtain ⟨m, m1, m2, m3⟩ := ih hx
      by_cases hE : f E = true ∧ t m < t E
      · refine ⟨E, by omega, hE.1, fun j hj hfj => ?_⟩
        by_cases hjE : j = E
        · subst hjE; exact Int.le_refl _
        · have := m3 j (by omega) hfj; omega
      · refine ⟨m, by omega, m2, fun j hj hfj => ?_⟩
        by_cases hjE : j = E
        · subst hjE
          exact Int.not_lt.mp (fun w => hE ⟨hfj, w⟩)
        · exact m3 j (by omega) hfj
    · have : i = E := Classical.byContradiction (fun w => hx ⟨i, by omega, hf⟩)
      subst this
      refine ⟨i, by omega, hf, fun j hj hfj => ?_⟩
      by_cases hjE : j = i
      · subst hjE; exact Int.le_refl _
      · exact absurd ⟨j, by omega, hfj⟩ hx
theorem cntP_pos (sh eL : Nat → Int32) : ∀ E, cntP sh eL E ≠ 0 → ∃ i, i < E ∧ isP sh eL i = true := by
  intro E
  induction E with
  | zero => intro z; exact absurd rfl z
  | succ E ih =>
    intro z
    by_cases hE : isP sh eL E = true
    · exact ⟨E, by omega, hE⟩
    · rw [cntP, if_neg hE] at z
      obtain ⟨i, i1, i2⟩ := ih z
      exact ⟨i, by omega, i2⟩
theorem btw_all {S : GS} {hi : Int32} : ∀ E, (∀ j, j < E → isP (gX S 23) (gX S 31) j = true → 0 ≤ (tkE S j).toInt ∧ (tkE S j).toInt ≤ hi.toInt) → btw S 0 hi E = cntP (gX S 23) (gX S 31) E := by
  intro E
  induction E with
  | zero => intro _; rfl
  | succ E ih =>
    intro hh
    rw [btw, cntP, ih (fun j hj => hh j (by omega))]
    by_cases hE : isP (gX S 23) (gX S 31) E = true
    · obtain ⟨a, b⟩ := hh E (by omega) hE
      rw [if_pos ⟨hE, fun w => by have := le_of_lt32 w; rw [t0] at this; omega, fun w => by have := le_of_lt32 w; omega⟩, if_pos hE]
    · rw [if_neg (fun w => hE w.1), if_neg hE]
theorem pc_rel {S : GS} {p A : Int32} {E : Nat} (hb : ∀ j, j < E → isP (gX S 23) (gX S 31) j = true → 0 ≤ (tkE S j).toInt ∧ (tkE S j).toInt ≤ 9999999) : ∀ i, i ≤ E → (pcv S p A E 9999999 i = pcv S p A E 2147483647 i ∧ (pcv S p A E 2147483647 i).toInt ≤ 9999999) ∨ (pcv S p A E 9999999 i = 9999999 ∧ pcv S p A E 2147483647 i = 2147483647 ∧ ∀ j, j < i → isP (gX S 23) (gX S 31) j = true → 100 * nI (btw S 0 (tkE S j) E) < p * A) := by
  have v9 : (9999999 : Int32).toInt = 9999999 := by decide
  have vM : (2147483647 : Int32).toInt = 2147483647 := by decide
  intro i
  induction i with
  | zero => intro _; exact Or.inr ⟨rfl, rfl, fun j hj => absurd hj (by omega)⟩
  | succ i ih =>
    intro hi
    rw [pcv, pcv]
    rcases ih (by omega) with ⟨e1, e2⟩ | ⟨e1, e2, e3⟩
    · left
      rw [e1]
      refine ⟨rfl, ?_⟩
      split
      · rename_i w; exact (hb i (by omega) w.1).2
      · exact e2
    · rw [e1, e2]
      by_cases hp : isP (gX S 23) (gX S 31) i = true
      · obtain ⟨b0, b1⟩ := hb i (by omega) hp
        have nM : ¬ (2147483647 : Int32) ≤ tkE S i := fun w => by have := le_32 w; rw [vM] at this; omega
        by_cases hq : 100 * nI (btw S 0 (tkE S i) E) < p * A
        · right
          rw [if_neg (fun w => w.2.2 hq), if_neg (fun w => w.2.2 hq)]
          refine ⟨rfl, rfl, fun j hj hpj => ?_⟩
          by_cases hji : j = i
          · subst hji; exact hq
          · exact e3 j (by omega) hpj
        · left
          have eM : (if isP (gX S 23) (gX S 31) i = true ∧ ¬ (2147483647 : Int32) ≤ tkE S i ∧ ¬ (100 * nI (btw S 0 (tkE S i) E) < p * A) then tkE S i else 2147483647) = tkE S i := if_pos ⟨hp, nM, hq⟩
          rw [eM]
          refine ⟨?_, b1⟩
          by_cases h9 : (9999999 : Int32) ≤ tkE S i
          · rw [if_neg (fun w => w.2.1 h9)]
            apply Int32.toInt_inj.mp
            have := le_32 h9
            rw [v9] at this
            rw [v9]; omega
          · rw [if_pos ⟨hp, h9, hq⟩]
      · right
        rw [if_neg (fun w => hp w.1), if_neg (fun w => hp w.1)]
        refine ⟨rfl, rfl, fun j hj hpj => ?_⟩
        by_cases hji : j = i
        · subst hji; exact absurd hpj hp
        · exact e3 j (by omega) hpj
theorem pc_eq {S : GS} {p : Int32} {E : Nat} (hE : E ≤ 24) (hp1 : p.toInt ≤ 100) (hp0 : 1 ≤ p.toInt) (hA : cntP (gX S 23) (gX S 31) E ≠ 0) (hb : ∀ j, j < E → isP (gX S 23) (gX S 31) j = true → 0 ≤ (tkE S j).toInt ∧ (tkE S j).toInt ≤ 9999999) : pcv S p (nI (cntP (gX S 23) (gX S 31) E)) E 9999999 E = pcv S p (nI (cntP (gX S 23) (gX S 31) E)) E 2147483647 E := by
  rcases pc_rel (p := p) (A := nI (cntP (gX S 23) (gX S 31) E)) hb E (Nat.le_refl _) with e | ⟨_, _, e3⟩
  · exact e.1
  · exfalso
    obtain ⟨i, i1, i2, i3⟩ := pc_max (fun j => isP (gX S 23) (gX S 31) j) (fun j => (tkE S j).toInt) E (cntP_pos _ _ E hA)
    have hc := cntP_le (gX S 23) (gX S 31) E
    have hall : btw S 0 (tkE S i) E = cntP (gX S 23) (gX S 31) E := btw_all E (fun j hj hpj => ⟨(hb j hj hpj).1, i3 j hj hpj⟩)
    have hlt := le_of_lt32 (e3 i i1 i2)
    rw [hall] at hlt
    have vc : (nI (cntP (gX S 23) (gX S 31) E)).toInt = (cntP (gX S 23) (gX S 31) E : Int) := nj_int (by omega)
    have v100 : (100 : Int32).toInt = 100 := by decide
    generalize cntP (gX S 23) (gX S 31) E = m at *
    have hm : p.toInt * (m : Int) ≤ 100 * (m : Int) := Int.mul_le_mul_of_nonneg_right hp1 (by omega)
    have hm0 : 0 ≤ p.toInt * (m : Int) := Int.mul_nonneg (by omega) (by omega)
    rw [i32_mul (by rw [v100, vc]; omega) (by rw [v100, vc]; omega), i32_mul (by rw [vc]; omega) (by rw [vc]; omega), v100, vc] at hlt
    omega
/-- the reference's loop -/
theorem q_pct9 {S : GS} {n E : Nat} {p A : Int32} {Q : Int32 → GS → Prop} (hF : Fix S) (hE : gX S 14 25 = nI E) (hE40 : E ≤ 40) (hn : n ≤ 512) (hv : Evc S n E) (hQ : Q (pcv S p A E 2147483647 E) S) : ∀ (r j : Nat), j + r = E → wX9_percentile_49 Q 14 (r + 1) p A (pcv S p A E 2147483647 j) (nI j) S := by
  intro r
  induction r with
  | zero =>
    intro j hj
    have ej : j = E := by omega
    subst ej
    unfold wX9_percentile_49
    rw [hE]
    exact ⟨fn_14 hF, fk_14 hF, fun _ => hQ, fun z => absurd ((nj_le (by omega) (by omega)).mpr (Nat.le_refl _)) z⟩
  | succ r ih =>
    intro j hj
    obtain ⟨q, b, e, e1, e2, hb, he, h30, h31, hk, h9, hp9, hip⟩ := hv j (by omega)
    have hgo := ih (j + 1) (by omega)
    rw [pcv] at hgo
    have htk : tkO S b e = tkE S j := by unfold tkE; rw [h30, h31, nj_clamp (by omega), nj_clamp (by omega)]
    unfold wX9_percentile_49 wX9_percentile_104
    rw [hE, nj_succ]
    refine ⟨fn_14 hF, fk_14 hF, fun z => absurd ((nj_le (by omega) (by omega)).mp z) (by omega), fun _ => q_isPause9 hF (by omega) h31 (by omega) (fun z _ => ⟨fun y => absurd y (by decide), fun _ => q_tookOf hF (by omega) h30 h31 (by omega) (by omega) (fun _ => ?_)⟩) (fun z _ => ⟨fun _ => ?_, fun y => absurd rfl y⟩)⟩
    · rw [htk]
      refine ⟨fun y => ?_, fun y => q_tookOf hF (by omega) h30 h31 (by omega) (by omega) (fun _ => ?_)⟩
      · rw [if_neg (fun w => w.2.1 y)] at hgo; exact hgo
      · rw [htk]
        refine q_btw hF hE hE40 hn hv (fun _ => ⟨fun y2 => ?_, fun y2 => q_tookOf hF (by omega) h30 h31 (by omega) (by omega) (fun _ => ?_)⟩)
        · rw [if_neg (fun w => w.2.2 y2)] at hgo; exact hgo
        · rw [htk]
          rw [if_pos ⟨hip.mpr z, y, y2⟩] at hgo; exact hgo
    · rw [if_neg (fun w => z (hip.mp w.1))] at hgo; exact hgo
/-- the class's loop -/
theorem q_pct8 {S : GS} {n E : Nat} {p : Int32} {Q : Int32 → GS → Prop} {X : String → GS → Prop} (hF : Fix S) (hE : gX S 6 1 = nI E) (hE40 : E ≤ 40) (hv : Evc S n E) (hQ : Q (pcv S p (gX S 13 1) E 9999999 E) S) : ∀ (r j : Nat), j + r = E → wX8_percentile_46 Q X 0 (r + 1) p (pcv S p (gX S 13 1) E 9999999 j) (nI j) S := by
  intro r
  induction r with
  | zero =>
    intro j hj
    have ej : j = E := by omega
    subst ej
    unfold wX8_percentile_46
    refine ⟨fn_0 hF, fk_0 hF, 6, fr_0_3 hF, fn_6 hF, fk_6 hF, ?_⟩
    rw [hE]
    exact ⟨fun _ => hQ, fun z => absurd ((nj_le (by omega) (by omega)).mpr (Nat.le_refl _)) z⟩
  | succ r ih =>
    intro j hj
    obtain ⟨q, b, e, e1, e2, _, _, _, _, hk, h9, _⟩ := hv j (by omega)
    have hgo := ih (j + 1) (by omega)
    rw [pcv] at hgo
    unfold wX8_percentile_46 wX8_percentile_123
    refine ⟨fn_0 hF, fk_0 hF, 6, fr_0_3 hF, fn_6 hF, fk_6 hF, ?_⟩
    rw [hE, nj_succ]
    refine ⟨fun z => absurd ((nj_le (by omega) (by omega)).mp z) (by omega), fun _ => q_getE hF hE hE40 (fun i hi' ei _ => ?_) (fun hb => ?_)⟩
    · have eij : i = j := ((nj_eq (by omega) (by omega)).mp ei).symm
      subst eij
      rw [e1]
      refine ⟨fun z => absurd z (by simp), fun q' hq' => ?_⟩
      injection hq' with hq'
      subst hq'
      refine ⟨e2.2.1, e2.2.2, q_isPauseC e2 (fun z _ => ⟨fun _ => ?_, fun y => absurd rfl y⟩) (fun z _ => ⟨fun y => absurd y (by decide), fun _ => ⟨q, rfl, e2.2.1, e2.2.2, ?_⟩⟩)⟩
      · rw [if_neg (fun y => (hk.mp z) y.1)] at hgo; exact hgo
      · have hp : isP (gX S 23) (gX S 31) i = true := Classical.byContradiction (fun y => z (hk.mpr y))
        rw [h9]
        refine ⟨fun y => ?_, fun y => ⟨6, fr_0_3 hF, fn_6 hF, fk_6 hF, q_ptt hF hE hE40 hv (fun _ => ⟨13, fr_0_6 hF, fn_13 hF, fk_13 hF, fun y2 => ?_, fun y2 => ⟨q, rfl, e2.2.1, e2.2.2, ?_⟩⟩)⟩⟩
        · rw [if_neg (fun w => w.2.1 y)] at hgo; exact hgo
        · rw [if_neg (fun w => w.2.2 y2)] at hgo; exact hgo
        · rw [h9]
          rw [if_pos ⟨hp, y, y2⟩] at hgo; exact hgo
    · exfalso
      rcases hb with z | z
      · exact nj_nneg (by omega) z
      · have := (nj_le (by omega) (by omega)).mp z; omega
theorem percentile_ok {S : GS} {cap n E P lg pl : Nat} {oP oM : Option Nat} {dP : Int32 × Int32} {x : Int32} (h : Inw S cap n E P lg pl oP oM dP) (hcap : cap < 48) : wX8_percentile S 0 x (fun r S1 => ∀ S1', Oa S1 S1' → wX9_percentile S1' 14 x (fun b S2 => b = r ∧ Rq S1' S2 0 cap)) (fun X S1 => (X = "java/lang/IllegalArgumentException" ∧ ∀ S1', Oa S1 S1' → wX9_percentile S1' 14 x (fun _ S2 => Rq S1' S2 1 cap)) ∨ (X = "java/lang/IllegalStateException" ∧ ∀ S1', Oa S1 S1' → wX9_percentile S1' 14 x (fun _ S2 => Rq S1' S2 2 cap))) := by
  obtain ⟨⟨hF, hcl⟩, i2, i3, i4, i5, i6, i7, i8, i9, i10, i11, i12⟩ := id h
  have hE : E ≤ 24 := by have := i3.1; have := i3.2.1; have := i3.2.2.2.2.1; omega
  have hn : n ≤ 48 := by have := i3.1; have := i3.2.1; omega
  have hv := h.evc
  have hc := cntP_le (gX S 23) (gX S 31) E
  have v1 : (1 : Int32).toInt = 1 := by decide
  have v100 : (100 : Int32).toInt = 100 := by decide
  have end30 : ∀ (k : Nat) (v A : Int32) (S1' : GS), Oa S S1' → v = nI k → ¬ v = 0 → wX9_percentile_30 (fun _ S2 => Rq S1' S2 k cap) 14 x A 14 v S1' := by
    intro k v A S1' ha hvk hv0
    have h1 := h.oa (by omega) ha
    have f1 := h1.1.1
    refine ⟨fn_14 f1, fk_14 f1, fun S9 e9 => ?_⟩
    have t9 : gX S9 14 32 = v := by rw [e9, x_sX, if_pos ⟨rfl, rfl⟩]
    rw [t9]
    refine ⟨by rw [e9]; exact fn_14 f1, by rw [e9]; exact fk_14 f1, fun w => absurd w hv0, fun _ => ?_⟩
    rw [e9]
    exact rq_thr h1 hcap hvk
  have bad : (x < 1 ∨ ¬ x ≤ 100) → ∀ S1', Oa S S1' → wX9_percentile S1' 14 x (fun _ S2 => Rq S1' S2 1 cap) := by
    intro hb S1' ha
    have h1 := h.oa (by omega) ha
    have f1 := h1.1.1
    refine ⟨fn_14 f1, fk_14 f1, q_pauses f1 h1.2.2.2.2.2.1.2.1 (by omega) (by omega) h1.evc (fun _ => ⟨fun _ => end30 1 1 _ S1' ha (by decide) (by decide), fun z => ⟨fun z2 => ?_, fun _ => end30 1 1 _ S1' ha (by decide) (by decide)⟩⟩)⟩
    exfalso
    rcases hb with w | w
    · exact z w
    · exact w z2
  have he : ∀ S1', Oa S S1' → cntP (gX S1' 23) (gX S1' 31) E = cntP (gX S 23) (gX S 31) E := fun S1' ha => by rw [ha.X]
  unfold wX8_percentile wX8_percentile_11
  refine ⟨fun z => Or.inl ⟨rfl, bad (Or.inl z)⟩, fun z => ⟨fun z2 => ⟨fn_0 hF, fk_0 hF, 13, fr_0_6 hF, fn_13 hF, fk_13 hF, fun z3 => ⟨E + 1, ?_⟩, fun z3 => Or.inr ⟨rfl, fun S1' ha => ?_⟩⟩, fun z2 => Or.inl ⟨rfl, bad (Or.inr z2)⟩⟩⟩
  · have z0 : (0 : Int32) = nI 0 := by decide
    rw [z0]
    refine q_pct8 hF i6.1 (by omega) hv (fun S1' ha => ?_) E 0 (by omega)
    have h1 := h.oa (by omega) ha
    have f1 := h1.1.1
    have hc0 : cntP (gX S 23) (gX S 31) E ≠ 0 := fun w => by rw [i9.1, w] at z3; exact z3 (by decide)
    have hx1 : x.toInt ≤ 100 := by have := le_32 z2; rw [v100] at this; exact this
    have hx0 : 1 ≤ x.toInt := by have := le_32 (Int32.not_lt.mp z); rw [v1] at this; exact this
    refine ⟨fn_14 f1, fk_14 f1, q_pauses f1 h1.2.2.2.2.2.1.2.1 (by omega) (by omega) h1.evc (fun _ => ⟨fun w => absurd w z, fun _ => ⟨fun _ => ⟨fun _ => ⟨fn_14 f1, fk_14 f1, fun S9 e9 => ?_⟩, fun w => ?_⟩, fun w => absurd z2 w⟩⟩)⟩
    · have t9 : gX S9 14 32 = 0 := by rw [e9, x_sX, if_pos ⟨rfl, rfl⟩]
      have h9 := h1.thr (by omega) 0
      rw [← e9] at h9
      have f9 := h9.1.1
      have x9 : ∀ k j, k ≠ 14 → gX S9 k j = gX S k j := by rw [e9]; exact thr_X ha 0
      have hR : Rq S1' S9 0 cap := by rw [e9]; exact rq_thr h1 hcap (by decide)
      rw [t9]
      refine ⟨fn_14 f9, fk_14 f9, fun _ => ⟨E + 1, ?_⟩, fun w => absurd rfl w⟩
      rw [z0]
      refine q_pct9 f9 h9.2.2.2.2.2.1.2.1 (by omega) (by omega) h9.evc ⟨?_, hR⟩ E 0 (by omega)
      rw [pcv_X x9, he S1' ha, i9.1]
      refine (pc_eq hE hx1 hx0 hc0 (fun j hj hpj => ?_)).symm
      obtain ⟨q, b, e, _, _, _, _, _, _, _, _, g, _⟩ := hv j hj
      rw [(g hpj).2.1]
      exact (g hpj).2.2
    · exfalso
      rw [he S1' ha] at w
      exact hc0 ((nj_eq (b := 0) (by omega) (by omega)).mp w)
  · have h1 := h.oa (by omega) ha
    have f1 := h1.1.1
    refine ⟨fn_14 f1, fk_14 f1, q_pauses f1 h1.2.2.2.2.2.1.2.1 (by omega) (by omega) h1.evc (fun _ => ⟨fun w => absurd w z, fun _ => ⟨fun _ => ⟨fun w => ?_, fun _ => end30 2 2 _ S1' ha (by decide) (by decide)⟩, fun w => absurd z2 w⟩⟩)⟩
    exfalso
    rw [he S1' ha, ← i9.1] at w
    exact w z3
