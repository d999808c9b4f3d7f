/-! FINISH. -/
def Fl (S0 S : GS) (j : Nat) : Prop := Fix S ∧ Ag (fun k _ => k = 22) S0 S ∧ ∀ i, gX S 22 i = if i < j ∧ gX S0 22 i = 0 then 2 else gX S0 22 i
def Fz (S0 S : GS) (n lg : Nat) : Prop := Fix S ∧ Ag (fun k j => k = 22 ∨ (k = 14 ∧ (j = 20 ∨ j = 30 ∨ j = 31))) S0 S ∧ (∀ i, gX S 22 i = if i < n ∧ gX S0 22 i = 0 then 2 else gX S0 22 i) ∧ gX S 14 30 = -1 ∧ gX S 14 31 = -1 ∧ gX S 14 20 = nI (lg + 1)
theorem q_fin51 {S0 : GS} {n lg : Nat} {x1 : Int32} {Q : Int32 → GS → Prop} (hn : gX S0 14 19 = nI n) (hn5 : n ≤ 512) (hlg : gX S0 14 20 = nI lg) (hQ : ∀ S2, Fz S0 S2 n lg → Q x1 S2) : ∀ (r j : Nat) (S : GS), j + r = n → Fl S0 S j → wX9_finish_51 Q 14 (r + 1) x1 (nI j) S := by
  intro r
  induction r with
  | zero =>
    intro j S hj h
    have ej : j = n := by omega
    subst ej
    obtain ⟨f, a, b⟩ := h
    have hnS : gX S 14 19 = nI j := by rw [a.X 14 19 (by omega)]; exact hn
    unfold wX9_finish_51
    rw [hnS]
    refine ⟨fn_14 f, fk_14 f, fun _ S3 e3 S6 e6 S9 e9 => hQ S9 ?_, fun z => absurd ((nj_le (by omega) (by omega)).mpr (Nat.le_refl _)) z⟩
    have t : gX S6 14 20 = nI lg := by rw [e6, x_sX, if_neg (by omega), e3, x_sX, if_neg (by omega), a.X 14 20 (by omega)]; exact hlg
    rw [t, nj_succ] at e9
    refine ⟨by rw [e9, e6, e3]; exact ((f.x _ _ _).x _ _ _).x _ _ _, ?_, ?_, ?_, ?_, ?_⟩
    · rw [e9, e6, e3]
      exact (((a.mono (fun k j z => Or.inl z)).x _ _ _ (Or.inr ⟨rfl, by omega⟩)).x _ _ _ (Or.inr ⟨rfl, by omega⟩)).x _ _ _ (Or.inr ⟨rfl, by omega⟩)
    · intro i
      rw [e9, x_sX, if_neg (by omega), e6, x_sX, if_neg (by omega), e3, x_sX, if_neg (by omega)]; exact b i
    · rw [e9, x_sX, if_neg (by omega), e6, x_sX, if_neg (by omega), e3, x_sX, if_pos ⟨rfl, rfl⟩]
    · rw [e9, x_sX, if_neg (by omega), e6, x_sX, if_pos ⟨rfl, rfl⟩]
    · rw [e9, x_sX, if_pos ⟨rfl, rfl⟩]
  | succ r ih =>
    intro j S hj h
    obtain ⟨f, a, b⟩ := h
    have hnS : gX S 14 19 = nI n := by rw [a.X 14 19 (by omega)]; exact hn
    have hv := nj_in (n := 512) (show j < 512 by omega) (by omega)
    have bj : gX S 22 j = gX S0 22 j := by rw [b j, if_neg (by omega)]
    unfold wX9_finish_51 wX9_finish_75
    rw [hnS, nj_succ]
    refine ⟨fn_14 f, fk_14 f, fun z => absurd ((nj_le (by omega) (by omega)).mp z) (by omega), fun _ => ⟨22, fr_14_11 f, fn_22 f, fk_22 f, ?_⟩⟩
    rw [fl_22 f, nj_clamp (by omega), bj]
    refine ⟨hv, fun z => ih (j + 1) S (by omega) ⟨f, a, fun i => ?_⟩, fun z => ⟨hv, fun S18 e18 => ih (j + 1) S18 (by omega) ⟨by rw [e18]; exact f.x _ _ _, by rw [e18]; exact a.x _ _ _ rfl, fun i => ?_⟩⟩⟩
    · rw [b i]
      by_cases e : i = j
      · subst e
        rw [if_neg (by omega), if_neg (fun y => z y.2)]
      · by_cases c : i < j ∧ gX S0 22 i = 0
        · rw [if_pos c, if_pos ⟨by omega, c.2⟩]
        · rw [if_neg c, if_neg (fun y => c ⟨by omega, y.2⟩)]
    · rw [e18, x_sX]
      by_cases e : i = j
      · subst e
        rw [if_pos ⟨rfl, rfl⟩, if_pos ⟨by omega, z⟩]
      · rw [if_neg (fun y => e y.2), b i]
        by_cases c : i < j ∧ gX S0 22 i = 0
        · rw [if_pos c, if_pos ⟨by omega, c.2⟩]
        · rw [if_neg c, if_neg (fun y => c ⟨by omega, y.2⟩)]
/-- the reference's finish: problems P1 -/
def Rf (S S6 : GS) (n P lg : Nat) (oP oM : Option Nat) (bP bM : Nat) : Prop := Fix S6 ∧ Ag (fun k j => k = 22 ∨ (k = 14 ∧ (j = 20 ∨ j = 29 ∨ j = 30 ∨ j = 31 ∨ j = 32)) ∨ ((k = 34 ∨ k = 35 ∨ k = 36) ∧ P ≤ j)) S S6 ∧ (∀ i, i < n → gX S6 22 i = if gX S 22 i = 0 then 2 else gX S 22 i) ∧ gX S6 14 30 = -1 ∧ gX S6 14 31 = -1 ∧ gX S6 14 20 = nI (lg + 1) ∧ gX S6 14 29 = nI (P + oc oP + oc oM)
  ∧ (oP ≠ none → gX S6 34 P = 8 ∧ gX S6 35 P = nI bP ∧ gX S6 36 P = 0) ∧ (oM ≠ none → gX S6 34 (P + oc oP) = 8 ∧ gX S6 35 (P + oc oP) = nI bM ∧ gX S6 36 (P + oc oP) = 0)
theorem q_finish9 {S : GS} {n P lg : Nat} {oP oM : Option Nat} {bP bM : Nat} {Q : Int32 → GS → Prop} (hF : Fix S) (hn : gX S 14 19 = nI n) (hn5 : n < 512) (hlg : gX S 14 20 = nI lg) (hP : gX S 14 29 = nI P) (hP5 : P + 2 ≤ 512)
    (h30 : (oP = none ∧ gX S 14 30 = -1) ∨ (oP ≠ none ∧ gX S 14 30 = nI bP ∧ bP < n ∧ gX S 22 bP = 0)) (h31 : (oM = none ∧ gX S 14 31 = -1) ∨ (oM ≠ none ∧ gX S 14 31 = nI bM ∧ bM < n ∧ gX S 22 bM = 0)) (hQ : ∀ S6, Rf S S6 n P lg oP oM bP bM → Q (nI (cnt (gX S 22) 0 n)) S6) : wX9_finish S 14 Q := by
  refine ⟨fn_14 hF, fk_14 hF, fun S1 e1 => ?_⟩
  have f1 : Fix S1 := by rw [e1]; exact hF.x _ _ _
  have a1 : Ag (fun k j => k = 22 ∨ (k = 14 ∧ (j = 20 ∨ j = 29 ∨ j = 30 ∨ j = 31 ∨ j = 32)) ∨ ((k = 34 ∨ k = 35 ∨ k = 36) ∧ P ≤ j)) S S1 := by rw [e1]; exact (Ag.rf _ _).x _ _ _ (Or.inr (Or.inl ⟨rfl, by omega⟩))
  have w1 : ∀ k j, ¬ (k = 14 ∧ j = 32) → gX S1 k j = gX S k j := fun k j hk => by rw [e1, x_sX, if_neg hk]
  have r22 : gX S1 22 = gX S 22 := funext (fun j => w1 22 j (by omega))
  refine q_owned (n := n) f1 (by rw [w1 14 19 (by omega)]; exact hn) (by omega) (fun _ => ?_)
  rw [r22]
  -- behind both problems
  have h49 : ∀ S5, Fix S5 → Ag (fun k j => k = 22 ∨ (k = 14 ∧ (j = 20 ∨ j = 29 ∨ j = 30 ∨ j = 31 ∨ j = 32)) ∨ ((k = 34 ∨ k = 35 ∨ k = 36) ∧ P ≤ j)) S S5 → gX S5 14 20 = nI lg → (∀ i, i < n → gX S5 22 i = gX S 22 i ∨ (gX S 22 i = 0 ∧ gX S5 22 i = 2)) → gX S5 14 29 = nI (P + oc oP + oc oM) → (oP ≠ none → gX S5 34 P = 8 ∧ gX S5 35 P = nI bP ∧ gX S5 36 P = 0) → (oM ≠ none → gX S5 34 (P + oc oP) = 8 ∧ gX S5 35 (P + oc oP) = nI bM ∧ gX S5 36 (P + oc oP) = 0) → wX9_finish_49 Q 14 (nI (cnt (gX S 22) 0 n)) S5 := by
    intro S5 f5 a5 l5 o5 p5 d5 m5
    refine ⟨n + 1, q_fin51 (S0 := S5) (n := n) (lg := lg) ?_ (by omega) l5 (fun S6 h6 => hQ S6 ?_) n 0 S5 (by omega) ⟨f5, Ag.rf _ _, fun i => by rw [if_neg (by omega)]⟩⟩
    · rw [a5.X 14 19 (by omega)]; exact hn
    obtain ⟨z1, z2, z3, z4, z5, z6⟩ := h6
    refine ⟨z1, a5.tr (z2.mono (fun k j y => by omega)), fun i hi => ?_, z4, z5, z6, ?_, fun y => ?_, fun y => ?_⟩
    · rw [z3 i]
      rcases o5 i hi with y | ⟨y, y2⟩
      · rw [y]
        by_cases c : gX S 22 i = 0
        · rw [if_pos ⟨hi, c⟩, if_pos c]
        · rw [if_neg (fun x => c x.2), if_neg c]
      · rw [y2, if_neg (fun x => absurd x.2 (by decide)), if_pos y]
    · rw [z2.X 14 29 (by omega)]; exact p5
    · rw [z2.X 34 _ (by omega), z2.X 35 _ (by omega), z2.X 36 _ (by omega)]; exact d5 y
    · rw [z2.X 34 _ (by omega), z2.X 35 _ (by omega), z2.X 36 _ (by omega)]; exact m5 y
  have h30' : ∀ S4, Fix S4 → Ag (fun k j => k = 22 ∨ (k = 14 ∧ (j = 20 ∨ j = 29 ∨ j = 30 ∨ j = 31 ∨ j = 32)) ∨ ((k = 34 ∨ k = 35 ∨ k = 36) ∧ P ≤ j)) S S4 → gX S4 14 20 = nI lg → gX S4 14 31 = gX S 14 31 → (∀ i, i < n → gX S4 22 i = gX S 22 i ∨ (gX S 22 i = 0 ∧ gX S4 22 i = 2)) → gX S4 14 29 = nI (P + oc oP) → (oP ≠ none → gX S4 34 P = 8 ∧ gX S4 35 P = nI bP ∧ gX S4 36 P = 0) → wX9_finish_30 Q 14 (nI (cnt (gX S 22) 0 n)) S4 := by
    intro S4 f4 a4 l4 m4 o4 p4 d4
    refine ⟨fn_14 f4, fk_14 f4, fun z => ?_, fun z => ?_⟩
    · rw [m4] at z
      rcases h31 with y | y
      · refine h49 S4 f4 a4 l4 o4 (by rw [y.1]; exact p4) d4 (fun x => absurd y.1 x)
      · rw [y.2.1] at z; exact absurd z (nI_ne (by omega))
    · rw [m4] at z ⊢
      rcases h31 with y | ⟨y0, y1, y2, y3⟩
      · exact absurd y.2 z
      · rw [y1]
        have hoc : oc oP ≤ 1 := by cases oP <;> simp [oc]
        have hom : oc oM = 1 := by cases oM with
          | none => exact absurd rfl y0
          | some _ => rfl
        refine q_diagnose (P := P + oc oP) f4 p4 (by omega) (by omega) (fun S5 h5 _ => ?_)
        obtain ⟨g1, g2, g3, g4, g5, g6⟩ := h5
        refine h49 S5 (f4.ag g1) (a4.tr (g1.mono (fun k j x => by unfold pD at x; omega))) (by rw [g1.X 14 20 (by unfold pD; omega)]; exact l4) (fun i hi => ?_) (by rw [hom]; exact g5) (fun x => ?_) (fun _ => ⟨g2, g3, g4⟩)
        · by_cases e : i = bM
          · subst e; exact Or.inr ⟨y3, g6⟩
          · rw [g1.X 22 i (by unfold pD; omega)]; exact o4 i hi
        · have hop : oc oP = 1 := by cases oP with
            | none => exact absurd rfl x
            | some _ => rfl
          rw [g1.X 34 P (by unfold pD; omega), g1.X 35 P (by unfold pD; omega), g1.X 36 P (by unfold pD; omega)]
          exact d4 x
  refine ⟨fun z => ?_, fun z => ?_⟩
  · rw [w1 14 30 (by omega)] at z
    rcases h30 with y | y
    · refine h30' S1 f1 a1 (by rw [w1 14 20 (by omega)]; exact hlg) (w1 14 31 (by omega)) (fun i _ => Or.inl (w1 22 i (by omega))) (by rw [w1 14 29 (by omega), y.1]; exact hP) (fun x => absurd y.1 x)
    · rw [y.2.1] at z; exact absurd z (nI_ne (by omega))
  · rw [w1 14 30 (by omega)] at z ⊢
    rcases h30 with y | ⟨y0, y1, y2, y3⟩
    · exact absurd y.2 z
    · rw [y1]
      have hop : oc oP = 1 := by cases oP with
        | none => exact absurd rfl y0
        | some _ => rfl
      refine q_diagnose (P := P) f1 (by rw [w1 14 29 (by omega)]; exact hP) (by omega) (by omega) (fun S5 h5 _ => ?_)
      obtain ⟨g1, g2, g3, g4, g5, g6⟩ := h5
      refine h30' S5 (f1.ag g1) (a1.tr (g1.mono (fun k j x => by unfold pD at x; omega))) (by rw [g1.X 14 20 (by unfold pD; omega), w1 14 20 (by omega)]; exact hlg) (by rw [g1.X 14 31 (by unfold pD; omega), w1 14 31 (by omega)]) (fun i hi => ?_) (by rw [hop]; exact g5) (fun _ => ⟨g2, g3, g4⟩)
      by_cases e : i = bP
      · subst e; exact Or.inr ⟨y3, g6⟩
      · rw [g1.X 22 i (by unfold pD; omega), w1 22 i (by omega)]; exact Or.inl rfl
theorem cnt_fin {f g : Nat → Int32} : ∀ n, (∀ j, j < n → g j = if f j = 0 then 2 else f j) → cnt g 0 n = 0 ∧ cnt g 1 n = cnt f 1 n ∧ cnt g 2 n = cnt f 2 n + cnt f 0 n := by
  intro n
  induction n with
  | zero => intro _; exact ⟨rfl, rfl, rfl⟩
  | succ n ih =>
    intro h
    obtain ⟨a, b, c⟩ := ih (fun j hj => h j (by omega))
    have hn := h n (by omega)
    simp only [cnt]
    rw [a, b, c, hn]
    by_cases z : f n = 0
    · rw [if_pos z, z]
      have e1 : ¬ (2 : Int32) = 0 := by decide
      have e2 : ¬ (2 : Int32) = 1 := by decide
      have e3 : ¬ (0 : Int32) = 1 := by decide
      have e4 : ¬ (0 : Int32) = 2 := by decide
      simp [e1, e2, e3, e4]
      omega
    · rw [if_neg z]
      simp [z]
      omega
