/-! THE REFERENCE'S LINE. -/
theorem rdF_le (T : Nat → Int32) (n : Nat) : ∀ (l : List (Nat × Nat × Nat)) (f : Nat), f ≤ n → (rdF T n l f).2 ≤ n := by
  intro l
  induction l with
  | nil => intro f h; exact h
  | cons t l ih =>
    intro f h
    have hr : rea T n t ≤ n := rch_le T n _ 0 [] (Nat.zero_le _)
    unfold rdF
    split
    · exact Nat.zero_le _
    · refine ih _ ?_
      split <;> omega
/-- what the reference's line may change before it is judged -/
def pL (n k j : Nat) : Prop := k = 16 ∨ k = 18 ∨ (k = 14 ∧ (j = 1 ∨ j = 3 ∨ j = 7 ∨ j = 32 ∨ j = 35)) ∨ ((k = 19 ∨ k = 21 ∨ k = 23 ∨ k = 24 ∨ k = 25 ∨ k = 26 ∨ k = 27 ∨ k = 29) ∧ j = n) ∨ (k = 28 ∧ 3 * n ≤ j ∧ j < 3 * n + 3)
theorem narb0 : vp_nar .boolean 0 = 0 := by decide
theorem narb1 : vp_nar .boolean 1 = 1 := by decide
/-- line n read as s, k, c with the numbers ns -/
def Lf (S1 : GS) (n s k c : Nat) (ns : List Int32) : Prop := gX S1 23 n = nI s ∧ gX S1 24 n = nI k ∧ gX S1 25 n = nI c ∧ gX S1 26 n = fTm ns ∧ gX S1 27 n = fId ns ∧ (∀ j, j < mSizes s → gX S1 28 (3 * n + j) = fSz ns j) ∧ gX S1 29 n = fTk s ns
def Lp (S S1 : GS) (n : Nat) : Prop := Fix S1 ∧ Ag (pL n) S S1 ∧ gX S1 19 n = gX S 14 20 ∧ gX S1 21 n = 0 ∧ gX S1 14 1 = 0 ∧ gX S1 14 32 = 0
theorem q_line_pre {S : GS} {n pl : Nat} {Q : Int32 → GS → Prop} (hF : Fix S) (hn : gX S 14 19 = nI n) (hn5 : n < 512) (hpl : gX S 14 1 = nI pl) (hp72 : pl ≤ 72)
    (hsyn : ∀ fault S1, rdF (gX S 15) pl allM 0 = (none, fault) → Lp S S1 n → wX9_line_51 Q 14 (nI n) (nI fault) 1 S1)
    (hfit : ∀ s k c S1, (∃ z, rdF (gX S 15) pl allM 0 = (some (s, k, c), z)) → Lp S S1 n → Lf S1 n s k c (rnm (gX S 15) pl (mld s k c)) → wX9_wrongWith S1 14 (nI n) (fun u S2 => gSh S2 S1 → wX9_line_51 Q 14 (nI n) (-1) u S2)) : wX9_line S 14 Q := by
  have hv := nj_in (n := 512) hn5 (by omega)
  have hcl := nj_clamp (show n < 2147483648 by omega)
  refine ⟨fn_14 hF, fk_14 hF, fun S8 e8 => ?_⟩
  have f8 : Fix S8 := by rw [e8]; exact hF.x _ _ _
  have n8 : gX S8 14 19 = nI n := by rw [e8, x_sX, if_neg (by omega)]; exact hn
  have p8 : gX S8 14 1 = nI pl := by rw [e8, x_sX, if_neg (by omega)]; exact hpl
  have t8 : gX S8 15 = gX S 15 := by funext j; rw [e8, x_sX, if_neg (by omega)]
  have a8 : Ag (pL n) S S8 := by rw [e8]; exact (Ag.rf _ _).x _ _ _ (Or.inr (Or.inr (Or.inl ⟨rfl, by omega⟩)))
  have z8 : gX S8 14 32 = 0 := by rw [e8, x_sX, if_pos ⟨rfl, rfl⟩]
  rw [n8, hcl]
  refine q_read f8 p8 hp72 hn5 n8 (fun x S9 h9 _ => ?_)
  rw [t8] at h9
  have hgen : ∀ S9, Fix S9 → Ag (pL n) S S9 → gX S9 14 32 = 0 → (∀ S1, Lp S S1 n → (∀ k, k ≠ 14 → k ≠ 19 → k ≠ 21 → gX S1 k = gX S9 k) → (¬ x = -1 → wX9_line_51 Q 14 (nI n) x 1 S1) ∧ (x = -1 → wX9_wrongWith S1 14 (nI n) (fun u S2 => gSh S2 S1 → wX9_line_51 Q 14 (nI n) x u S2))) → ∀ S96 : GS, S96 = sX S9 14 1 0 → ∃ q99 : Nat, gR S96 14 8 = some q99 ∧ q99 < gN S96 ∧ gK S96 q99 = 11 ∧ vp_in (nI n) (gL S96 q99) ∧ ∀ S104 : GS, S104 = sX S96 q99 n (gX S96 14 20) → ∃ q109 : Nat, gR S104 14 10 = some q109 ∧ q109 < gN S104 ∧ gK S104 q109 = 12 ∧ vp_in (nI n) (gL S104 q109) ∧ ∀ S114 : GS, S114 = sX S104 q109 n (vp_nar .boolean 0) → (¬ x = (-1) → wX9_line_51 Q 14 (nI n) x 1 S114) ∧ (x = (-1) → wX9_wrongWith S114 14 (nI n) (fun u122 S121 => gSh S121 S114 → wX9_line_51 Q 14 (nI n) x u122 S121)) := by
    intro S9 f9 a9 z9 hk S96 e96
    have f96 : Fix S96 := by rw [e96]; exact f9.x _ _ _
    have a96 : Ag (pL n) S S96 := by rw [e96]; exact a9.x _ _ _ (Or.inr (Or.inr (Or.inl ⟨rfl, by omega⟩)))
    have g96 : gX S96 14 20 = gX S 14 20 := a96.X 14 20 (by unfold pL; omega)
    refine ⟨19, fr_14_8 f96, fn_19 f96, fk_19 f96, by rw [fl_19 f96]; exact hv, fun S104 e104 => ?_⟩
    have f104 : Fix S104 := by rw [e104]; exact f96.x _ _ _
    have a104 : Ag (pL n) S S104 := by rw [e104]; exact a96.x _ _ _ (Or.inr (Or.inr (Or.inr (Or.inl ⟨by omega, rfl⟩))))
    refine ⟨21, fr_14_10 f104, fn_21 f104, fk_21 f104, by rw [fl_21 f104]; exact hv, fun S114 e114 => ?_⟩
    rw [narb0] at e114
    refine hk S114 ⟨by rw [e114]; exact f104.x _ _ _, ?_, ?_, ?_, ?_, ?_⟩ ?_
    · rw [e114]; exact a104.x _ _ _ (Or.inr (Or.inr (Or.inr (Or.inl ⟨by omega, rfl⟩))))
    · rw [e114, x_sX, if_neg (by omega), e104, x_sX, if_pos ⟨rfl, rfl⟩]; exact g96
    · rw [e114, x_sX, if_pos ⟨rfl, rfl⟩]
    · rw [e114, x_sX, if_neg (by omega), e104, x_sX, if_neg (by omega), e96, x_sX, if_pos ⟨rfl, rfl⟩]
    · rw [e114, x_sX, if_neg (by omega), e104, x_sX, if_neg (by omega), e96, x_sX, if_neg (by omega)]; exact z9
    · intro k k1 k2 k3
      funext j
      rw [e114, x_sX, if_neg (fun a => k3 a.1), e104, x_sX, if_neg (fun a => k2 a.1), e96, x_sX, if_neg (fun a => k1 a.1)]
  have hle := rdF_le (gX S 15) pl allM 0 (Nat.zero_le _)
  generalize hr : rdF (gX S 15) pl allM 0 = r at *
  obtain ⟨o, fa⟩ := r
  cases o with
  | none =>
    obtain ⟨ex, a9⟩ : x = nI fa ∧ Ag pQ S8 S9 := h9
    have a9' : Ag (pL n) S S9 := a8.tr (a9.mono (by intro k j; unfold pQ pL; omega))
    refine hgen S9 (f8.ag a9) a9' (by rw [a9.X 14 32 (by unfold pQ; omega)]; exact z8) (fun S1 h1 _ => ⟨fun _ => ?_, fun c => ?_⟩)
    · rw [ex]; exact hsyn fa S1 rfl h1
    · rw [ex] at c
      have : fa ≤ pl := hle
      exact absurd c (nI_ne (by omega))
  | some t =>
    obtain ⟨ex, S7, a7, hno⟩ : x = -1 ∧ ∃ S1, Ag pQ S8 S1 ∧ No S1 S9 n t.1 t.2.1 t.2.2 (rnm (gX S8 15) pl (mld t.1 t.2.1 t.2.2)) := h9
    rw [t8] at hno
    obtain ⟨a9, b1, b2, b3, b4, b5, b6, b7⟩ := hno
    have a9' : Ag (pL n) S S9 := (a8.tr (a7.mono (by intro k j; unfold pQ pL; omega))).tr (a9.mono (by intro k j; unfold pN pL; omega))
    refine hgen S9 ((f8.ag a7).ag a9) a9' ?_ (fun S1 h1 hk => ⟨fun c => absurd ex c, fun _ => ?_⟩)
    · rw [a9.X 14 32 (by unfold pN; omega), a7.X 14 32 (by unfold pQ; omega)]; exact z8
    · rw [ex]
      refine hfit t.1 t.2.1 t.2.2 S1 ⟨fa, rfl⟩ h1 ⟨?_, ?_, ?_, ?_, ?_, ?_, ?_⟩
      · rw [hk 23 (by omega) (by omega) (by omega)]; exact b1
      · rw [hk 24 (by omega) (by omega) (by omega)]; exact b2
      · rw [hk 25 (by omega) (by omega) (by omega)]; exact b3
      · rw [hk 26 (by omega) (by omega) (by omega)]; exact b4
      · rw [hk 27 (by omega) (by omega) (by omega)]; exact b5
      · rw [hk 28 (by omega) (by omega) (by omega)]; exact b6
      · rw [hk 29 (by omega) (by omega) (by omega)]; exact b7
/-- after the judgement w of line n: in time, taken, one line more -/
def Lw (S1 S2 : GS) (n : Nat) (w : Int32) : Prop := Fix S2 ∧ Ag (fun k j => ((k = 20 ∨ k = 21) ∧ j = n) ∨ (k = 14 ∧ j = 19)) S1 S2 ∧ gX S2 20 n = (if w = 1 ∨ w = 2 then 0 else 1) ∧ gX S2 21 n = (if w = 0 then 1 else 0) ∧ gX S2 14 19 = nI (n + 1)
theorem q_line51 {S1 : GS} {n : Nat} {w x : Int32} {Q : Int32 → GS → Prop} (hF : Fix S1) (hn : gX S1 14 19 = nI n) (hn5 : n < 512)
    (h0 : w = 0 → ∀ S2, Lw S1 S2 n w → ∃ q49 : Nat, gR S2 14 11 = some q49 ∧ q49 < gN S2 ∧ gK S2 q49 = 11 ∧ vp_in (nI n) (gL S2 q49) ∧ ∀ S54 : GS, S54 = sX S2 q49 (Int32.toNatClampNeg (nI n)) 0 → ∃ q61 : Nat, gR S54 14 12 = some q61 ∧ q61 < gN S54 ∧ gK S54 q61 = 11 ∧ vp_in (nI n) (gL S54 q61) ∧ (¬ (gX S54 q61 (Int32.toNatClampNeg (nI n))) = 0 → wX9_line_142 Q 14 (nI n) S54) ∧ ((gX S54 q61 (Int32.toNatClampNeg (nI n))) = 0 → ∀ S66 : GS, S66 = sX S54 14 30 (nI n) → wX9_line_142 Q 14 (nI n) S66))
    (h1 : w ≠ 0 → ∀ S2, Lw S1 S2 n w → wX9_diagnose S2 14 w (nI n) (if w = 1 then x else 0) (fun S3 => gSh S3 S2 → Q (-w) S3)) : wX9_line_51 Q 14 (nI n) x w S1 := by
  have hv := nj_in (n := 512) hn5 (by omega)
  have hcl := nj_clamp (show n < 2147483648 by omega)
  have h87 : ∀ (S80 : GS) (v : Int32), Fix S80 → S80 = sX S1 20 n (if w = 1 ∨ w = 2 then 0 else 1) → v = (if w = 0 then 1 else 0) → wX9_line_87 Q 14 (nI n) x w (gR S80 14 10) (nI n) v S80 := by
    intro S80 v f80 e80 ev
    refine ⟨21, fr_14_10 f80, fn_21 f80, fk_21 f80, by rw [fl_21 f80]; exact hv, fun S39 e39 => ?_⟩
    have env : vp_nar .boolean v = v := by
      rw [ev]; split
      · exact narb1
      · exact narb0
    rw [env, hcl] at e39
    have f39 : Fix S39 := by rw [e39]; exact f80.x _ _ _
    refine ⟨fn_14 f39, fk_14 f39, fun S44 e44 => ?_⟩
    have n39 : gX S39 14 19 = nI n := by rw [e39, x_sX, if_neg (by omega), e80, x_sX, if_neg (by omega)]; exact hn
    rw [n39, nj_succ] at e44
    have hw : Lw S1 S44 n w := by
      refine ⟨by rw [e44]; exact f39.x _ _ _, ?_, ?_, ?_, ?_⟩
      · rw [e44, e39, e80]
        exact (((Ag.rf _ _).x _ _ _ (Or.inl ⟨by omega, rfl⟩)).x _ _ _ (Or.inl ⟨by omega, rfl⟩)).x _ _ _ (Or.inr ⟨rfl, rfl⟩)
      · rw [e44, x_sX, if_neg (by omega), e39, x_sX, if_neg (by omega), e80, x_sX, if_pos ⟨rfl, rfl⟩]
      · rw [e44, x_sX, if_neg (by omega), e39, x_sX, if_pos ⟨rfl, rfl⟩]; exact ev
      · rw [e44, x_sX, if_pos ⟨rfl, rfl⟩]
    refine ⟨fun a => h0 a S44 hw, fun a => ⟨fun b => ⟨fn_14 hw.1, fk_14 hw.1, ?_⟩, fun b => ⟨fn_14 hw.1, fk_14 hw.1, ?_⟩⟩⟩
    · have := h1 a S44 hw
      rw [if_neg b] at this
      exact this
    · have := h1 a S44 hw
      rw [if_pos b] at this
      exact this
  have h72 : ∀ v : Int32, v = (if w = 1 ∨ w = 2 then 0 else 1) → wX9_line_72 Q 14 (nI n) x w (gR S1 14 9) (nI n) v S1 := by
    intro v ev
    refine ⟨20, fr_14_9 hF, fn_20 hF, fk_20 hF, by rw [fl_20 hF]; exact hv, fun S80 e80 => ?_⟩
    have env : vp_nar .boolean v = v := by
      rw [ev]; split
      · exact narb0
      · exact narb1
    rw [env, hcl, ev] at e80
    have f80 : Fix S80 := by rw [e80]; exact hF.x _ _ _
    refine ⟨fn_14 f80, fk_14 f80, fun a => h87 S80 0 f80 e80 ?_, fun a => h87 S80 1 f80 e80 ?_⟩
    · rw [if_neg a]
    · rw [if_pos a]
  refine ⟨fn_14 hF, fk_14 hF, fun a => ?_, fun a => ⟨fun b => ?_, fun b => h72 1 ?_⟩⟩
  · exact h72 0 (by rw [if_pos (Or.inl a)])
  · exact h72 0 (by rw [if_pos (Or.inr b)])
  · rw [if_neg]
    intro c
    rcases c with c | c
    · exact a c
    · exact b c
