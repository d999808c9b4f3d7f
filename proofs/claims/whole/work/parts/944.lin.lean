/-! THE LINE, BOTH SIDES. -/
def RG (S4 S5 : GS) (n : Nat) : Prop := Fix S5 ∧ Ag (fun k j => ((k = 20 ∨ k = 21 ∨ k = 22) ∧ j = n) ∨ (k = 14 ∧ j = 19)) S4 S5 ∧ gX S5 20 n = 1 ∧ gX S5 21 n = 1 ∧ gX S5 22 n = 0 ∧ gX S5 14 19 = nI (n + 1)
theorem r_good {S4 : GS} {n s : Nat} {x : Int32} {Q : Int32 → GS → Prop} (hF : Fix S4) (hn : gX S4 14 19 = nI n) (hn5 : n < 512) (hs : gX S4 23 n = nI s) (hs6 : s ≤ 6) (h0 : s = 0 → ∀ S5, RG S4 S5 n → Q 0 (sX S5 14 30 (nI n))) (h4 : s = 4 → ∀ S5, RG S4 S5 n → Q 0 (sX S5 14 31 (nI n))) (h23 : (s = 2 ∨ s = 3) → ∀ S5, RG S4 S5 n → Q 0 S5) (hE : (s = 1 ∨ s = 5 ∨ s = 6) → ∀ S5, RG S4 S5 n → wX9_makeEvent S5 14 (nI n) (fun S9 => gSh S9 S5 → Q 1 S9)) : wX9_line_51 Q 14 (nI n) x 0 S4 := by
  have hv := nj_in (n := 512) hn5 (by omega)
  have hcl := nj_clamp (show n < 2147483648 by omega)
  refine q_line51 hF hn hn5 (fun _ S2 h2 => ?_) (fun a => absurd rfl a)
  obtain ⟨f2, a2, b1, b2, b3⟩ := h2
  rw [if_neg (by decide)] at b1
  rw [if_pos rfl] at b2
  refine ⟨22, fr_14_11 f2, fn_22 f2, fk_22 f2, by rw [fl_22 f2]; exact hv, fun S54 e54 => ?_⟩
  rw [hcl] at e54
  have g54 : RG S4 S54 n := by
    refine ⟨by rw [e54]; exact f2.x _ _ _, ?_, ?_, ?_, ?_, ?_⟩
    · rw [e54]; exact (a2.mono (fun k j z => by omega)).x _ _ _ (Or.inl ⟨by omega, rfl⟩)
    · rw [e54, x_sX, if_neg (by omega)]; exact b1
    · rw [e54, x_sX, if_neg (by omega)]; exact b2
    · rw [e54, x_sX, if_pos ⟨rfl, rfl⟩]
    · rw [e54, x_sX, if_neg (by omega)]; exact b3
  have f54 := g54.1
  have s54 : gX S54 23 n = nI s := by rw [g54.2.1.X 23 n (by omega)]; exact hs
  -- the roads behind
  have h157 : ∀ S7, Fix S7 → gX S7 23 n = nI s → ((s = 1 ∨ s = 5 ∨ s = 6) → wX9_makeEvent S7 14 (nI n) (fun S9 => gSh S9 S7 → Q 1 S9)) → ((s = 0 ∨ s = 2 ∨ s = 3 ∨ s = 4) → Q 0 S7) → wX9_line_157 Q 14 (nI n) S7 := by
    intro S7 f7 s7 g1 g0
    have h190 : (s = 1 ∨ s = 5 ∨ s = 6) → wX9_line_190 Q 14 (nI n) S7 := fun z => ⟨fn_14 f7, fk_14 f7, g1 z⟩
    refine ⟨fn_14 f7, fk_14 f7, 23, fr_14_12 f7, fn_23 f7, fk_23 f7, by rw [fl_23 f7]; exact hv, ?_⟩
    rw [hcl, s7, fl_23 f7]
    have e1 := sI_eq hs6 1 (by decide)
    have e5 := sI_eq hs6 5 (by decide)
    have e6 := sI_eq hs6 6 (by decide)
    exact ⟨fun a => h190 (Or.inl (e1.mp a)), fun a => ⟨hv, fun b => h190 (Or.inr (Or.inl (e5.mp b))), fun b => ⟨hv, fun d => h190 (Or.inr (Or.inr (e6.mp d))), fun d => g0 (by
      have n1 : s ≠ 1 := fun z => a (e1.mpr z)
      have n5 : s ≠ 5 := fun z => b (e5.mpr z)
      have n6 : s ≠ 6 := fun z => d (e6.mpr z)
      omega)⟩⟩⟩
  have h142 : ∀ S7, Fix S7 → gX S7 23 n = nI s → (s ≠ 4 → wX9_line_157 Q 14 (nI n) S7) → (s = 4 → wX9_line_157 Q 14 (nI n) (sX S7 14 31 (nI n))) → wX9_line_142 Q 14 (nI n) S7 := by
    intro S7 f7 s7 g1 g0
    refine ⟨fn_14 f7, fk_14 f7, 23, fr_14_12 f7, fn_23 f7, fk_23 f7, by rw [fl_23 f7]; exact hv, ?_⟩
    rw [hcl, s7]
    have e4 := sI_eq hs6 4 (by decide)
    refine ⟨fun a => g1 (fun z => a (e4.mpr z)), fun a S29 e29 => ?_⟩
    rw [e29]
    exact g0 (e4.mp a)
  refine ⟨23, fr_14_12 f54, fn_23 f54, fk_23 f54, by rw [fl_23 f54]; exact hv, ?_⟩
  rw [hcl, s54]
  have e0 := sI_eq hs6 0 (by decide)
  refine ⟨fun a => ?_, fun a S66 e66 => ?_⟩
  · have n0 : s ≠ 0 := fun z => a (e0.mpr z)
    refine h142 S54 f54 s54 (fun z => h157 S54 f54 s54 (fun y => hE y S54 g54) (fun y => h23 (by omega) S54 g54)) (fun z => h157 _ (f54.x _ _ _) (by rw [x_sX, if_neg (by omega)]; exact s54) (fun y => absurd y (by omega)) (fun _ => h4 z S54 g54))
  · have z0 : s = 0 := e0.mp a
    rw [e66]
    exact h142 _ (f54.x _ _ _) (by rw [x_sX, if_neg (by omega)]; exact s54) (fun _ => h157 _ (f54.x _ _ _) (by rw [x_sX, if_neg (by omega)]; exact s54) (fun y => absurd y (by omega)) (fun _ => h0 z0 S54 g54)) (fun z => absurd z (by omega))
theorem c_answer {S1 : GS} {s : Nat} {Q : Int32 → GS → Prop} (hF : Fix S1) (hs : gX S1 5 0 = nI s) (hs6 : s ≤ 6) (h2 : ¬ gX S1 12 2 ≤ gX S1 5 4 → Q (-2) S1) (hgo : gX S1 12 2 ≤ gX S1 5 4 → ∀ S2, Ag pSe S1 S2 → gX S2 12 2 = gX S1 5 4 → gX S2 12 1 = (if gX S1 12 1 = -1 then gX S1 5 4 else gX S1 12 1) → ((s = 0 ∨ s = 4) → wX8_begin S2 0 5 (fun u S5 => gExt S5 S2 → Q u S5)) ∧ ((s = 2 ∨ s = 3) → wX8_addPart S2 0 5 (fun u S5 => gSh S5 S2 → Q u S5)) ∧ (s = 1 → wX8_endPause S2 0 5 (fun u S5 => gSh S5 S2 → Q u S5)) ∧ ((s = 5 ∨ s = 6) → wX8_endMark S2 0 5 (fun u S5 => gSh S5 S2 → Q u S5))) : wX8_answerTo S1 0 5 Q := by
  refine ⟨fn_0 hF, fk_0 hF, fn_5 hF, fk_5 hF, 12, fr_0_5 hF, fn_12 hF, fk_12 hF, fn_12 hF, fk_12 hF, fun a => ⟨Or.inl rfl, fun _ => ⟨fun _ => ⟨12, fr_0_5 hF, fn_12 hF, fk_12 hF, ?_⟩, fun x => absurd rfl x⟩⟩, fun a => ⟨Or.inr rfl, fun _ => ⟨fun x => absurd x (by decide), fun _ => h2 a⟩⟩⟩
  refine q_see hF (fun S2 g2 b2 b1 _ => ?_)
  obtain ⟨w1, w2, w3, w4⟩ := hgo a S2 g2 b2 b1
  have f2 : Fix S2 := hF.ag g2
  have s2 : gX S2 5 0 = nI s := by rw [g2.X 5 0 (by unfold pSe; omega)]; exact hs
  rw [s2]
  unfold wX8_answerTo_68 wX8_answerTo_74
  have e : s = 0 ∨ s = 1 ∨ s = 2 ∨ s = 3 ∨ s = 4 ∨ s = 5 ∨ s = 6 := by omega
  have p0 := fn_0 f2
  have p1 := fk_0 f2
  have p2 := fn_5 f2
  have p3 := fk_5 f2
  rcases e with e | e | e | e | e | e | e <;> subst e
  · exact ⟨fun _ => ⟨p0, p1, p2, p3, w1 (by omega)⟩, fun x => absurd x (by decide), fun x => absurd x (by decide), fun x => absurd x (by decide), fun x => absurd x (by decide), fun x => absurd (by decide) x⟩
  · exact ⟨fun x => absurd x (by decide), fun _ => w3 rfl, fun x => absurd x (by decide), fun x => absurd x (by decide), fun x => absurd x (by decide), fun _ x => absurd (by decide) x⟩
  · exact ⟨fun x => absurd x (by decide), fun x => absurd x (by decide), fun _ => ⟨p0, p1, w2 (by omega)⟩, fun x => absurd x (by decide), fun x => absurd x (by decide), fun _ _ x => absurd (by decide) x⟩
  · exact ⟨fun x => absurd x (by decide), fun x => absurd x (by decide), fun x => absurd x (by decide), fun _ => ⟨p0, p1, w2 (by omega)⟩, fun x => absurd x (by decide), fun _ _ _ x => absurd (by decide) x⟩
  · exact ⟨fun x => absurd x (by decide), fun x => absurd x (by decide), fun x => absurd x (by decide), fun x => absurd x (by decide), fun _ => ⟨p0, p1, p2, p3, w1 (by omega)⟩, fun _ _ _ _ x => absurd (by decide) x⟩
  · exact ⟨fun x => absurd x (by decide), fun x => absurd x (by decide), fun x => absurd x (by decide), fun x => absurd x (by decide), fun x => absurd x (by decide), fun _ _ _ _ _ => w4 (by omega)⟩
  · exact ⟨fun x => absurd x (by decide), fun x => absurd x (by decide), fun x => absurd x (by decide), fun x => absurd x (by decide), fun x => absurd x (by decide), fun _ _ _ _ _ => w4 (by omega)⟩
/-- the class's state when a fitting line has been seen in time -/
def Sn (S S1 S2 : GS) (n : Nat) (e : Nat → Int32) (x : Int32) : Prop := Ac S S1 n e ∧ Ag pSe S1 S2 ∧ gX S2 12 2 = x ∧ gX S2 12 1 = (if gX S 12 1 = -1 then x else gX S 12 1) ∧ (gX S 12 2).toInt ≤ x.toInt
theorem Sn.fix {S S1 S2 : GS} {n : Nat} {e : Nat → Int32} {x : Int32} (h : Sn S S1 S2 n e x) : Fix S2 := h.1.1.ag h.2.1
theorem Sn.cl {S S1 S2 : GS} {n : Nat} {e : Nat → Int32} {x : Int32} (h : Sn S S1 S2 n e x) : closed S2 := closed_ag h.2.1 h.1.2.1
theorem Sn.N {S S1 S2 : GS} {n : Nat} {e : Nat → Int32} {x : Int32} (h : Sn S S1 S2 n e x) : gN S2 = gN S + 1 := by rw [h.2.1.1]; exact h.1.2.2.1
theorem Sn.en {S S1 S2 : GS} {n : Nat} {e : Nat → Int32} {x : Int32} (h : Sn S S1 S2 n e x) (j : Nat) : gX S2 5 j = e j := by rw [h.2.1.X 5 j (by unfold pSe; omega)]; exact h.1.2.2.2.2.2.2.2.2.2.2 j
theorem Sn.X {S S1 S2 : GS} {n : Nat} {e : Nat → Int32} {x : Int32} (h : Sn S S1 S2 n e x) (k j : Nat) (hk : k < gN S) (hne : ¬ (k = 5 ∨ (k = 0 ∧ j = 10) ∨ (k = 1 ∧ j = 1) ∨ (k = 12 ∧ (j = 1 ∨ j = 2)))) : gX S2 k j = gX S k j := by
  rw [h.2.1.X k j (by unfold pSe; omega)]
  exact h.1.2.2.2.2.2.2.2.1 k j hk (by omega)
theorem Sn.R {S S1 S2 : GS} {n : Nat} {e : Nat → Int32} {x : Int32} (h : Sn S S1 S2 n e x) (k j : Nat) (hk : k < gN S) : gR S2 k j = gR S k j := by
  rw [h.2.1.R]; exact h.1.2.2.2.2.2.2.1 k j hk
theorem Sn.Z {S S1 S2 : GS} {n : Nat} {e : Nat → Int32} {x : Int32} (h : Sn S S1 S2 n e x) (k j : Nat) (hk : k < gN S) : gZ S2 k j = gZ S k j := by
  rw [h.2.1.Z]; exact h.1.2.2.2.2.2.1 k j hk
theorem Sn.K {S S1 S2 : GS} {n : Nat} {e : Nat → Int32} {x : Int32} (h : Sn S S1 S2 n e x) (k : Nat) (hk : k < gN S) : gK S2 k = gK S k := by
  rw [h.2.1.2.1]; exact (h.1.2.2.2.2.1 k hk).1
theorem Sn.ln {S S1 S2 : GS} {n : Nat} {e : Nat → Int32} {x : Int32} (h : Sn S S1 S2 n e x) : gX S2 0 10 = nI (n + 1) ∧ gX S2 1 1 = 0 := by
  rw [h.2.1.X 0 10 (by unfold pSe; omega), h.2.1.X 1 1 (by unfold pSe; omega)]
  exact ⟨h.1.2.2.2.2.2.2.2.2.1, h.1.2.2.2.2.2.2.2.2.2.1⟩
def xS (k j : Nat) : Prop := k = 5 ∨ (k = 0 ∧ j = 10) ∨ (k = 1 ∧ j = 1) ∨ (k = 12 ∧ (j = 1 ∨ j = 2))
theorem Sn.fr {S S1 S2 : GS} {n : Nat} {e : Nat → Int32} {x : Int32} (h : Sn S S1 S2 n e x) : Fr3 xS (fun _ _ => False) (fun _ _ => False) S S2 :=
  (Fr3.ac h.1 (fun k j z => by unfold xS; omega)).tr (Fr3.ag h.2.1 (fun k j z => by unfold pSe at z; unfold xS; omega))
theorem xS_eL {n k j : Nat} (z : xS k j) : eL n k j := by
  unfold xS at z
  unfold eL
  rcases z with z | z | z | z
  · exact Or.inl z
  · exact Or.inr (Or.inr (Or.inr (Or.inl z)))
  · exact Or.inr (Or.inr (Or.inr (Or.inr (Or.inl z))))
  · exact Or.inr (Or.inr (Or.inr (Or.inr (Or.inr (Or.inl z)))))
/-- what both sides do with a line; K: what the class's answer must meet -/
def Kk (S : GS) (cap : Nat) (r1 : Int32) (S1 : GS) : Prop := gExt S1 S → wX9_line S1 14 (fun r2 S2 => gSh S2 S1 → r1 = r2 ∧ Inv S2 (cap + 1))
/-- a line seen in time and found wrong by both -/
theorem sn_bad {S S1 S2 : GS} {cap n E P lg pl s k c : Nat} {oP oM : Option Nat} {dP : Int32 × Int32} {w : Int32} {e : Nat → Int32} (h : Inw S cap n E P lg pl oP oM dP) (hcap : cap < 48) (hft : Ft S pl s k c) (hsn : Sn S S1 S2 n e (fTm (rnm (gX S 15) pl (mld s k c)))) (hw0 : w ≠ 0) (hw1 : w ≠ 1) (hw2 : w ≠ 2) (hwn : ¬ (0 : Int32) ≤ -w) (hj : ∀ S4, Vw S S4 n E lg s k c (rnm (gX S 15) pl (mld s k c)) → ∀ Q' : Int32 → GS → Prop, Q' w S4 → wX9_wrongWith S4 14 (nI n) Q') : wX8_line_66 (Kk S cap) 0 (gN S) 1 (-w) S2 := by
  refine c_bad hsn.fix hwn (Or.inr ⟨by decide, rfl⟩) (fun S3 h3 _ => ?_)
  have hc := mkCBd h.1.1.1 hsn.1 hsn.2.1 h3
  refine fin_w h hcap hft hc hw0 hw1 hj (Or.inr ⟨hw2, ?_, ?_, hsn.2.2.2.2⟩)
  · rw [h3.1.X 12 2 (by unfold pDg; omega)]; exact hsn.2.2.1
  · rw [h3.1.X 12 1 (by unfold pDg; omega)]; exact hsn.2.2.2.1
