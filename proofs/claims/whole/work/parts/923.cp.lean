/-! THE CLASS PUTS AN ENTRY ON A TEXT. -/
theorem q_word2 {S0 : GS} {tx rw w : Nat} {L W : List Int32} {Q : GS → Prop} (hw : w < 52) (hW : zT w = W) (hl : L.length + W.length ≤ 72) (hQ : ∀ S2, Tx S0 S2 tx rw (L ++ W) → Q S2) : ∀ (R D : List Int32) (S : GS), W = D ++ R → Tx S0 S tx rw (L ++ D) → wX6_addWord_2 Q tx (R.length + 1) w (nI D.length) S := by
  have hok := zT_ok w hw
  rw [hW] at hok
  intro R
  induction R with
  | nil =>
    intro D S eW h
    rw [List.append_nil] at eW
    unfold wX6_addWord_2
    rw [hW, eW]
    exact ⟨hw, fun _ => hQ S (h.eq (by rw [eW])), fun a => absurd ((nj_le (by rw [← eW]; omega) (by rw [← eW]; omega)).mpr (Nat.le_refl _)) a⟩
  | cons x R ih =>
    intro D S eW h
    have hDl : D.length < W.length := by rw [eW]; simp
    have hx := hok x (by rw [eW]; simp)
    have hx2 : 0 ≤ x.toInt ∧ x.toInt < 65536 := by
      have a := Int32.le_iff_toInt_le.mp hx.1
      have b := Int32.lt_iff_toInt_lt.mp hx.2
      have e1 : (128 : Int32).toInt = 128 := by decide
      rw [t0] at a
      rw [e1] at b
      omega
    have ech : zCh w D.length = x := by
      unfold zCh
      rw [hW, eW]
      simp
    unfold wX6_addWord_2
    rw [hW]
    refine ⟨hw, fun a => absurd ((nj_le (by omega) (by omega)).mp a) (by omega), fun _ => ⟨hw, D.length, rfl, hDl, h.pl.1, h.pl.2.1, ?_⟩⟩
    rw [ech]
    refine q_add h (by rw [List.length_append]; omega) hx2 (fun S2 h2 _ => ?_)
    rw [nj_succ]
    have := ih (D ++ [x]) S2 (by rw [eW]; simp) (h2.eq (by simp))
    rw [List.length_append] at this
    exact this
theorem q_word {S0 S : GS} {tx rw : Nat} (w : Nat) {L : List Int32} (W : List Int32) {Q : GS → Prop} (hw : w < 52) (hW : zT w = W) (h : Tx S0 S tx rw L) (hl : L.length + W.length ≤ 72) (hQ : ∀ S2, Tx S0 S2 tx rw (L ++ W) → Q S2) : wX6_addWord S tx w Q :=
  ⟨W.length + 1, q_word2 hw hW hl hQ W [] S rfl (h.eq (by simp))⟩
theorem Tx.ent {S0 S : GS} {tx rw : Nat} {L : List Int32} (h : Tx S0 S tx rw L) (j : Nat) : gX S 5 j = gX S0 5 j :=
  h.2.2.1.X 5 j (by have := h.2.1; unfold isT at this; unfold pT; omega)
theorem q_putTook {S0 S : GS} {tx rw : Nat} {L : List Int32} {Q : GS → Prop} (h : Tx S0 S tx rw L) (ht : 0 ≤ (gX S0 5 8).toInt) (hl : L.length + (tkL (gX S0 5 8)).length ≤ 72) (hQ : ∀ S2, Tx S0 S2 tx rw (L ++ tkL (gX S0 5 8)) → Q S2) : wX1_putTook S 5 tx Q := by
  simp only [tkL, List.length_append, List.length_cons, List.length_nil] at hl
  unfold wX1_putTook
  rw [h.ent 8]
  refine ⟨fn_5 h.fix, fk_5 h.fix, h.pl.1, h.pl.2.1, q_addDecimal ht h (by omega) (fun S5 h5 _ => q_word 34 [109, 115] (by decide) (by decide +kernel) h5 ?_ (fun S6 h6 _ => hQ S6 (h6.eq (by simp [tkL]))))⟩
  simp only [List.length_append, List.length_cons, List.length_nil]; omega
theorem q_putSizes {S0 S : GS} {tx rw : Nat} {L : List Int32} {Q : GS → Prop} (h : Tx S0 S tx rw L) (ha : 0 ≤ (gX S0 5 5).toInt) (hb : 0 ≤ (gX S0 5 6).toInt) (hl : L.length + (arL (gX S0 5 5) (gX S0 5 6)).length ≤ 72) (hQ : ∀ S2, Tx S0 S2 tx rw (L ++ arL (gX S0 5 5) (gX S0 5 6)) → Q S2) : wX1_putSizes S 5 tx Q := by
  simp only [arL, List.length_append, List.length_cons, List.length_nil] at hl
  unfold wX1_putSizes
  rw [h.ent 5]
  refine ⟨fn_5 h.fix, fk_5 h.fix, h.pl.1, h.pl.2.1, q_addSize ha h (by omega) (fun S5 h5 _ => q_word 33 [45, 62] (by decide) (by decide +kernel) h5 ?_ (fun S6 h6 _ => ?_))⟩
  · simp only [List.length_append, List.length_cons, List.length_nil]; omega
  rw [h6.ent 6]
  refine q_addSize hb h6 ?_ (fun S7 h7 _ => hQ S7 (h7.eq (by simp [arL])))
  simp only [List.length_append, List.length_cons, List.length_nil]; omega
theorem q_kindWord {S : GS} {k : Nat} {Q : Nat → GS → Prop} (hk : k ≤ 2) (hQ : ∀ w, w < 52 → zT w = mK k → Q w S) : wX8_kindWord S (nI k) Q := by
  have : k = 0 ∨ k = 1 ∨ k = 2 := by omega
  rcases this with e | e | e <;> subst e
  · exact ⟨fun a => absurd a (by decide), fun a => absurd a (by decide), fun _ _ => hQ 16 (by decide) (by decide +kernel)⟩
  · exact ⟨fun _ => hQ 14 (by decide) (by decide +kernel), fun a => absurd a (by decide), fun a => absurd (by decide) a⟩
  · exact ⟨fun a => absurd a (by decide), fun _ => hQ 15 (by decide) (by decide +kernel), fun _ a => absurd (by decide) a⟩
theorem q_causeWord {S : GS} {k : Nat} {Q : Nat → GS → Prop} (hk : k ≤ 2) (hQ : ∀ w, w < 52 → zT w = mC k → Q w S) : wX8_causeWord S (nI k) Q := by
  have : k = 0 ∨ k = 1 ∨ k = 2 := by omega
  rcases this with e | e | e <;> subst e
  · exact ⟨fun a => absurd a (by decide), fun a => absurd a (by decide), fun _ _ => hQ 19 (by decide) (by decide +kernel)⟩
  · exact ⟨fun _ => hQ 17 (by decide) (by decide +kernel), fun a => absurd a (by decide), fun a => absurd (by decide) a⟩
  · exact ⟨fun a => absurd a (by decide), fun _ => hQ 18 (by decide) (by decide +kernel), fun _ a => absurd (by decide) a⟩
theorem q_putPause {S0 S : GS} {tx rw s k c : Nat} {L : List Int32} {Q : GS → Prop} (h : Tx S0 S tx rw L) (hs : gX S0 5 0 = nI s) (hs1 : s ≤ 1) (hk : gX S0 5 1 = nI k ∧ k ≤ 2) (hc : gX S0 5 2 = nI c ∧ c ≤ 2) (hr : s = 1 → 0 ≤ (gX S0 5 5).toInt ∧ 0 ≤ (gX S0 5 6).toInt ∧ 0 ≤ (gX S0 5 7).toInt ∧ 0 ≤ (gX S0 5 8).toInt) (hl : L.length + (mP k c ++ (if s = 0 then [] else edL (gX S0 5 5) (gX S0 5 6) (gX S0 5 7) (gX S0 5 8))).length ≤ 72) (hQ : ∀ S2, Tx S0 S2 tx rw (L ++ (mP k c ++ (if s = 0 then [] else edL (gX S0 5 5) (gX S0 5 6) (gX S0 5 7) (gX S0 5 8)))) → Q S2) : wX1_putPause S 5 tx Q := by
  simp only [mP, List.length_append, List.length_cons, List.length_nil] at hl
  have hW : mW.length = 6 := rfl
  refine ⟨h.pl.1, h.pl.2.1, q_word 28 mW (by decide) (by decide +kernel) h (by omega) (fun S3 h3 _ => ⟨fn_5 h3.fix, fk_5 h3.fix, ?_⟩)⟩
  rw [h3.ent 1, hk.1]
  refine q_kindWord hk.2 (fun w hw ew _ => q_word w (mK k) hw ew h3 (by rw [List.length_append]; omega) (fun S15 h15 _ => q_word 29 [32, 40] (by decide) (by decide +kernel) h15 ?_ (fun S21 h21 _ => ?_)))
  · simp only [List.length_append, List.length_cons, List.length_nil]; omega
  rw [h21.ent 2, hc.1]
  refine q_causeWord hc.2 (fun v hv ev _ => q_word v (mC c) hv ev h21 ?_ (fun S33 h33 _ => q_word 30 [41] (by decide) (by decide +kernel) h33 ?_ (fun S39 h39 _ => ?_)))
  · simp only [List.length_append, List.length_cons, List.length_nil]; omega
  · simp only [List.length_append, List.length_cons, List.length_nil]; omega
  have e39 : L ++ mW ++ mK k ++ [32, 40] ++ mC c ++ [41] = L ++ mP k c := by simp [mP]
  rw [h39.ent 0, hs]
  unfold wX1_putPause_84
  by_cases e : s = 0
  · subst e
    refine ⟨fun _ => hQ S39 (h39.eq ?_), fun a => absurd a (by decide)⟩
    rw [e39]; simp
  · have e1 : s = 1 := by omega
    subst e1
    rw [if_neg (by omega)] at hl hQ
    simp only [edL, arL, tkL, List.length_append, List.length_cons, List.length_nil] at hl
    obtain ⟨r5, r6, r7, r8⟩ := hr rfl
    refine ⟨fun a => absurd (by decide) a, fun _ => ?_⟩
    refine q_word 31 [32] (by decide) (by decide +kernel) h39 ?_ (fun S45 h45 _ => q_putSizes h45 r5 r6 ?_ (fun S51 h51 _ => q_word 32 [40] (by decide) (by decide +kernel) h51 ?_ (fun S57 h57 _ => ?_)))
    · simp only [List.length_append, List.length_cons, List.length_nil]; omega
    · simp only [arL, List.length_append, List.length_cons, List.length_nil]; omega
    · simp only [arL, List.length_append, List.length_cons, List.length_nil]; omega
    rw [h57.ent 7]
    refine q_addSize r7 h57 ?_ (fun S63 h63 _ => q_word 22 [41, 32] (by decide) (by decide +kernel) h63 ?_ (fun S69 h69 _ => q_putTook h69 r8 ?_ (fun S75 h75 _ => hQ S75 (h75.eq ?_))))
    · simp only [arL, List.length_append, List.length_cons, List.length_nil]; omega
    · simp only [arL, List.length_append, List.length_cons, List.length_nil]; omega
    · simp only [arL, tkL, List.length_append, List.length_cons, List.length_nil]; omega
    · simp [mP, edL]
theorem q_putOn {S0 : GS} {tx rw s k c : Nat} {Q : GS → Prop} (hF : Fix S0) (hT : isT tx rw) (hs : gX S0 5 0 = nI s) (hs6 : s ≤ 6) (hk : s ≤ 1 → (gX S0 5 1 = nI k ∧ k ≤ 2) ∧ (gX S0 5 2 = nI c ∧ c ≤ 2)) (hok : okT s (gX S0 5 3) (gX S0 5 4) (gX S0 5 5) (gX S0 5 6) (gX S0 5 7) (gX S0 5 8)) (hQ : ∀ S2, Tx S0 S2 tx rw (wrL s k c (gX S0 5 3) (gX S0 5 4) (gX S0 5 5) (gX S0 5 6) (gX S0 5 7) (gX S0 5 8)) → Q S2) : wX1_putOn S0 5 tx Q := by
  have hlen := (wr_pr (k := k) (c := c) hs6 hok).2.2
  have hpl : tx < gN S0 ∧ gK S0 tx = 6 := by
    rcases hT with ⟨a, b⟩ | ⟨a, b⟩ <;> subst a <;> subst b
    · exact ⟨fn_1 hF, fk_1 hF⟩
    · exact ⟨fn_3 hF, fk_3 hF⟩
  obtain ⟨o1, o2, o3, o4, o5⟩ := hok
  have hlh : (hdL (gX S0 5 4) (gX S0 5 3)).length ≤ 70 := by
    simp only [wrL, List.length_append] at hlen
    omega
  simp only [hdL, List.length_append, List.length_cons, List.length_nil] at hlh
  refine ⟨hpl.1, hpl.2, hpl.1, hpl.2, fun S3 e3 _ => ?_⟩
  have h3 : Tx S0 S3 tx rw [] := by
    have hne : tx ≠ rw := by unfold isT at hT; omega
    subst e3
    refine ⟨hF, hT, (Ag.rf _ _).x _ _ _ (Or.inr ⟨rfl, rfl⟩), ?_, by decide, fun i hi => absurd hi (by simp), fun i _ => ?_⟩
    · rw [x_sX, if_pos ⟨rfl, rfl⟩]; rfl
    · rw [x_sX, if_neg (fun a => hne a.1.symm)]
  refine q_word 20 [91] (by decide) (by decide +kernel) h3 (by decide) (fun S7 h7 _ => ⟨fn_5 h7.fix, fk_5 h7.fix, ?_⟩)
  rw [h7.ent 4]
  refine q_addDecimal o2.1 h7 ?_ (fun S13 h13 _ => q_word 21 [115, 93, 71, 67, 40] (by decide) (by decide +kernel) h13 ?_ (fun S19 h19 _ => ?_))
  · simp only [List.length_append, List.length_cons, List.length_nil]; omega
  · simp only [List.length_append, List.length_cons, List.length_nil]; omega
  rw [h19.ent 3]
  refine q_addNumber o1.1 h19 ?_ (fun S25 h25 _ => q_word 22 [41, 32] (by decide) (by decide +kernel) h25 ?_ (fun S31 h31 _ => ?_))
  · simp only [List.length_append, List.length_cons, List.length_nil]; omega
  · simp only [List.length_append, List.length_cons, List.length_nil]; omega
  have e31 : [] ++ [91] ++ dcL (gX S0 5 4) ++ [115, 93, 71, 67, 40] ++ dgs (gX S0 5 3) ++ [41, 32] = hdL (gX S0 5 4) (gX S0 5 3) := by simp [hdL]
  have h31 := h31.eq e31
  rw [h31.ent 0, hs]
  unfold wX1_putOn_141
  have : s = 0 ∨ s = 1 ∨ s = 2 ∨ s = 3 ∨ s = 4 ∨ s = 5 ∨ s = 6 := by omega
  have hpau : s ≤ 1 → wX1_putPause S31 5 tx (fun S85 => gSh S85 S31 → Q S85) := by
    intro hs1
    obtain ⟨k1, c1⟩ := hk hs1
    have ew : wrL s k c (gX S0 5 3) (gX S0 5 4) (gX S0 5 5) (gX S0 5 6) (gX S0 5 7) (gX S0 5 8) = hdL (gX S0 5 4) (gX S0 5 3) ++ (mP k c ++ (if s = 0 then [] else edL (gX S0 5 5) (gX S0 5 6) (gX S0 5 7) (gX S0 5 8))) := by
      unfold wrL
      have : s = 0 ∨ s = 1 := by omega
      rcases this with e | e <;> subst e <;> simp
    rw [ew] at hlen hQ
    rw [List.length_append] at hlen
    exact q_putPause h31 hs hs1 k1 c1 (fun e => ⟨(o3 (Or.inl e)).1.1, (o3 (Or.inl e)).2.1, (o4 e).1, (o5 (Or.inl e)).1⟩) (by omega) (fun S2 h2 _ => hQ S2 h2)
  rcases this with e | e | e | e | e | e | e <;> subst e
  · exact ⟨fun a => absurd a (by decide), fun a => absurd a (by decide), fun a => absurd a (by decide), fun a => absurd a (by decide), fun a => absurd a (by decide), fun _ _ _ _ _ => hpau (by omega)⟩
  · exact ⟨fun a => absurd a (by decide), fun a => absurd a (by decide), fun a => absurd a (by decide), fun a => absurd a (by decide), fun a => absurd a (by decide), fun _ _ _ _ _ => hpau (by omega)⟩
  · refine ⟨fun _ => ?_, fun a => absurd a (by decide), fun a => absurd a (by decide), fun a => absurd a (by decide), fun a => absurd a (by decide), fun a => absurd (by decide) a⟩
    obtain ⟨oa, ob⟩ := o3 (Or.inr (Or.inl rfl))
    unfold wrL at hlen
    rw [List.length_append, if_neg (by omega), if_neg (by omega), if_pos rfl] at hlen
    simp only [List.length_append, List.length_cons, List.length_nil] at hlen
    refine q_word 23 [69, 100, 101, 110, 32] (by decide) (by decide +kernel) h31 ?_ (fun S37 h37 _ => q_putSizes h37 oa.1 ob.1 ?_ (fun S43 h43 _ => hQ S43 (h43.eq ?_)))
    · simp only [List.length_cons, List.length_nil]; omega
    · simp only [List.length_append, List.length_cons, List.length_nil]; omega
    · simp [wrL]
  · refine ⟨fun a => absurd a (by decide), fun _ => ?_, fun a => absurd a (by decide), fun a => absurd a (by decide), fun a => absurd a (by decide), fun _ a => absurd (by decide) a⟩
    obtain ⟨oa, ob⟩ := o3 (Or.inr (Or.inr rfl))
    unfold wrL at hlen
    rw [List.length_append, if_neg (by omega), if_neg (by omega), if_neg (by omega), if_pos rfl] at hlen
    simp only [List.length_append, List.length_cons, List.length_nil] at hlen
    refine q_word 24 [79, 108, 100, 32] (by decide) (by decide +kernel) h31 ?_ (fun S37 h37 _ => q_putSizes h37 oa.1 ob.1 ?_ (fun S43 h43 _ => hQ S43 (h43.eq ?_)))
    · simp only [List.length_cons, List.length_nil]; omega
    · simp only [List.length_append, List.length_cons, List.length_nil]; omega
    · simp [wrL]
  · refine ⟨fun a => absurd a (by decide), fun a => absurd a (by decide), fun _ => ?_, fun a => absurd a (by decide), fun a => absurd a (by decide), fun _ _ a => absurd (by decide) a⟩
    unfold wrL at hlen
    rw [List.length_append, if_neg (by omega), if_neg (by omega), if_neg (by omega), if_neg (by omega), if_pos rfl] at hlen
    refine q_word 25 mM (by decide) (by decide +kernel) h31 (by omega) (fun S37 h37 _ => hQ S37 (h37.eq ?_))
    simp [wrL]
  · refine ⟨fun a => absurd a (by decide), fun a => absurd a (by decide), fun a => absurd a (by decide), fun _ => ?_, fun a => absurd a (by decide), fun _ _ _ a => absurd (by decide) a⟩
    have ot := o5 (Or.inr rfl)
    unfold wrL at hlen
    rw [List.length_append, if_neg (by omega), if_neg (by omega), if_neg (by omega), if_neg (by omega), if_neg (by omega), if_pos rfl] at hlen
    simp only [List.length_append, List.length_cons, List.length_nil] at hlen
    refine q_word 26 [77, 97, 114, 107, 32] (by decide) (by decide +kernel) h31 ?_ (fun S37 h37 _ => q_putTook h37 ot.1 ?_ (fun S43 h43 _ => hQ S43 (h43.eq ?_)))
    · simp only [List.length_cons, List.length_nil]; omega
    · simp only [List.length_append, List.length_cons, List.length_nil]; omega
    · simp [wrL]
  · refine ⟨fun a => absurd a (by decide), fun a => absurd a (by decide), fun a => absurd a (by decide), fun a => absurd a (by decide), fun _ => ?_, fun _ _ _ _ a => absurd (by decide) a⟩
    unfold wrL at hlen
    rw [List.length_append, if_neg (by omega), if_neg (by omega), if_neg (by omega), if_neg (by omega), if_neg (by omega), if_neg (by omega)] at hlen
    refine q_word 27 [77, 97, 114, 107, 32, 65, 98, 111, 114, 116] (by decide) (by decide +kernel) h31 ?_ (fun S37 h37 _ => hQ S37 (h37.eq ?_))
    · simp only [List.length_cons, List.length_nil] at hlen ⊢; omega
    · simp [wrL]
