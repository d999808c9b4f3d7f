/-! EVENT AND DIAGNOSTIC, BOTH SIDES. -/
theorem q_eventKind {S : GS} {i b e : Nat} {Q : Int32 → GS → Prop} (hF : Fix S) (hi : i < 40) (h30 : gX S 30 i = nI b) (h31 : gX S 31 i = nI e) (hb : b < 512) (he : e < 512) (hQ : Q (if gX S 23 e = 1 then gX S 24 b else if gX S 23 e = 5 then 3 else 4) S) : wX9_eventKind S 14 (nI i) Q := by
  unfold wX9_eventKind wX9_eventKind_42
  refine ⟨fn_14 hF, fk_14 hF, q_isPause9 hF hi h31 he (fun z _ => ⟨fun y => absurd y (by decide), fun _ => ⟨30, fr_14_21 hF, fn_30 hF, fk_30 hF, by rw [fl_30 hF]; exact nj_in hi (by omega), 24, fr_14_13 hF, fn_24 hF, fk_24 hF, ?_⟩⟩) (fun z _ => ⟨fun _ => ⟨31, fr_14_22 hF, fn_31 hF, fk_31 hF, by rw [fl_31 hF]; exact nj_in hi (by omega), 23, fr_14_12 hF, fn_23 hF, fk_23 hF, ?_⟩, fun y => absurd rfl y⟩)⟩
  · rw [nj_clamp (by omega), h30, nj_clamp (by omega), fl_24 hF]
    rw [if_pos z] at hQ
    exact ⟨nj_in hb (by omega), hQ⟩
  · rw [nj_clamp (by omega), h31, nj_clamp (by omega), fl_23 hF]
    rw [if_neg z] at hQ
    refine ⟨nj_in he (by omega), fun y => ?_, fun y => ?_⟩
    · rw [if_neg y] at hQ; exact hQ
    · rw [if_pos y] at hQ; exact hQ
theorem Ln.okD {S : GS} {n b : Nat} {s x : Int32} (h : Ln S n b s x) (hn : n ≤ 512) : okD x := by
  rcases h with z | ⟨j, hj, z, _⟩
  · exact Or.inl z
  · exact Or.inr ⟨j, by omega, z⟩
theorem q_event53 {S : GS} {n i q w : Nat} {t : Int32} {Q : Int32 → GS → Prop} (hF : Fix S) (hi : i < 40) (hn : n ≤ 512) (hv : EvI S n i q) (hw : w < 14) (ht : ∀ e, e < n → gX S 31 i = nI e → t = if gX S 23 e = 1 then nI e else -1) (hQ : Q (fct S q w) S) : wX9_event_53 Q 14 (nI i) (nI w) t S := by
  obtain ⟨b, e, hb, he, hbe, h30, h31, h3, h4, h5, h6, h7, h8, h9, h10, h11, h12, h13, h14, h15, h16, h17⟩ := hv
  have p1 := fn_14 hF
  have p2 := fk_14 hF
  have hvi := nj_in (n := 40) hi (by omega)
  have hci := nj_clamp (show i < 2147483648 by omega)
  have hcb := nj_clamp (show b < 2147483648 by omega)
  have hce := nj_clamp (show e < 2147483648 by omega)
  have ht' := ht e he h31
  have htd : okD t := by
    rw [ht']
    split
    · exact Or.inr ⟨e, by omega, rfl⟩
    · exact Or.inl rfl
  have z0 : (0 : Int32) = nI 0 := by decide
  have z1 : (1 : Int32) = nI 1 := by decide
  have z2 : (2 : Int32) = nI 2 := by decide
  have okd := h16.okD hn
  have oko := h17.okD hn
  have hsz : ∀ j, j < 3 → szo (gX S 28) t j = gX S q (6 + j) := by
    intro j hj
    rw [ht']
    unfold szo
    have : j = 0 ∨ j = 1 ∨ j = 2 := by omega
    rcases h6 with g | g
    · rw [if_pos g.1, if_neg (nI_ne (by omega)), hce]
      rcases this with y | y | y <;> subst y
      · rw [g.2.2.2.2.2.2.1]; rfl
      · rw [g.2.2.2.2.2.2.2.1]
      · rw [g.2.2.2.2.2.2.2.2]
    · have hn1 : ¬ gX S 23 e = 1 := by
        rcases g.1 with y | y <;> rw [y] <;> decide
      rw [if_neg hn1, if_pos rfl]
      rcases this with y | y | y <;> subst y
      · exact g.2.2.2.2.1.symm
      · exact g.2.2.2.2.2.1.symm
      · exact g.2.2.2.2.2.2.1.symm
  unfold wX9_event_53
  have : w = 0 ∨ w = 1 ∨ w = 2 ∨ w = 3 ∨ w = 4 ∨ w = 5 ∨ w = 6 ∨ w = 7 ∨ w = 8 ∨ w = 9 ∨ w = 10 ∨ w = 11 ∨ w = 12 ∨ w = 13 := by omega
  rcases this with z | z | z | z | z | z | z | z | z | z | z | z | z | z <;> subst z
  · refine ⟨fun _ => ?_, fun z => absurd z (by decide), fun z => absurd z (by decide), fun z => absurd z (by decide), fun z => absurd z (by decide), fun z => absurd z (by decide), fun z => absurd z (by decide), fun z => absurd z (by decide), fun z => absurd z (by decide), fun z => absurd z (by decide), fun z => absurd z (by decide), fun z => absurd z (by decide), fun z => absurd z (by decide), fun z _ _ _ _ _ _ _ _ _ _ _ _ => absurd (by decide) z⟩
    refine ⟨p1, p2, q_eventKind hF hi h30 h31 (by omega) (by omega) (fun _ => ?_)⟩
    have : (if gX S 23 e = 1 then gX S 24 b else if gX S 23 e = 5 then 3 else 4) = fct S q 0 := by
      show _ = gX S q 4
      rcases h6 with g | g
      · rw [if_pos g.1]; exact g.2.2.2.2.1.symm
      · have hn1 : ¬ gX S 23 e = 1 := by
          rcases g.1 with y | y <;> rw [y] <;> decide
        rw [if_neg hn1]; exact g.2.2.1.symm
    rw [this]; exact hQ
  · refine ⟨fun z => absurd z (by decide), fun _ => ?_, fun z => absurd z (by decide), fun z => absurd z (by decide), fun z => absurd z (by decide), fun z => absurd z (by decide), fun z => absurd z (by decide), fun z => absurd z (by decide), fun z => absurd z (by decide), fun z => absurd z (by decide), fun z => absurd z (by decide), fun z => absurd z (by decide), fun z => absurd z (by decide), fun _ z _ _ _ _ _ _ _ _ _ _ _ => absurd (by decide) z⟩
    refine ⟨p1, p2, 30, fr_14_21 hF, fn_30 hF, fk_30 hF, by rw [fl_30 hF]; exact hvi, 27, fr_14_16 hF, fn_27 hF, fk_27 hF, ?_⟩
    rw [hci, h30, hcb, fl_27 hF]
    refine ⟨nj_in (by omega) (by omega), ?_⟩
    have : gX S 27 b = fct S q 1 := h7.symm
    rw [this]; exact hQ
  · refine ⟨fun z => absurd z (by decide), fun z => absurd z (by decide), fun _ => ?_, fun z => absurd z (by decide), fun z => absurd z (by decide), fun z => absurd z (by decide), fun z => absurd z (by decide), fun z => absurd z (by decide), fun z => absurd z (by decide), fun z => absurd z (by decide), fun z => absurd z (by decide), fun z => absurd z (by decide), fun z => absurd z (by decide), fun _ _ z _ _ _ _ _ _ _ _ _ _ => absurd (by decide) z⟩
    refine ⟨p1, p2, 30, fr_14_21 hF, fn_30 hF, fk_30 hF, by rw [fl_30 hF]; exact hvi, 26, fr_14_15 hF, fn_26 hF, fk_26 hF, ?_⟩
    rw [hci, h30, hcb, fl_26 hF]
    refine ⟨nj_in (by omega) (by omega), ?_⟩
    have : gX S 26 b = fct S q 2 := h8.symm
    rw [this]; exact hQ
  · refine ⟨fun z => absurd z (by decide), fun z => absurd z (by decide), fun z => absurd z (by decide), fun _ => ?_, fun z => absurd z (by decide), fun z => absurd z (by decide), fun z => absurd z (by decide), fun z => absurd z (by decide), fun z => absurd z (by decide), fun z => absurd z (by decide), fun z => absurd z (by decide), fun z => absurd z (by decide), fun z => absurd z (by decide), fun _ _ _ z _ _ _ _ _ _ _ _ _ => absurd (by decide) z⟩
    refine ⟨p1, p2, 31, fr_14_22 hF, fn_31 hF, fk_31 hF, by rw [fl_31 hF]; exact hvi, 26, fr_14_15 hF, fn_26 hF, fk_26 hF, ?_⟩
    rw [hci, h31, hce, fl_26 hF]
    refine ⟨nj_in (by omega) (by omega), ?_⟩
    have : gX S 26 e = fct S q 3 := h9.symm
    rw [this]; exact hQ
  · refine ⟨fun z => absurd z (by decide), fun z => absurd z (by decide), fun z => absurd z (by decide), fun z => absurd z (by decide), fun _ => ?_, fun z => absurd z (by decide), fun z => absurd z (by decide), fun z => absurd z (by decide), fun z => absurd z (by decide), fun z => absurd z (by decide), fun z => absurd z (by decide), fun z => absurd z (by decide), fun z => absurd z (by decide), fun _ _ _ _ z _ _ _ _ _ _ _ _ => absurd (by decide) z⟩
    unfold wX9_event_185
    refine ⟨p1, p2, q_isPause9 hF hi h31 (by omega) (fun y _ => ⟨fun u => absurd u (by decide), fun _ => ⟨30, fr_14_21 hF, fn_30 hF, fk_30 hF, by rw [fl_30 hF]; exact hvi, 25, fr_14_14 hF, fn_25 hF, fk_25 hF, ?_⟩⟩) (fun y _ => ⟨fun _ => ?_, fun u => absurd rfl u⟩)⟩
    · rw [hci, h30, hcb, fl_25 hF]
      refine ⟨nj_in (by omega) (by omega), ?_⟩
      rcases h6 with g | g
      · have : gX S 25 b = fct S q 4 := g.2.2.2.2.2.1.symm
        rw [this]; exact hQ
      · rcases g.1 with u | u <;> rw [u] at y <;> exact absurd y (by decide)
    · rcases h6 with g | g
      · exact absurd g.1 y
      · have : (-1 : Int32) = fct S q 4 := g.2.2.2.1.symm
        rw [this]; exact hQ
  · refine ⟨fun z => absurd z (by decide), fun z => absurd z (by decide), fun z => absurd z (by decide), fun z => absurd z (by decide), fun z => absurd z (by decide), fun _ => ?_, fun z => absurd z (by decide), fun z => absurd z (by decide), fun z => absurd z (by decide), fun z => absurd z (by decide), fun z => absurd z (by decide), fun z => absurd z (by decide), fun z => absurd z (by decide), fun _ _ _ _ _ z _ _ _ _ _ _ _ => absurd (by decide) z⟩
    rw [z0]
    refine ⟨p1, p2, q_sizeOf hF htd (by omega) (fun _ => ?_)⟩
    rw [hsz 0 (by omega)]; exact hQ
  · refine ⟨fun z => absurd z (by decide), fun z => absurd z (by decide), fun z => absurd z (by decide), fun z => absurd z (by decide), fun z => absurd z (by decide), fun z => absurd z (by decide), fun _ => ?_, fun z => absurd z (by decide), fun z => absurd z (by decide), fun z => absurd z (by decide), fun z => absurd z (by decide), fun z => absurd z (by decide), fun z => absurd z (by decide), fun _ _ _ _ _ _ z _ _ _ _ _ _ => absurd (by decide) z⟩
    rw [z1]
    refine ⟨p1, p2, q_sizeOf hF htd (by omega) (fun _ => ?_)⟩
    rw [hsz 1 (by omega)]; exact hQ
  · refine ⟨fun z => absurd z (by decide), fun z => absurd z (by decide), fun z => absurd z (by decide), fun z => absurd z (by decide), fun z => absurd z (by decide), fun z => absurd z (by decide), fun z => absurd z (by decide), fun _ => ?_, fun z => absurd z (by decide), fun z => absurd z (by decide), fun z => absurd z (by decide), fun z => absurd z (by decide), fun z => absurd z (by decide), fun _ _ _ _ _ _ _ z _ _ _ _ _ => absurd (by decide) z⟩
    rw [z2]
    refine ⟨p1, p2, q_sizeOf hF htd (by omega) (fun _ => ?_)⟩
    rw [hsz 2 (by omega)]; exact hQ
  · refine ⟨fun z => absurd z (by decide), fun z => absurd z (by decide), fun z => absurd z (by decide), fun z => absurd z (by decide), fun z => absurd z (by decide), fun z => absurd z (by decide), fun z => absurd z (by decide), fun z => absurd z (by decide), fun _ => ?_, fun z => absurd z (by decide), fun z => absurd z (by decide), fun z => absurd z (by decide), fun z => absurd z (by decide), fun _ _ _ _ _ _ _ _ z _ _ _ _ => absurd (by decide) z⟩
    refine ⟨p1, p2, q_tookOf hF hi h30 h31 (by omega) (by omega) (fun _ => ?_)⟩
    have : tkO S b e = fct S q 8 := h10.symm
    rw [this]; exact hQ
  · refine ⟨fun z => absurd z (by decide), fun z => absurd z (by decide), fun z => absurd z (by decide), fun z => absurd z (by decide), fun z => absurd z (by decide), fun z => absurd z (by decide), fun z => absurd z (by decide), fun z => absurd z (by decide), fun z => absurd z (by decide), fun _ => ?_, fun z => absurd z (by decide), fun z => absurd z (by decide), fun z => absurd z (by decide), fun _ _ _ _ _ _ _ _ _ z _ _ _ => absurd (by decide) z⟩
    refine ⟨p1, p2, 32, fr_14_23 hF, fn_32 hF, fk_32 hF, by rw [fl_32 hF]; exact hvi, ?_⟩
    rw [hci, z0]
    refine q_sizeOf hF okd (by omega) (fun _ => ?_)
    have : szo (gX S 28) (gX S 32 i) 0 = fct S q 9 := h11.symm
    rw [this]; exact hQ
  · refine ⟨fun z => absurd z (by decide), fun z => absurd z (by decide), fun z => absurd z (by decide), fun z => absurd z (by decide), fun z => absurd z (by decide), fun z => absurd z (by decide), fun z => absurd z (by decide), fun z => absurd z (by decide), fun z => absurd z (by decide), fun z => absurd z (by decide), fun _ => ?_, fun z => absurd z (by decide), fun z => absurd z (by decide), fun _ _ _ _ _ _ _ _ _ _ z _ _ => absurd (by decide) z⟩
    refine ⟨p1, p2, 32, fr_14_23 hF, fn_32 hF, fk_32 hF, by rw [fl_32 hF]; exact hvi, ?_⟩
    rw [hci, z1]
    refine q_sizeOf hF okd (by omega) (fun _ => ?_)
    have : szo (gX S 28) (gX S 32 i) 1 = fct S q 10 := h12.symm
    rw [this]; exact hQ
  · refine ⟨fun z => absurd z (by decide), fun z => absurd z (by decide), fun z => absurd z (by decide), fun z => absurd z (by decide), fun z => absurd z (by decide), fun z => absurd z (by decide), fun z => absurd z (by decide), fun z => absurd z (by decide), fun z => absurd z (by decide), fun z => absurd z (by decide), fun z => absurd z (by decide), fun _ => ?_, fun z => absurd z (by decide), fun _ _ _ _ _ _ _ _ _ _ _ z _ => absurd (by decide) z⟩
    refine ⟨p1, p2, 33, fr_14_24 hF, fn_33 hF, fk_33 hF, by rw [fl_33 hF]; exact hvi, ?_⟩
    rw [hci, z0]
    refine q_sizeOf hF oko (by omega) (fun _ => ?_)
    have : szo (gX S 28) (gX S 33 i) 0 = fct S q 11 := h13.symm
    rw [this]; exact hQ
  · refine ⟨fun z => absurd z (by decide), fun z => absurd z (by decide), fun z => absurd z (by decide), fun z => absurd z (by decide), fun z => absurd z (by decide), fun z => absurd z (by decide), fun z => absurd z (by decide), fun z => absurd z (by decide), fun z => absurd z (by decide), fun z => absurd z (by decide), fun z => absurd z (by decide), fun z => absurd z (by decide), fun _ => ?_, fun _ _ _ _ _ _ _ _ _ _ _ _ z => absurd (by decide) z⟩
    refine ⟨p1, p2, 33, fr_14_24 hF, fn_33 hF, fk_33 hF, by rw [fl_33 hF]; exact hvi, ?_⟩
    rw [hci, z1]
    refine q_sizeOf hF oko (by omega) (fun _ => ?_)
    have : szo (gX S 28) (gX S 33 i) 1 = fct S q 12 := h14.symm
    rw [this]; exact hQ
  · refine ⟨fun z => absurd z (by decide), fun z => absurd z (by decide), fun z => absurd z (by decide), fun z => absurd z (by decide), fun z => absurd z (by decide), fun z => absurd z (by decide), fun z => absurd z (by decide), fun z => absurd z (by decide), fun z => absurd z (by decide), fun z => absurd z (by decide), fun z => absurd z (by decide), fun z => absurd z (by decide), fun z => absurd z (by decide), fun _ _ _ _ _ _ _ _ _ _ _ _ _ => ?_⟩
    refine ⟨p1, p2, q_linesOf hF hi (fun _ => ?_)⟩
    have : nI (2 + one (gX S 32 i) + one (gX S 33 i)) = fct S q 13 := h15.symm
    rw [this]; exact hQ
/-- the law kept an answer: the invariant stands there too -/
theorem Inw.oa {S S1 : GS} {cap n E P lg pl : Nat} {oP oM : Option Nat} {dP : Int32 × Int32} (h : Inw S cap n E P lg pl oP oM dP) (hc : cap ≤ 48) (ha : Oa S S1) : Inw S1 cap n E P lg pl oP oM dP := by
  have x1 := ha.X
  exact h.sc ha.sc (h.2.1.sc (by rw [x1]) (by rw [x1]) (fun _ => by rw [x1]) (fun _ => by rw [x1])) (Nat.le_refl _) hc
/-- what was thrown is told, nothing else is changed -/
theorem rq_thr {S1 : GS} {cap n E P lg pl k : Nat} {oP oM : Option Nat} {dP : Int32 × Int32} (h : Inw S1 cap n E P lg pl oP oM dP) (hcap : cap < 48) {v : Int32} (hv : v = nI k) : Rq S1 (sX S1 14 32 v) k cap :=
  ⟨by rw [x_sX, if_pos ⟨rfl, rfl⟩]; exact hv, rfl, rfl, n, E, P, lg, pl, oP, oM, dP, h.sc ((Sc.rf _).x _ _ _ (by unfold scP; omega)) (h.2.1.sc (by rw [x_sX, if_neg (by omega)]) (by rw [x_sX, if_neg (by omega)]) (fun _ => by rw [x_sX, if_neg (by omega)]) (fun _ => by rw [x_sX, if_neg (by omega)])) (by omega) (by omega)⟩
theorem Inw.thr {S1 : GS} {cap n E P lg pl : Nat} {oP oM : Option Nat} {dP : Int32 × Int32} (h : Inw S1 cap n E P lg pl oP oM dP) (hc : cap ≤ 48) (v : Int32) : Inw (sX S1 14 32 v) cap n E P lg pl oP oM dP :=
  h.sc ((Sc.rf _).x _ _ _ (by unfold scP; omega)) (h.2.1.sc (by rw [x_sX, if_neg (by omega)]) (by rw [x_sX, if_neg (by omega)]) (fun _ => by rw [x_sX, if_neg (by omega)]) (fun _ => by rw [x_sX, if_neg (by omega)])) (Nat.le_refl _) hc
theorem event_ok {S : GS} {cap n E P lg pl : Nat} {oP oM : Option Nat} {dP : Int32 × Int32} {x y : Int32} (h : Inw S cap n E P lg pl oP oM dP) (hcap : cap < 48) : wX8_event S 0 x y (fun r S1 => ∀ S1', Oa S1 S1' → wX9_event S1' 14 x y (fun b S2 => b = r ∧ Rq S1' S2 0 cap)) (fun X S1 => X = "java/lang/IndexOutOfBoundsException" ∧ ∀ S1', Oa S1 S1' → wX9_event S1' 14 x y (fun _ S2 => Rq S1' S2 1 cap)) := by
  obtain ⟨⟨hF, hcl⟩, i2, i3, i4, i5, i6, i7⟩ := id h
  obtain ⟨k1, k2, k3, k4, k5, k6, k7, k8⟩ := i3
  have v13 : (13 : Int32).toInt = 13 := by decide
  have hE : E ≤ 24 := by omega
  -- refused
  have bad23 : ∀ S1', Oa S S1' → wX9_event_22 (fun _ S2 => Rq S1' S2 1 cap) 14 x y 14 S1' := by
    intro S1' ha
    have h1 := h.oa (by omega) ha
    have f1 := h1.1.1
    refine ⟨fn_14 f1, fk_14 f1, fun S3 e3 => ?_⟩
    have t3 : gX S3 14 32 = 1 := by rw [e3, x_sX, if_pos ⟨rfl, rfl⟩]
    rw [t3]
    refine ⟨by rw [e3]; exact fn_14 f1, by rw [e3]; exact fk_14 f1, fun z => absurd z (by decide), fun _ => ?_⟩
    rw [e3]
    exact rq_thr h1 hcap (by decide)
  have bad : ((x < 0 ∨ nI E ≤ x) ∨ ¬ (0 ≤ y.toInt ∧ y.toInt ≤ 13)) → ∀ S1', Oa S S1' → wX9_event S1' 14 x y (fun _ S2 => Rq S1' S2 1 cap) := by
    intro hb S1' ha
    have h1 := h.oa (by omega) ha
    have f1 := h1.1.1
    refine ⟨fn_14 f1, fk_14 f1, q_isEvent (E := E) f1 h1.2.2.2.2.2.1.2.1 (by omega) (fun i hi ei _ => ⟨fun w => absurd w (by decide), fun _ => q_tells (fun r _ => ?_) (fun r _ => ⟨fun _ => bad23 S1' ha, fun w => absurd rfl w⟩)⟩) (fun _ _ => ⟨fun _ => bad23 S1' ha, fun w => absurd rfl w⟩)⟩
    exfalso
    rw [v13] at r
    rcases hb with (w | w) | w
    · rw [ei] at w; exact nj_nneg (by omega) w
    · rw [ei] at w; have := (nj_le (by omega) (by omega)).mp w; omega
    · exact w r
  unfold wX8_event wX8_event_23
  refine ⟨fn_0 hF, fk_0 hF, 6, fr_0_3 hF, fn_6 hF, fk_6 hF, q_getE hF i6.1 (by omega) (fun i hi ei _ => ?_) (fun hb _ => ⟨fun _ => ⟨rfl, bad (Or.inl hb)⟩, fun q hq => absurd hq (by simp)⟩)⟩
  obtain ⟨q, e1, e2, e3⟩ := i6.2.2 i hi
  rw [e1]
  refine ⟨fun z => absurd z (by simp), fun q' hq' => ?_⟩
  injection hq' with hq'
  subst hq'
  refine ⟨fun z => ⟨rfl, bad (Or.inr (fun w => ?_))⟩, fun z => ⟨fun z2 => ⟨e2.2.1, e2.2.2, ?_⟩, fun z2 => ⟨rfl, bad (Or.inr (fun w => ?_))⟩⟩⟩
  · have := le_of_lt32 z; rw [t0] at this; omega
  · have hy0 : 0 ≤ y.toInt := by have := le_32 (Int32.not_lt.mp z); rw [t0] at this; exact this
    have hy1 : y.toInt < 14 := by have := le_of_lt32 z2; have e14 : (14 : Int32).toInt = 14 := by decide
                                  rw [e14] at this; exact this
    obtain ⟨w, hw, ew⟩ : ∃ w : Nat, w < 14 ∧ y = nI w := ⟨y.toInt.toNat, by omega, nj_of hy0⟩
    subst ew ei
    refine q_fact e2 hw (fun _ S1' ha => ?_)
    have h1 := h.oa (by omega) ha
    have f1 := h1.1.1
    refine ⟨fn_14 f1, fk_14 f1, q_isEvent (E := E) f1 h1.2.2.2.2.2.1.2.1 (by omega) (fun j _ _ _ => ⟨fun u => absurd u (by decide), fun _ => q_tells (fun r _ => ⟨fun u => absurd u (by decide), fun _ => ⟨fn_14 f1, fk_14 f1, fun S3 e3' => ?_⟩⟩) (fun r => ?_)⟩) (fun hb => ?_)⟩
    · have h3 := h1.thr (by omega) 0
      rw [← e3'] at h3
      have f3 := h3.1.1
      have t3 : gX S3 14 32 = 0 := by rw [e3', x_sX, if_pos ⟨rfl, rfl⟩]
      obtain ⟨q3, g1, g2, g3⟩ := h3.2.2.2.2.2.1.2.2 i hi
      have hR3 : gR S3 7 i = gR S 7 i := by
        rw [e3']
        show gR S1' 7 i = _
        rw [ha.sc.2.2.2.1]
      have hq3 : q3 = q := by
        rw [hR3, e1] at g1
        injection g1 with g1
        exact g1.symm
      subst hq3
      have hfc : fct S3 q3 w = fct S q3 w := by
        unfold fct
        have h39 := e2.1
        rw [e3', x_sX, if_neg (by omega), ha.X]
      obtain ⟨b, e, hb, he, hbe, h30, h31, _⟩ := id g3
      have hfin : (fun b S2 => b = fct S q3 w ∧ Rq S1' S2 0 cap) (fct S3 q3 w) S3 := ⟨hfc, by rw [e3']; exact rq_thr h1 hcap (by decide)⟩
      rw [t3]
      refine ⟨fn_14 f3, fk_14 f3, fun _ => q_isPause9 f3 (by omega) h31 (by omega) (fun u _ => ⟨fun v => absurd v (by decide), fun _ => ⟨31, fr_14_22 f3, fn_31 f3, fk_31 f3, by rw [fl_31 f3]; exact nj_in (by omega) (by omega), ?_⟩⟩) (fun u _ => ⟨fun _ => ?_, fun v => absurd rfl v⟩), fun u => absurd rfl u⟩
      · rw [nj_clamp (by omega)]
        refine q_event53 f3 (by omega) (by omega) g3 hw (fun e' hlt' he' => ?_) hfin
        rw [h31] at he'
        rw [h31, ← (nj_eq (by omega) (by omega)).mp he', if_pos u]
      · refine q_event53 f3 (by omega) (by omega) g3 hw (fun e' hlt' he' => ?_) hfin
        rw [h31] at he'
        rw [← (nj_eq (by omega) (by omega)).mp he', if_neg u]
    · exfalso
      apply r
      rw [nj_int (by omega), v13]
      omega
    · exfalso
      rcases hb with u | u
      · exact nj_nneg (by omega) u
      · have := (nj_le (by omega) (by omega)).mp u; omega
  · have := le_32 (Int32.not_lt.mp z2)
    have e14 : (14 : Int32).toInt = 14 := by decide
    rw [e14] at this
    omega
