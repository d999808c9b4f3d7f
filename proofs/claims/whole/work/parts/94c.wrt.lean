/-! TYPE, DROP AND WRITE. -/
def Ky (S : GS) (cap : Nat) (c : Int32) (r1 : Int32) (S1 : GS) : Prop := gSh S1 S → wX9_type S1 14 c (fun r2 S2 => gSh S2 S1 → r1 = r2 ∧ Inv S2 (cap + 1))
theorem type_ok {S : GS} {cap n E P lg pl : Nat} {oP oM : Option Nat} {dP : Int32 × Int32} {c : Int32} (h : Inw S cap n E P lg pl oP oM dP) (hcap : cap < 48) : wX8_type S 0 c (Ky S cap c) := by
  obtain ⟨⟨hF, hcl⟩, i2, _⟩ := id h
  have hp := i2.1
  -- no character is added
  have no : (c < 32 ∨ 126 < c ∨ pl = 72) → Ky S cap c 0 S := by
    intro hn _
    refine ⟨fn_14 hF, fk_14 hF, fun S3 e3 => ?_⟩
    have hI : Inv S3 (cap + 1) := by
      refine ⟨n, E, P, lg, pl, oP, oM, dP, h.sc (S2 := S3) ?_ ?_ (by omega) (by omega)⟩
      · rw [e3]; exact (Sc.rf _).x _ _ _ (by unfold scP; omega)
      · rw [e3]
        exact i2.sc (by rw [x_sX, if_neg (by omega)]) (by rw [x_sX, if_neg (by omega)]) (fun i => by rw [x_sX, if_neg (by omega)]) (fun i => by rw [x_sX, if_neg (by omega)])
    have l3 : gX S3 14 1 = nI pl := by rw [e3, x_sX, if_neg (by omega)]; exact i2.2.2.1
    unfold wX9_type_26
    rw [l3]
    refine ⟨fun _ _ => ⟨rfl, hI⟩, fun z => ⟨fun _ _ => ⟨rfl, hI⟩, fun z1 => ⟨fun z2 => ?_, fun _ _ => ⟨rfl, hI⟩⟩⟩⟩
    rcases hn with y | y | y
    · exact absurd y z1
    · exact absurd z2 (Int32.not_le.mpr y)
    · exact absurd (by rw [y]; decide) z
  unfold wX8_type wX8_type_27 wX8_type_28
  refine ⟨fun z => ⟨Or.inl rfl, no (Or.inl z)⟩, fun z1 => ⟨fun z => ⟨Or.inl rfl, no (Or.inr (Or.inl z))⟩, fun z2 => ⟨fn_0 hF, fk_0 hF, 1, fr_0_0 hF, fn_1 hF, fk_1 hF, ?_⟩⟩⟩
  have hc : 0 ≤ c.toInt ∧ c.toInt < 65536 := by
    have a := le_32 (Int32.not_lt.mp z1)
    have b := le_32 (Int32.not_lt.mp z2)
    have e1 : (32 : Int32).toInt = 32 := by decide
    have e2 : (126 : Int32).toInt = 126 := by decide
    omega
  unfold wX6_add wX6_add_19
  rw [i2.2.1]
  refine ⟨fn_1 hF, fk_1 hF, fun z => absurd z (nj_nneg (by omega)), fun _ => ⟨2, fr_1_0 hF, fn_2 hF, fk_2 hF, ?_⟩⟩
  rw [fl_2 hF, nj_lt (by omega) (by omega), nj_clamp (by omega), nar_c hc]
  refine ⟨fun hl => ⟨nj_in hl (by omega), fun S8 e8 S13 e13 _ => ⟨fun x => absurd x (by decide), fun _ => ⟨Or.inr rfl, fun _ => ?_⟩⟩⟩, fun hl _ => ⟨fun _ => ⟨Or.inl rfl, no (Or.inr (Or.inr (by omega)))⟩, fun x => absurd rfl x⟩⟩
  have t8 : gX S8 1 1 = nI pl := by rw [e8, x_sX, if_neg (by omega)]; exact i2.2.1
  rw [t8, nj_succ] at e13
  have s13 : Sc S S13 := by rw [e13, e8]; exact ((Sc.rf _).x _ _ _ (by unfold scP; omega)).x _ _ _ (by unfold scP; omega)
  have f13 := s13.fix hF
  refine ⟨fn_14 f13, fk_14 f13, fun S3 e3 => ?_⟩
  have l3 : gX S3 14 1 = nI pl := by rw [e3, x_sX, if_neg (by omega), e13, x_sX, if_neg (by omega), e8, x_sX, if_neg (by omega)]; exact i2.2.2.1
  have f3 : Fix S3 := by rw [e3]; exact f13.x _ _ _
  unfold wX9_type_26
  rw [l3]
  refine ⟨fun z => ?_, fun _ => ⟨fun z => absurd z z1, fun _ => ⟨fun _ => ⟨15, fr_14_0 f3, fn_15 f3, fk_15 f3, ?_⟩, fun z => absurd (Int32.not_lt.mp z2) z⟩⟩⟩
  · have := (nj_eq (b := 72) (by omega) (by omega)).mp z
    omega
  rw [fl_15 f3, nj_clamp (by omega)]
  refine ⟨nj_in hl (by omega), fun S11 e11 S16 e16 _ => ⟨rfl, n, E, P, lg, pl + 1, oP, oM, dP, h.sc (S2 := S16) ?_ ?_ (by omega) (by omega)⟩⟩
  · rw [e16, e11, e3]
    exact ((s13.x _ _ _ (by unfold scP; omega)).x _ _ _ (by unfold scP; omega)).x _ _ _ (by unfold scP; omega)
  · have t11 : gX S11 14 1 = nI pl := by rw [e11, x_sX, if_neg (by omega)]; exact l3
    rw [t11, nj_succ] at e16
    refine ⟨by omega, ?_, ?_, fun i => ?_⟩
    · rw [e16, x_sX, if_neg (by omega), e11, x_sX, if_neg (by omega), e3, x_sX, if_neg (by omega), e13, x_sX, if_pos ⟨rfl, rfl⟩]
    · rw [e16, x_sX, if_pos ⟨rfl, rfl⟩]
    · have a2 : gX S16 2 i = if i = pl then c else gX S 2 i := by
        rw [e16, x_sX, if_neg (by omega), e11, x_sX, if_neg (by omega), e3, x_sX, if_neg (by omega), e13, x_sX, if_neg (by omega), e8, x_sX]
        by_cases y : i = pl
        · rw [if_pos ⟨rfl, y⟩, if_pos y]
        · rw [if_neg (fun w => y w.2), if_neg y]
      have a15 : gX S16 15 i = if i = pl then c else gX S 15 i := by
        rw [e16, x_sX, if_neg (by omega), e11, x_sX]
        by_cases y : i = pl
        · rw [if_pos ⟨rfl, y⟩, if_pos y]
        · rw [if_neg (fun w => y w.2), if_neg y, e3, x_sX, if_neg (by omega), e13, x_sX, if_neg (by omega), e8, x_sX, if_neg (by omega)]
      rw [a2, a15, i2.2.2.2 i]
theorem drop_ok {S : GS} {cap n E P lg pl : Nat} {oP oM : Option Nat} {dP : Int32 × Int32} {x : Int32} (h : Inw S cap n E P lg pl oP oM dP) (hcap : cap < 48) : wX8_drop S 0 x (fun r S1 => ∀ S1', Oa S1 S1' → wX9_drop S1' 14 x (fun b S2 => b = r ∧ Rq S1' S2 0 cap)) (fun X S1 => X = "java/lang/IllegalArgumentException" ∧ ∀ S1', Oa S1 S1' → wX9_drop S1' 14 x (fun _ S2 => Rq S1' S2 1 cap)) := by
  obtain ⟨⟨hF, hcl⟩, i2, _⟩ := id h
  have hp := i2.1
  refine ⟨fun hx => ⟨fn_0 hF, fk_0 hF, 1, fr_0_0 hF, fn_1 hF, fk_1 hF, fn_1 hF, fk_1 hF, fun S3 e3 _ S1' ha => ?_⟩, fun hx => ⟨rfl, fun S1' ha => ?_⟩⟩
  · -- the same number goes on both sides
    rw [i2.2.1] at e3 ⊢
    have hx0 : 0 ≤ x.toInt := by have := le_32 hx; rw [t0] at this; exact this
    obtain ⟨g, hg, hgl, hgr⟩ : ∃ g : Nat, (if nI pl < x then nI pl else x) = nI g ∧ g ≤ pl ∧ (if nI pl ≤ x then nI pl else x) = nI g := by
      by_cases z : nI pl < x
      · refine ⟨pl, by rw [if_pos z], Nat.le_refl _, ?_⟩
        rw [if_pos (Int32.le_of_lt z)]
      · have e := nj_of hx0
        have h1 := le_32 (Int32.not_lt.mp z)
        rw [nj_int (by omega)] at h1
        refine ⟨x.toInt.toNat, by rw [if_neg z]; exact e, by omega, ?_⟩
        by_cases z2 : nI pl ≤ x
        · rw [if_pos z2]
          have h2 := le_32 z2
          rw [nj_int (by omega)] at h2
          congr 1; omega
        · rw [if_neg z2]; exact e
    rw [hg] at e3 ⊢
    rw [nj_sub hgl] at e3
    have s3 : Sc S S3 := by rw [e3]; exact (Sc.rf _).x _ _ _ (by unfold scP; omega)
    have s1 := s3.tr ha.sc
    have f1 := s1.fix hF
    have x1 := ha.X
    unfold wX9_drop wX9_drop_10 wX9_drop_38
    refine ⟨fun _ => ⟨fn_14 f1, fk_14 f1, fun S8 e8 => ?_⟩, fun z => absurd hx z⟩
    have f8 : Fix S8 := by rw [e8]; exact f1.x _ _ _
    have l8 : gX S8 14 1 = nI pl := by rw [e8, x_sX, if_neg (by omega), x1, e3, x_sX, if_neg (by omega)]; exact i2.2.2.1
    have t8 : gX S8 14 32 = 0 := by rw [e8, x_sX, if_pos ⟨rfl, rfl⟩]
    rw [t8, l8]
    have hfin : ∀ S9, S9 = sX S8 14 1 (nI pl - nI g) → nI g = nI g ∧ Rq S1' S9 0 cap := by
      intro S9 e9
      rw [nj_sub hgl] at e9
      refine ⟨rfl, ?_, ?_, ?_, n, E, P, lg, pl - g, oP, oM, dP, h.sc (S2 := S9) ?_ ?_ (by omega) (by omega)⟩
      · rw [e9, x_sX, if_neg (by omega), t8]; decide
      · rw [e9, e8]; rfl
      · rw [e9, e8]; rfl
      · rw [e9, e8]; exact (s1.x _ _ _ (by unfold scP; omega)).x _ _ _ (by unfold scP; omega)
      · refine ⟨by omega, ?_, ?_, fun i => ?_⟩
        · rw [e9, x_sX, if_neg (by omega), e8, x_sX, if_neg (by omega), x1, e3, x_sX, if_pos ⟨rfl, rfl⟩]
        · rw [e9, x_sX, if_pos ⟨rfl, rfl⟩]
        · have a2 : gX S9 2 i = gX S 2 i := by rw [e9, x_sX, if_neg (by omega), e8, x_sX, if_neg (by omega), x1, e3, x_sX, if_neg (by omega)]
          have a15 : gX S9 15 i = gX S 15 i := by rw [e9, x_sX, if_neg (by omega), e8, x_sX, if_neg (by omega), x1, e3, x_sX, if_neg (by omega)]
          rw [a2, a15]
          exact i2.2.2.2 i
    refine ⟨fn_14 f8, fk_14 f8, fun _ => ⟨fun z => ⟨fn_14 f8, fk_14 f8, ?_⟩, fun z => ⟨fn_14 f8, fk_14 f8, ?_⟩⟩, fun z => absurd rfl z⟩
    · rw [if_pos z] at hgr
      have eg : pl = g := (nj_eq (by omega) (by omega)).mp hgr
      subst eg
      exact hfin
    · rw [if_neg z] at hgr
      rw [hgr]
      exact hfin
  · have s1 := ha.sc
    have f1 := s1.fix hF
    have x1 := ha.X
    unfold wX9_drop wX9_drop_10
    refine ⟨fun z => absurd z hx, fun _ => ⟨fn_14 f1, fk_14 f1, fun S8 e8 => ?_⟩⟩
    have f8 : Fix S8 := by rw [e8]; exact f1.x _ _ _
    have t8 : gX S8 14 32 = 1 := by rw [e8, x_sX, if_pos ⟨rfl, rfl⟩]
    rw [t8]
    refine ⟨fn_14 f8, fk_14 f8, fun z => absurd z (by decide), fun _ => ⟨by rw [t8]; decide, by rw [e8]; rfl, by rw [e8]; rfl, n, E, P, lg, pl, oP, oM, dP, h.sc (S2 := S8) ?_ ?_ (by omega) (by omega)⟩⟩
    · rw [e8]; exact s1.x _ _ _ (by unfold scP; omega)
    · rw [e8]
      exact i2.sc (by rw [x_sX, if_neg (by omega), x1]) (by rw [x_sX, if_neg (by omega), x1]) (fun i => by rw [x_sX, if_neg (by omega), x1]) (fun i => by rw [x_sX, if_neg (by omega), x1])
