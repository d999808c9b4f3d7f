/-! THE CLASS BEGINS AN EVENT. -/
def Ei (S S2 : GS) (q : Nat) (fl : Int32) (m : Bool) : Prop := Ag (fun k _ => k = q) S S2 ∧ gX S2 q 0 = fl ∧ gX S2 q 1 = gX S 5 3 ∧ gX S2 q 2 = (if m then -1 else gX S 5 2) ∧ gX S2 q 3 = gX S 5 4 ∧ gX S2 q 4 = (if m then 3 else gX S 5 1) ∧ gX S2 q 6 = -1 ∧ gX S2 q 7 = -1 ∧ gX S2 q 8 = -1 ∧ gX S2 q 10 = -1 ∧ gX S2 q 11 = -1 ∧ gX S2 q 12 = -1 ∧ gX S2 q 13 = -1 ∧ gX S2 q 14 = 1
theorem q_ei68 {S S0 : GS} {q : Nat} {fl vk : Int32} {m : Bool} {Q : GS → Prop} (hq : q < gN S) (hk : gK S q = 2) (ha : Ag (fun k _ => k = q) S S0) (h0 : gX S0 q 0 = fl) (h1 : gX S0 q 1 = gX S 5 3) (h2 : gX S0 q 2 = (if m then -1 else gX S 5 2)) (h3 : gX S0 q 3 = gX S 5 4) (hv : vk = (if m then 3 else gX S 5 1)) (hQ : ∀ S2, Ei S S2 q fl m → Q S2) : wX2_init_68 Q q q vk S0 := by
  have p0 : q < gN S0 ∧ gK S0 q = 2 := by rw [ha.1, ha.2.1]; exact ⟨hq, hk⟩
  refine ⟨p0.1, p0.2, fun T1 e1 => ?_⟩
  have p1 : q < gN T1 ∧ gK T1 q = 2 := by rw [e1]; exact p0
  refine ⟨p1.1, p1.2, fun T2 e2 => fun T3 e3 => fun T4 e4 => fun T5 e5 => fun T6 e6 => fun T7 e7 => fun T8 e8 => fun T9 e9 => hQ T9 ?_⟩
  refine ⟨?_, ?_, ?_, ?_, ?_, ?_, ?_, ?_, ?_, ?_, ?_, ?_, ?_, ?_⟩
  · rw [e9, e8, e7, e6, e5, e4, e3, e2, e1]
    exact (((((((((ha.x _ _ _ rfl).x _ _ _ rfl).x _ _ _ rfl).x _ _ _ rfl).x _ _ _ rfl).x _ _ _ rfl).x _ _ _ rfl).x _ _ _ rfl).x _ _ _ rfl)
  · rw [e9, x_sX, if_neg (by omega), e8, x_sX, if_neg (by omega), e7, x_sX, if_neg (by omega), e6, x_sX, if_neg (by omega), e5, x_sX, if_neg (by omega), e4, x_sX, if_neg (by omega), e3, x_sX, if_neg (by omega), e2, x_sX, if_neg (by omega), e1, x_sX, if_neg (by omega)]; exact h0
  · rw [e9, x_sX, if_neg (by omega), e8, x_sX, if_neg (by omega), e7, x_sX, if_neg (by omega), e6, x_sX, if_neg (by omega), e5, x_sX, if_neg (by omega), e4, x_sX, if_neg (by omega), e3, x_sX, if_neg (by omega), e2, x_sX, if_neg (by omega), e1, x_sX, if_neg (by omega)]; exact h1
  · rw [e9, x_sX, if_neg (by omega), e8, x_sX, if_neg (by omega), e7, x_sX, if_neg (by omega), e6, x_sX, if_neg (by omega), e5, x_sX, if_neg (by omega), e4, x_sX, if_neg (by omega), e3, x_sX, if_neg (by omega), e2, x_sX, if_neg (by omega), e1, x_sX, if_neg (by omega)]; exact h2
  · rw [e9, x_sX, if_neg (by omega), e8, x_sX, if_neg (by omega), e7, x_sX, if_neg (by omega), e6, x_sX, if_neg (by omega), e5, x_sX, if_neg (by omega), e4, x_sX, if_neg (by omega), e3, x_sX, if_neg (by omega), e2, x_sX, if_neg (by omega), e1, x_sX, if_neg (by omega)]; exact h3
  · rw [e9, x_sX, if_neg (by omega), e8, x_sX, if_neg (by omega), e7, x_sX, if_neg (by omega), e6, x_sX, if_neg (by omega), e5, x_sX, if_neg (by omega), e4, x_sX, if_neg (by omega), e3, x_sX, if_neg (by omega), e2, x_sX, if_neg (by omega), e1, x_sX, if_pos ⟨rfl, rfl⟩]; exact hv
  · rw [e9, x_sX, if_neg (by omega), e8, x_sX, if_neg (by omega), e7, x_sX, if_neg (by omega), e6, x_sX, if_neg (by omega), e5, x_sX, if_neg (by omega), e4, x_sX, if_neg (by omega), e3, x_sX, if_neg (by omega), e2, x_sX, if_pos ⟨rfl, rfl⟩]
  · rw [e9, x_sX, if_neg (by omega), e8, x_sX, if_neg (by omega), e7, x_sX, if_neg (by omega), e6, x_sX, if_neg (by omega), e5, x_sX, if_neg (by omega), e4, x_sX, if_neg (by omega), e3, x_sX, if_pos ⟨rfl, rfl⟩]
  · rw [e9, x_sX, if_neg (by omega), e8, x_sX, if_neg (by omega), e7, x_sX, if_neg (by omega), e6, x_sX, if_neg (by omega), e5, x_sX, if_neg (by omega), e4, x_sX, if_pos ⟨rfl, rfl⟩]
  · rw [e9, x_sX, if_neg (by omega), e8, x_sX, if_neg (by omega), e7, x_sX, if_neg (by omega), e6, x_sX, if_neg (by omega), e5, x_sX, if_pos ⟨rfl, rfl⟩]
  · rw [e9, x_sX, if_neg (by omega), e8, x_sX, if_neg (by omega), e7, x_sX, if_neg (by omega), e6, x_sX, if_pos ⟨rfl, rfl⟩]
  · rw [e9, x_sX, if_neg (by omega), e8, x_sX, if_neg (by omega), e7, x_sX, if_pos ⟨rfl, rfl⟩]
  · rw [e9, x_sX, if_neg (by omega), e8, x_sX, if_pos ⟨rfl, rfl⟩]
  · rw [e9, x_sX, if_pos ⟨rfl, rfl⟩]
theorem q_evinit {S : GS} {q s : Nat} {fl : Int32} {Q : GS → Prop} (hF : Fix S) (h39 : 39 ≤ q) (hq : q < gN S) (hk : gK S q = 2) (hs : gX S 5 0 = nI s) (hs2 : s = 0 ∨ s = 4) (hQ : ∀ S2, Ei S S2 q fl (decide (s = 4)) → Q S2) : wX2_init S q 5 fl Q := by
  have h17 : ∀ t0 : Int32, (t0 = 0 ∧ s = 0) ∨ (t0 = 1 ∧ s = 4) → wX2_init_17 Q q 5 fl t0 S := by
    intro t0 ht
    refine ⟨hq, hk, fun S66 e66 => ?_⟩
    have f66 : Fix S66 := by rw [e66]; exact hF.x _ _ _
    have a66 : Ag (fun k _ => k = q) S S66 := by rw [e66]; exact (Ag.rf _ _).x _ _ _ rfl
    refine ⟨fn_5 f66, fk_5 f66, fun S71 e71 => ?_⟩
    rw [a66.X 5 3 (by omega)] at e71
    have f71 : Fix S71 := by rw [e71]; exact f66.x _ _ _
    have a71 : Ag (fun k _ => k = q) S S71 := by rw [e71]; exact a66.x _ _ _ rfl
    have p71 : q < gN S71 ∧ gK S71 q = 2 := by rw [a71.1, a71.2.1]; exact ⟨hq, hk⟩
    have b0 : gX S71 q 0 = fl := by rw [e71, x_sX, if_neg (by omega), e66, x_sX, if_pos ⟨rfl, rfl⟩]
    have b1 : gX S71 q 1 = gX S 5 3 := by rw [e71, x_sX, if_pos ⟨rfl, rfl⟩]
    have h44 : ∀ v2 : Int32, v2 = (if decide (s = 4) then -1 else gX S 5 2) → wX2_init_44 Q q 5 t0 q v2 S71 := by
      intro v2 hv2
      refine ⟨p71.1, p71.2, fun S50 e50 => ?_⟩
      have f50 : Fix S50 := by rw [e50]; exact f71.x _ _ _
      have a50 : Ag (fun k _ => k = q) S S50 := by rw [e50]; exact a71.x _ _ _ rfl
      have p50 : q < gN S50 ∧ gK S50 q = 2 := by rw [a50.1, a50.2.1]; exact ⟨hq, hk⟩
      refine ⟨fn_5 f50, fk_5 f50, p50.1, p50.2, fun S57 e57 => ?_⟩
      rw [a50.X 5 4 (by omega)] at e57
      have a57 : Ag (fun k _ => k = q) S S57 := by rw [e57]; exact a50.x _ _ _ rfl
      have c0 : gX S57 q 0 = fl := by rw [e57, x_sX, if_neg (by omega), e50, x_sX, if_neg (by omega)]; exact b0
      have c1 : gX S57 q 1 = gX S 5 3 := by rw [e57, x_sX, if_neg (by omega), e50, x_sX, if_neg (by omega)]; exact b1
      have c2 : gX S57 q 2 = (if decide (s = 4) then -1 else gX S 5 2) := by rw [e57, x_sX, if_neg (by omega), e50, x_sX, if_pos ⟨rfl, rfl⟩]; exact hv2
      have c3 : gX S57 q 3 = gX S 5 4 := by rw [e57, x_sX, if_pos ⟨rfl, rfl⟩]
      rw [a57.X 5 1 (by omega)]
      rcases ht with ⟨z, zs⟩ | ⟨z, zs⟩
      · refine ⟨fun _ => q_ei68 hq hk a57 c0 c1 c2 c3 ?_ hQ, fun x => absurd z x⟩
        rw [zs]; rfl
      · refine ⟨fun x => absurd (z.symm.trans x) (by decide), fun _ => q_ei68 hq hk a57 c0 c1 c2 c3 ?_ hQ⟩
        rw [zs]; rfl
    rw [a71.X 5 2 (by omega)]
    rcases ht with ⟨z, zs⟩ | ⟨z, zs⟩
    · refine ⟨fun _ => h44 _ ?_, fun x => absurd z x⟩
      rw [zs]; rfl
    · refine ⟨fun x => absurd (z.symm.trans x) (by decide), fun _ => h44 _ ?_⟩
      rw [zs]; rfl
  refine ⟨fn_5 hF, fk_5 hF, ?_⟩
  rw [hs]
  rcases hs2 with e | e
  · exact ⟨fun _ => h17 0 (Or.inl ⟨rfl, e⟩), fun a => absurd a (by rw [e]; decide)⟩
  · exact ⟨fun a => absurd (by rw [e]; decide) a, fun _ => h17 1 (Or.inr ⟨rfl, e⟩)⟩
/-- an event is begun at the new place gN S1 -/
def Bg (S1 S2 : GS) (slot s : Nat) : Prop := Fix S2 ∧ closed S2 ∧ gN S2 = gN S1 + 1 ∧ gK S2 (gN S1) = 2 ∧ (∀ k, k < gN S1 → gK S2 k = gK S1 k ∧ gL S2 k = gL S1 k) ∧ (∀ k j, k < gN S1 → gZ S2 k j = gZ S1 k j) ∧ (∀ k j, k < gN S1 → ¬ (k = 0 ∧ j = slot) → gR S2 k j = gR S1 k j) ∧ gR S2 0 slot = some (gN S1) ∧ (∀ k j, k < gN S1 → ¬ (k = 0 ∧ j = 9) → gX S2 k j = gX S1 k j) ∧ gX S2 0 9 = gX S1 5 3
  ∧ gX S2 (gN S1) 0 = gX S1 0 10 ∧ gX S2 (gN S1) 1 = gX S1 5 3 ∧ gX S2 (gN S1) 2 = (if s = 4 then -1 else gX S1 5 2) ∧ gX S2 (gN S1) 3 = gX S1 5 4 ∧ gX S2 (gN S1) 4 = (if s = 4 then 3 else gX S1 5 1) ∧ gX S2 (gN S1) 6 = -1 ∧ gX S2 (gN S1) 7 = -1 ∧ gX S2 (gN S1) 8 = -1 ∧ gX S2 (gN S1) 10 = -1 ∧ gX S2 (gN S1) 11 = -1 ∧ gX S2 (gN S1) 12 = -1 ∧ gX S2 (gN S1) 13 = -1 ∧ gX S2 (gN S1) 14 = 1
theorem q_begin {S1 : GS} {s : Nat} {Q : Int32 → GS → Prop} (hF : Fix S1) (hc : closed S1) (hs : gX S1 5 0 = nI s) (hs2 : s = 0 ∨ s = 4) (h3 : ¬ gX S1 0 9 < gX S1 5 3 → Q (-3) S1) (h4 : gX S1 0 9 < gX S1 5 3 → ∀ q, gR S1 0 (if s = 4 then 8 else 7) = some q → Q (-4) S1) (h0 : gX S1 0 9 < gX S1 5 3 → gR S1 0 (if s = 4 then 8 else 7) = none → ∀ S2, Bg S1 S2 (if s = 4 then 8 else 7) s → Q 0 S2) : wX8_begin S1 0 5 Q := by
  have h39 := hF.1
  have h43 : ∀ t0 : Int32, (t0 = 0 ∧ s = 0) ∨ (t0 = 1 ∧ s = 4) → gX S1 0 9 < gX S1 5 3 → wX8_begin_43 Q 0 5 t0 (gR S1 0 (if s = 4 then 8 else 7)) S1 := by
    intro t0 ht hlt
    refine ⟨fun hn => ⟨fn_0 hF, fk_0 hF, fn_5 hF, fk_5 hF, hc, fun S17 e17 => ?_⟩, fun q hq => h4 hlt q hq⟩
    have f17 : Fix S17 := by rw [e17]; exact hF.nw _ _
    have c17 : closed S17 := by rw [e17]; exact closed_nw hc _ _
    have n17 : gN S17 = gN S1 + 1 := by rw [e17, n_nw]
    have k17 : gK S17 (gN S1) = 2 := by rw [e17, k_nw_n]
    have x17 : ∀ k j, k < gN S1 → gX S17 k j = gX S1 k j := fun k j hk => by rw [e17, x_nw_o hk]
    rw [x17 0 10 (by omega)]
    refine q_evinit f17 h39 (by omega) k17 (by rw [x17 5 0 (by omega)]; exact hs) hs2 (fun S24 h24 _ => ?_)
    obtain ⟨a24, i0, i1, i2, i3, i4, i6, i7, i8, i10, i11, i12, i13, i14⟩ := h24
    rw [x17 5 3 (by omega)] at i1
    rw [x17 5 2 (by omega)] at i2
    rw [x17 5 4 (by omega)] at i3
    rw [x17 5 1 (by omega)] at i4
    simp only [decide_eq_true_eq] at i2 i4
    have f24 : Fix S24 := f17.ag a24
    have c24 : closed S24 := closed_ag a24 c17
    have n24 : gN S24 = gN S1 + 1 := by rw [a24.1, n17]
    have hfin : ∀ S32 : GS, S32 = sR S24 0 (if s = 4 then 8 else 7) (some (gN S1)) → wX8_begin_79 Q 0 5 S32 := by
      intro S32 e32
      have f32 : Fix S32 := by
        rw [e32]
        refine f24.r _ _ _ ?_
        have h1 : ∀ t ∈ fR, ¬ (t.1 = 0 ∧ (t.2.1 = 7 ∨ t.2.1 = 8)) := by decide
        intro t ht a
        refine h1 t ht ⟨a.1, ?_⟩
        rw [a.2]
        split
        · exact Or.inr rfl
        · exact Or.inl rfl
      have x32 : ∀ k j, k < gN S1 → gX S32 k j = gX S1 k j := fun k j hk => by
        rw [e32]
        show gX S24 k j = _
        rw [a24.X k j (by omega), x17 k j hk]
      refine ⟨fn_5 f32, fk_5 f32, fn_0 f32, fk_0 f32, fun S5 e5 => h0 hlt hn S5 ?_⟩
      rw [x32 5 3 (by omega)] at e5
      have q5 : ∀ j, gX S5 (gN S1) j = gX S24 (gN S1) j := fun j => by
        rw [e5, x_sX, if_neg (by omega), e32]
        rfl
      refine ⟨by rw [e5]; exact f32.x _ _ _, ?_, ?_, ?_, ?_, ?_, ?_, ?_, ?_, ?_, ?_, ?_, ?_, ?_, ?_, ?_, ?_, ?_, ?_, ?_, ?_, ?_, ?_⟩
      · rw [e5, e32]
        refine closed_sR c24 _ _ _ (fun q hq => ?_)
        injection hq with hq
        omega
      · rw [e5, e32]; exact n24
      · rw [e5, e32]; show gK S24 _ = 2; rw [a24.2.1]; exact k17
      · intro k hk
        rw [e5, e32]
        show gK S24 k = _ ∧ gL S24 k = _
        rw [a24.2.1, a24.2.2.1, e17, k_nw_o hk, l_nw_o hk]
        exact ⟨rfl, rfl⟩
      · intro k j hk
        rw [e5, e32]
        show gZ S24 k j = _
        rw [a24.Z, e17, z_nw_o hk]
      · intro k j hk hne
        rw [e5]
        show gR S32 k j = _
        rw [e32, r_sR, if_neg hne, a24.R, e17, r_nw_o hk]
      · rw [e5]
        show gR S32 0 _ = _
        rw [e32, r_sR, if_pos ⟨rfl, rfl⟩]
      · intro k j hk hne
        rw [e5, x_sX, if_neg hne]
        exact x32 k j hk
      · rw [e5, x_sX, if_pos ⟨rfl, rfl⟩]
      · rw [q5]; exact i0
      · rw [q5]; exact i1
      · rw [q5]; exact i2
      · rw [q5]; exact i3
      · rw [q5]; exact i4
      · rw [q5]; exact i6
      · rw [q5]; exact i7
      · rw [q5]; exact i8
      · rw [q5]; exact i10
      · rw [q5]; exact i11
      · rw [q5]; exact i12
      · rw [q5]; exact i13
      · rw [q5]; exact i14
    rcases ht with ⟨z, zs⟩ | ⟨z, zs⟩
    · rw [if_neg (by omega)] at hfin
      exact ⟨fun _ => hfin, fun x => absurd z x⟩
    · rw [if_pos zs] at hfin
      exact ⟨fun x => absurd (z.symm.trans x) (by decide), fun _ => hfin⟩
  refine ⟨fn_5 hF, fk_5 hF, ?_⟩
  rw [hs]
  rcases hs2 with e | e
  · have h43 := h43 0 (Or.inl ⟨rfl, e⟩)
    rw [if_neg (by omega)] at h43
    refine ⟨fun _ => ⟨fn_5 hF, fk_5 hF, fn_0 hF, fk_0 hF, fun a => ⟨fun _ => h43 a, fun x => absurd rfl x⟩, fun a => h3 a⟩, fun a => absurd a (by rw [e]; decide)⟩
  · have h43 := h43 1 (Or.inr ⟨rfl, e⟩)
    rw [if_pos e] at h43
    refine ⟨fun a => absurd (by rw [e]; decide) a, fun _ => ⟨fn_5 hF, fk_5 hF, fn_0 hF, fk_0 hF, fun a => ⟨fun x => absurd x (by decide), fun _ => h43 a⟩, fun a => h3 a⟩⟩
