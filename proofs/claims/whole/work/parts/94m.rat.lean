/-! RATE, both sides. -/
def Zo (S S' : GS) : Prop := gN S' = gN S ∧ gK S' = gK S ∧ gL S' = gL S ∧ gR S' = gR S ∧ gX S' = gX S ∧ gF S' = gF S ∧ ∀ k j, k ≠ 14 → gZ S' k j = gZ S k j
theorem Zo.rf (S : GS) : Zo S S := ⟨rfl, rfl, rfl, rfl, rfl, rfl, fun _ _ _ => rfl⟩
theorem Zo.z {S S' : GS} (h : Zo S S') (j : Nat) (v : Int64) : Zo S (sZ S' 14 j v) := ⟨h.1, h.2.1, h.2.2.1, h.2.2.2.1, h.2.2.2.2.1, h.2.2.2.2.2.1, fun k i hk => by rw [z_sZ, if_neg (fun y => hk y.1)]; exact h.2.2.2.2.2.2 k i hk⟩
theorem Zo.X {S S' : GS} (h : Zo S S') : gX S' = gX S := h.2.2.2.2.1
theorem Zo.xx {S S' : GS} (h : Zo S S') : ∀ k j, k ≠ 14 → gX S' k j = gX S k j := fun k j _ => by rw [h.X]
theorem Zo.sc {S S' : GS} (h : Zo S S') : Sc S S' := ⟨h.1, h.2.1, h.2.2.1, h.2.2.2.1, fun k j _ => by rw [h.X], fun k j hk _ => h.2.2.2.2.2.2 k j hk⟩
theorem Zo.inw {S S' : GS} {cap n E P lg pl : Nat} {oP oM : Option Nat} {dP : Int32 × Int32} (hz : Zo S S') (h : Inw S cap n E P lg pl oP oM dP) (hc : cap ≤ 48) : Inw S' cap n E P lg pl oP oM dP :=
  h.sc hz.sc (h.2.1.sc (by rw [hz.X]) (by rw [hz.X]) (fun i => by rw [hz.X]) (fun i => by rw [hz.X])) (Nat.le_refl _) hc
theorem ahd_X {S S' : GS} (h : ∀ k j, k ≠ 14 → gX S' k j = gX S k j) (x : Int32) (i : Nat) : ahd S' x i = ahd S x i := by
  induction i with
  | zero => rfl
  | succ i ih => rw [ahd, ahd, ih, isP_X h, h 31 i (by omega), h 19 _ (by omega)]
theorem aI_X {S S' : GS} (h : ∀ k j, k ≠ 14 → gX S' k j = gX S k j) (i : Nat) : aI S' i = aI S i := by
  rw [aI, aI, isP_X h, h 31 i (by omega), h 19 _ (by omega), ahd_X h]
theorem sumA_X {S S' : GS} (h : ∀ k j, k ≠ 14 → gX S' k j = gX S k j) (i : Nat) : sumA S' i = sumA S i := by
  induction i with
  | zero => rfl
  | succ i ih =>
    rw [sumA, sumA, ih, aI_X h]
    cases aI S i with
    | none => rfl
    | some j => simp only; rw [h 31 i (by omega), h 31 j (by omega), h 28 _ (by omega), h 28 _ (by omega)]
theorem sumB_X {S S' : GS} (h : ∀ k j, k ≠ 14 → gX S' k j = gX S k j) (i : Nat) : sumB S' i = sumB S i := by
  induction i with
  | zero => rfl
  | succ i ih =>
    rw [sumB, sumB, ih, aI_X h]
    cases aI S i with
    | none => rfl
    | some j => simp only; rw [h 31 j (by omega), h 30 i (by omega), h 26 _ (by omega), h 26 _ (by omega)]
theorem szo_X {S S' : GS} (h : ∀ k j, k ≠ 14 → gX S' k j = gX S k j) (x : Int32) (j : Nat) : szo (gX S' 28) x j = szo (gX S 28) x j := by
  unfold szo; rw [h 28 _ (by omega)]
theorem sumO_X {S S' : GS} (h : ∀ k j, k ≠ 14 → gX S' k j = gX S k j) (i : Nat) : sumO S' i = sumO S i := by
  induction i with
  | zero => rfl
  | succ i ih => rw [sumO, sumO, ih, h 33 i (by omega), szo_X h, szo_X h]
theorem mul3z (l : Nat) : 3 * nI l = nI (3 * l) := by
  show Int32.ofNat 3 * Int32.ofNat l = Int32.ofNat (3 * l)
  rw [Int32.ofNat_mul]
theorem mul3o (l : Nat) : 3 * nI l + 1 = nI (3 * l + 1) := mul3 l 1
def oI (o : Option Nat) : Int32 := match o with
  | none => -1
  | some j => nI j
theorem nj_prd (j : Nat) : nI (j + 1) - 1 = nI j := by
  have := @nj_sub (j + 1) 1 (by omega)
  exact this
theorem q_ahead {S : GS} {n E i e : Nat} {Q : Int32 → GS → Prop} (hF : Fix S) (hE40 : E ≤ 40) (hn : n ≤ 512) (hv : Evc S n E) (hi : i < E) (h31 : gX S 31 i = nI e) (he : e < n) (hQ : Q (oI (ahd S (gX S 19 e) i)) S) : wX9_ahead S 14 (nI i) Q := by
  have loop : ∀ j, j ≤ i → Q (oI (ahd S (gX S 19 e) j)) S → wX9_ahead_4 Q 14 (j + 1) (nI i) (nI j - 1) S := by
    intro j
    induction j with
    | zero =>
      intro _ hq
      unfold wX9_ahead_4
      exact ⟨fun _ => hq, fun z => absurd (by decide) z⟩
    | succ j ih =>
      intro hj hq
      obtain ⟨q, b', e', e1, e2, hb', he', h30', h31', hk, h9, hp9, hip⟩ := hv j (by omega)
      have e3 : nI j + (-1) = nI j - 1 := by rw [Int32.sub_eq_add_neg]
      unfold wX9_ahead_4 wX9_ahead_46
      rw [nj_prd]
      rw [ahd] at hq
      refine ⟨fun z => absurd z (nj_nneg (by omega)), fun _ => ⟨fn_14 hF, fk_14 hF, q_isPause9 hF (by omega) h31' (by omega) (fun z _ => ⟨fun y => absurd y (by decide), fun _ => ⟨31, fr_14_22 hF, fn_31 hF, fk_31 hF, by rw [fl_31 hF]; exact nj_in (by omega) (by omega), 19, fr_14_8 hF, fn_19 hF, fk_19 hF, ?_⟩⟩) (fun z _ => ⟨fun _ => ?_, fun y => absurd rfl y⟩)⟩⟩
      · rw [nj_clamp (show j < 2147483648 by omega), nj_clamp (show i < 2147483648 by omega), h31', h31, nj_clamp (show e' < 2147483648 by omega), nj_clamp (show e < 2147483648 by omega), fl_19 hF, fl_31 hF]
        rw [if_pos (hip.mpr z), h31', nj_clamp (show e' < 2147483648 by omega)] at hq
        refine ⟨nj_in (by omega) (by omega), nj_in (by omega) (by omega), nj_in (by omega) (by omega), fun w => ?_, fun w => ?_⟩
        · rw [if_neg w] at hq; exact hq
        · rw [if_pos w] at hq; exact hq
      · rw [if_neg (fun w => z (hip.mp w))] at hq
        rw [e3]
        exact ih (by omega) hq
  exact ⟨i + 1, loop i (Nat.le_refl _) hQ⟩
theorem q_alc {S1 : GS} {cap n E P lg pl : Nat} {oP oM : Option Nat} {dP : Int32 × Int32} (h : Inw S1 cap n E P lg pl oP oM dP) (hcap : cap ≤ 48) {Q : GS → Prop} (hQ : ∀ S', Zo S1 S' → gZ S' 14 33 = sumA S1 E → gZ S' 14 34 = sumB S1 E → Q S') : ∀ (r j : Nat) (S' : GS), j + r = E → Zo S1 S' → gZ S' 14 33 = sumA S1 j → gZ S' 14 34 = sumB S1 j → wX9_allocated_2 Q 14 (r + 1) (nI j) S' := by
  have i3 := h.2.2.1
  have hE : E ≤ 24 := by have := i3.1; have := i3.2.1; have := i3.2.2.2.2.1; omega
  have hn : n ≤ 48 := by have := i3.1; have := i3.2.1; omega
  intro r
  induction r with
  | zero =>
    intro j S' hj hz za zb
    have ej : j = E := by omega
    subst ej
    have h' := hz.inw h hcap
    have hF := h'.1.1
    unfold wX9_allocated_2
    rw [h'.2.2.2.2.2.1.2.1]
    exact ⟨fn_14 hF, fk_14 hF, fun _ => hQ S' hz za zb, fun z => absurd ((nj_le (by omega) (by omega)).mpr (Nat.le_refl _)) z⟩
  | succ r ih =>
    intro j S' hj hz za zb
    have h' := hz.inw h hcap
    have hF := h'.1.1
    have hv := h'.evc
    have hX := hz.X
    obtain ⟨q, b, e, e1, e2, hb, he, h30, h31, hk, h9, hp9, hip⟩ := hv j (by omega)
    have hA := fun S'' => ih (j + 1) S'' (by omega)
    rw [sumA, sumB, ← aI_X hz.xx] at hA
    unfold wX9_allocated_2
    rw [h'.2.2.2.2.2.1.2.1]
    refine ⟨fn_14 hF, fk_14 hF, fun z => absurd ((nj_le (by omega) (by omega)).mp z) (by omega), fun _ => q_isPause9 hF (by omega) h31 (by omega) (fun z _ => ⟨fun y => absurd y (by decide), fun _ => q_ahead hF (by omega) (by omega) hv (by omega) h31 he (fun _ => ?_)⟩) (fun z _ => ⟨fun _ => ?_, fun y => absurd rfl y⟩)⟩
    · have ha : aI S' j = ahd S' (gX S' 19 e) j := by rw [aI, if_pos (hip.mpr z), h31, nj_clamp (by omega)]
      rw [ha] at hA
      cases hh : ahd S' (gX S' 19 e) j with
      | none =>
        rw [hh] at hA
        unfold wX9_allocated_27 wX9_allocated_105
        rw [nj_succ]
        exact ⟨fun _ => hA S' hz za zb, fun y => absurd rfl y⟩
      | some i =>
        rw [hh] at hA
        have hij := ahd_lt _ _ _ _ hh
        obtain ⟨q', b', e', e1', e2', hb', he', h30', h31', _⟩ := hv i (by omega)
        unfold wX9_allocated_27 wX9_allocated_105
        have eo : oI (some i) = nI i := rfl
        rw [eo, nj_succ, nj_clamp (show j < 2147483648 by omega), nj_clamp (show i < 2147483648 by omega)]
        refine ⟨fun y => absurd y (nI_ne (by omega)), fun _ => ⟨fn_14 hF, fk_14 hF, 31, fr_14_22 hF, fn_31 hF, fk_31 hF, by rw [fl_31 hF]; exact nj_in (by omega) (by omega), 28, fr_14_17 hF, fn_28 hF, fk_28 hF, ?_⟩⟩
        rw [h31, h31', mul3z, mul3o, nj_clamp (show 3 * e < 2147483648 by omega), nj_clamp (show 3 * e' + 1 < 2147483648 by omega), fl_28 hF, fl_31 hF]
        refine ⟨nj_in (by omega) (by omega), nj_in (by omega) (by omega), nj_in (by omega) (by omega), fun S15 e15 => ?_⟩
        have z15 : Zo S1 S15 := by rw [e15]; exact hz.z _ _
        have h15 := (z15.inw h hcap)
        have f15 := h15.1.1
        have x15 : gX S15 = gX S' := by rw [z15.X, hX]
        rw [x15]
        refine ⟨30, fr_14_21 f15, fn_30 f15, fk_30 f15, by rw [fl_30 f15]; exact nj_in (by omega) (by omega), 26, fr_14_15 f15, fn_26 f15, fk_26 f15, ?_⟩
        rw [h30, fl_26 f15, nj_clamp (show b < 2147483648 by omega)]
        refine ⟨nj_in (by omega) (by omega), 31, fr_14_22 f15, fn_31 f15, fk_31 f15, by rw [fl_31 f15]; exact nj_in (by omega) (by omega), ?_⟩
        rw [h31', nj_clamp (show e' < 2147483648 by omega)]
        refine ⟨nj_in (by omega) (by omega), fun S38 e38 => ?_⟩
        have z38 : Zo S1 S38 := by rw [e38]; exact z15.z _ _
        refine hA S38 z38 ?_ ?_
        · simp only
          rw [e38, z_sZ, if_neg (by omega), e15, z_sZ, if_pos ⟨rfl, rfl⟩, za, ← hX, h31, h31', nj_clamp (by omega), nj_clamp (by omega)]
        · simp only
          rw [e38, z_sZ, if_pos ⟨rfl, rfl⟩, e15, z_sZ, if_neg (by omega), zb, ← hX, h30, h31', nj_clamp (by omega), nj_clamp (by omega)]
    · have ha : aI S' j = none := by rw [aI, if_neg (fun w => z (hip.mp w))]
      rw [ha] at hA
      unfold wX9_allocated_27 wX9_allocated_105
      rw [nj_succ]
      exact ⟨fun _ => hA S' hz za zb, fun y => absurd rfl y⟩
theorem q_rt33 {S1 : GS} {cap n E P lg pl : Nat} {oP oM : Option Nat} {dP : Int32 × Int32} {x : Int32} {B : Int64} (h : Inw S1 cap n E P lg pl oP oM dP) (hcap : cap ≤ 48) {Q : UInt64 → GS → Prop} (hQ : ∀ S', Zo S1 S' → gZ S' 14 33 = sumO S1 E → gZ S' 14 34 = B → wX9_rate_96 Q 14 x S') : ∀ (r j : Nat) (S' : GS), j + r = E → Zo S1 S' → gZ S' 14 33 = sumO S1 j → gZ S' 14 34 = B → wX9_rate_33 Q 14 (r + 1) x (nI j) S' := by
  have i3 := h.2.2.1
  have hE : E ≤ 24 := by have := i3.1; have := i3.2.1; have := i3.2.2.2.2.1; omega
  have hn : n ≤ 48 := by have := i3.1; have := i3.2.1; omega
  intro r
  induction r with
  | zero =>
    intro j S' hj hz za zb
    have ej : j = E := by omega
    subst ej
    have h' := hz.inw h hcap
    have hF := h'.1.1
    unfold wX9_rate_33
    rw [h'.2.2.2.2.2.1.2.1]
    exact ⟨fn_14 hF, fk_14 hF, fun _ => hQ S' hz za zb, fun z => absurd ((nj_le (by omega) (by omega)).mpr (Nat.le_refl _)) z⟩
  | succ r ih =>
    intro j S' hj hz za zb
    have h' := hz.inw h hcap
    have hF := h'.1.1
    have hX := hz.X
    obtain ⟨q, e1, e2, b, e, ev⟩ := h'.2.2.2.2.2.1.2.2 j (by omega)
    have hl : Ln S' n b 3 (gX S' 33 j) := by obtain ⟨_, _, _, _, _, _, _, _, _, _, _, _, _, _, _, _, _, _, _, w⟩ := ev; exact w
    have hA := fun S'' => ih (j + 1) S'' (by omega)
    rw [sumO, ← hX] at hA
    unfold wX9_rate_33 wX9_rate_90
    rw [h'.2.2.2.2.2.1.2.1, nj_succ]
    refine ⟨fn_14 hF, fk_14 hF, fun z => absurd ((nj_le (by omega) (by omega)).mp z) (by omega), fun _ => ⟨33, fr_14_24 hF, fn_33 hF, fk_33 hF, by rw [fl_33 hF]; exact nj_in (by omega) (by omega), ?_⟩⟩
    rw [nj_clamp (show j < 2147483648 by omega)]
    refine ⟨fun z => ?_, fun z => ?_⟩
    · rw [if_pos z] at hA
      exact hA S' hz za zb
    · rw [if_neg z] at hA
      rcases hl with w | ⟨l, hl1, hl2, _⟩
      · exact absurd w z
      · rw [hl2, mul3o, mul3z, nj_clamp (show 3 * l < 2147483648 by omega), nj_clamp (show 3 * l + 1 < 2147483648 by omega)]
        refine ⟨by rw [fl_33 hF]; exact nj_in (by omega) (by omega), 28, fr_14_17 hF, fn_28 hF, fk_28 hF, by rw [fl_28 hF]; exact nj_in (by omega) (by omega), by rw [fl_33 hF]; exact nj_in (by omega) (by omega), by rw [fl_28 hF]; exact nj_in (by omega) (by omega), fun S26 e26 => ?_⟩
        refine hA S26 (by rw [e26]; exact hz.z _ _) ?_ (by rw [e26, z_sZ, if_neg (by omega)]; exact zb)
        rw [e26, z_sZ, if_pos ⟨rfl, rfl⟩, za, hl2, szo, szo, if_neg (nI_ne (by omega)), if_neg (nI_ne (by omega)), nj_clamp (by omega)]
        rfl
theorem q_rate9 {S1 : GS} {cap n E P lg pl : Nat} {oP oM : Option Nat} {dP : Int32 × Int32} {x : Int32} (h : Inw S1 cap n E P lg pl oP oM dP) (hcap : cap ≤ 48) {Q : UInt64 → GS → Prop} (hQ : ∀ S', Zo S1 S' → (x = 0 → gZ S' 14 33 = sumA S1 E ∧ gZ S' 14 34 = sumB S1 E) → (x = 1 → gZ S' 14 33 = sumO S1 E ∧ gZ S' 14 34 = (spn S1 n).1) → wX9_rate_96 Q 14 x S') : wX9_rate S1 14 x Q := by
  have i3 := h.2.2.1
  have hE : E ≤ 24 := by have := i3.1; have := i3.2.1; have := i3.2.2.2.2.1; omega
  have hn : n ≤ 48 := by have := i3.1; have := i3.2.1; omega
  have f1 := h.1.1
  have z0 : (0 : Int32) = nI 0 := by decide
  refine ⟨fn_14 f1, fk_14 f1, fun S45 e45 S48 e48 => ?_⟩
  have z48 : Zo S1 S48 := by rw [e48, e45]; exact ((Zo.rf S1).z _ _).z _ _
  have a48 : gZ S48 14 33 = 0 := by rw [e48, z_sZ, if_neg (by omega), e45, z_sZ, if_pos ⟨rfl, rfl⟩]
  have b48 : gZ S48 14 34 = 0 := by rw [e48, z_sZ, if_pos ⟨rfl, rfl⟩]
  have h48 := z48.inw h hcap
  have f48 := h48.1.1
  refine ⟨fun x0 => ⟨fun x1 => hQ S48 z48 (fun w => absurd w x0) (fun w => absurd w x1), fun x1 => ⟨fn_14 f48, fk_14 f48, q_span9 f48 h48.2.2.1.2.2.2.2.2.2.1 (by omega) h48.2.2.2.1 (fun _ S39 e39 => ⟨E + 1, ?_⟩)⟩⟩, fun x0 => ⟨E + 1, ?_⟩⟩
  · have z39 : Zo S1 S39 := by rw [e39]; exact z48.z _ _
    rw [z0]
    refine q_rt33 h hcap (B := (spn S1 n).1) (fun S' hz za zb => hQ S' hz (fun w => absurd w x0) (fun _ => ⟨za, zb⟩)) E 0 S39 (by omega) z39 ?_ ?_
    · rw [e39, z_sZ, if_neg (by omega)]; exact a48
    · rw [e39, z_sZ, if_pos ⟨rfl, rfl⟩, spn_X z48.xx]
  · have key := q_alc h hcap (Q := fun S51 => gSh S51 S48 → wX9_rate_18 Q 14 x S51) (fun S' hz za zb _ => ⟨fun x1 => hQ S' hz (fun _ => ⟨za, zb⟩) (fun w => absurd w x1), fun x1 => absurd (x1.symm.trans x0) (by decide)⟩) E 0 S48 (by omega) z48 a48 b48
    exact key
theorem rq_zo {S1 S' : GS} {cap n E P lg pl k : Nat} {oP oM : Option Nat} {dP : Int32 × Int32} (h : Inw S1 cap n E P lg pl oP oM dP) (hcap : cap < 48) (hz : Zo S1 S') {v : Int32} (hv : v = nI k) : Rq S1 (sX S' 14 32 v) k cap := by
  obtain ⟨r1, r2, r3, r4⟩ := rq_thr (hz.inw h (by omega)) hcap hv
  refine ⟨r1, r2.trans (funext (fun j => hz.2.2.2.2.2.2 37 j (by omega))), r3.trans hz.2.2.2.2.2.1, r4⟩
theorem q_r124 {S1 S' : GS} {cap n E P lg pl k : Nat} {oP oM : Option Nat} {dP : Int32 × Int32} {Q : UInt64 → GS → Prop} (h : Inw S1 cap n E P lg pl oP oM dP) (hcap : cap < 48) (hz : Zo S1 S') {v : Int32} (hv : v = nI k) (h0 : v = 0 → gZ S' 14 34 ≠ 0 ∧ ∀ S2, Rq S1 S2 k cap → Q (FP.ddiv (FP.l2d (gZ S' 14 33)) (FP.l2d (gZ S' 14 34))) S2) (h1 : ¬ v = 0 → ∀ S2, Rq S1 S2 k cap → Q FP.dconst0 S2) : wX9_rate_124 Q 14 14 v S' := by
  have h' := hz.inw h (by omega)
  have hF := h'.1.1
  refine ⟨fn_14 hF, fk_14 hF, fun S3 e3 => ?_⟩
  have t3 : gX S3 14 32 = v := by rw [e3, x_sX, if_pos ⟨rfl, rfl⟩]
  have hR : Rq S1 S3 k cap := by rw [e3]; exact rq_zo h hcap hz hv
  have hZ : gZ S3 = gZ S' := by rw [e3]; rfl
  rw [t3, hZ]
  refine ⟨by rw [e3]; exact fn_14 hF, by rw [e3]; exact fk_14 hF, fun w => ⟨fd_div _ (h0 w).1, (h0 w).2 S3 hR⟩, fun w => h1 w S3 hR⟩
theorem rate_ref {S : GS} {cap n E P lg pl : Nat} {oP oM : Option Nat} {dP : Int32 × Int32} {x : Int32} {A B : Int64} (h : Inw S cap n E P lg pl oP oM dP) (hcap : cap < 48) (hx : (x = 0 ∧ A = sumA S E ∧ B = sumB S E) ∨ (x = 1 ∧ A = sumO S E ∧ B = (spn S n).1)) : ∀ S1', Oa S S1' → (B ≠ 0 → wX9_rate S1' 14 x (fun b S2 => b = FP.ddiv (FP.l2d A) (FP.l2d B) ∧ Rq S1' S2 0 cap)) ∧ (B = 0 → wX9_rate S1' 14 x (fun _ S2 => Rq S1' S2 2 cap)) := by
  intro S1' ha
  have h1 := h.oa (by omega) ha
  have hxx : ∀ k j, k ≠ 14 → gX S1' k j = gX S k j := fun k j _ => by rw [ha.X]
  have eq : ∀ S' : GS, (x = 0 → gZ S' 14 33 = sumA S1' E ∧ gZ S' 14 34 = sumB S1' E) → (x = 1 → gZ S' 14 33 = sumO S1' E ∧ gZ S' 14 34 = (spn S1' n).1) → gZ S' 14 33 = A ∧ gZ S' 14 34 = B := by
    intro S' g0 g1
    rcases hx with ⟨w, wa, wb⟩ | ⟨w, wa, wb⟩
    · rw [(g0 w).1, (g0 w).2, wa, wb, sumA_X hxx, sumB_X hxx]; exact ⟨rfl, rfl⟩
    · rw [(g1 w).1, (g1 w).2, wa, wb, sumO_X hxx, spn_X hxx]; exact ⟨rfl, rfl⟩
  have x0 : ¬ x < 0 := by rcases hx with ⟨w, _⟩ | ⟨w, _⟩ <;> rw [w] <;> decide
  have x1 : x ≤ 1 := by rcases hx with ⟨w, _⟩ | ⟨w, _⟩ <;> rw [w] <;> decide
  refine ⟨fun hB => q_rate9 h1 (by omega) (fun S' hz g0 g1 => ?_), fun hB => q_rate9 h1 (by omega) (fun S' hz g0 g1 => ?_)⟩
  · obtain ⟨ea, eb⟩ := eq S' g0 g1
    have h' := hz.inw h1 (by omega)
    refine ⟨fun w => absurd w x0, fun _ => ⟨fun _ => ⟨fn_14 h'.1.1, fk_14 h'.1.1, fun _ => q_r124 (k := 0) h1 hcap hz (by decide) (fun _ => ⟨by rw [eb]; exact hB, fun S2 hR => ⟨by rw [ea, eb], hR⟩⟩) (fun w => absurd rfl w), fun w => absurd ((lg_cmp_eq _ _).mp w) (by rw [eb]; exact hB)⟩, fun w => absurd x1 w⟩⟩
  · obtain ⟨ea, eb⟩ := eq S' g0 g1
    have h' := hz.inw h1 (by omega)
    refine ⟨fun w => absurd w x0, fun _ => ⟨fun _ => ⟨fn_14 h'.1.1, fk_14 h'.1.1, fun w => absurd ((lg_cmp_eq _ _).mpr (by rw [eb]; exact hB)) w, fun _ => q_r124 (k := 2) h1 hcap hz (by decide) (fun w => absurd w (by decide)) (fun _ S2 hR => hR)⟩, fun w => absurd x1 w⟩⟩
theorem rate_ok {S : GS} {cap n E P lg pl : Nat} {oP oM : Option Nat} {dP : Int32 × Int32} {x : Int32} (h : Inw S cap n E P lg pl oP oM dP) (hcap : cap < 48) : wX8_rate S 0 x (fun r S1 => vf_n64 r ∧ ∀ S1', Oa S1 S1' → wX9_rate S1' 14 x (fun b S2 => b = r ∧ Rq S1' S2 0 cap)) (fun X S1 => (X = "java/lang/IllegalArgumentException" ∧ ∀ S1', Oa S1 S1' → wX9_rate S1' 14 x (fun _ S2 => Rq S1' S2 1 cap)) ∨ (X = "java/lang/IllegalStateException" ∧ ∀ S1', Oa S1 S1' → wX9_rate S1' 14 x (fun _ S2 => Rq S1' S2 2 cap))) := by
  obtain ⟨⟨hF, hcl⟩, i2, i3, i4, i5, i6, i7, i8, i9, i10, i11, i12⟩ := id h
  have e62 : ∀ A B : Int64, ((x = 0 ∧ A = sumA S E ∧ B = sumB S E) ∨ (x = 1 ∧ A = sumO S E ∧ B = (spn S n).1)) → wX8_rate_62 (fun r S1 => vf_n64 r ∧ ∀ S1', Oa S1 S1' → wX9_rate S1' 14 x (fun b S2 => b = r ∧ Rq S1' S2 0 cap)) (fun X S1 => (X = "java/lang/IllegalArgumentException" ∧ ∀ S1', Oa S1 S1' → wX9_rate S1' 14 x (fun _ S2 => Rq S1' S2 1 cap)) ∨ (X = "java/lang/IllegalStateException" ∧ ∀ S1', Oa S1 S1' → wX9_rate S1' 14 x (fun _ S2 => Rq S1' S2 2 cap))) 0 A B S := by
    intro A B hx
    refine ⟨fun z => ?_, fun z => Or.inr ⟨rfl, fun S1' ha => (rate_ref h hcap hx S1' ha).2 ((lg_cmp_eq _ _).mp z)⟩⟩
    have hB : B ≠ 0 := fun w => z ((lg_cmp_eq _ _).mpr w)
    exact ⟨fd_div _ hB, fd_div _ hB, fun S1' ha => (rate_ref h hcap hx S1' ha).1 hB⟩
  have e0 : x = 0 → wX8_rate_19 (fun r S1 => vf_n64 r ∧ ∀ S1', Oa S1 S1' → wX9_rate S1' 14 x (fun b S2 => b = r ∧ Rq S1' S2 0 cap)) (fun X S1 => (X = "java/lang/IllegalArgumentException" ∧ ∀ S1', Oa S1 S1' → wX9_rate S1' 14 x (fun _ S2 => Rq S1' S2 1 cap)) ∨ (X = "java/lang/IllegalStateException" ∧ ∀ S1', Oa S1 S1' → wX9_rate S1' 14 x (fun _ S2 => Rq S1' S2 2 cap))) 0 x S := by
    intro x0
    exact ⟨fun w => absurd x0 w, fun _ => ⟨fn_0 hF, fk_0 hF, 13, fr_0_6 hF, fn_13 hF, fk_13 hF, fun w => absurd x0 w, fun _ => ⟨fn_0 hF, fk_0 hF, 13, fr_0_6 hF, fn_13 hF, fk_13 hF, e62 _ _ (Or.inl ⟨x0, i9.2.2.2.1, i9.2.2.2.2.1⟩)⟩⟩⟩
  refine ⟨e0, fun x0 => ⟨fun x1 => ?_, fun x1 => Or.inl ⟨rfl, fun S1' ha => ?_⟩⟩⟩
  · refine ⟨fun _ => ⟨fn_0 hF, fk_0 hF, 13, fr_0_6 hF, fn_13 hF, fk_13 hF, fun _ => ⟨fn_0 hF, fk_0 hF, 12, fr_0_5 hF, fn_12 hF, fk_12 hF, fn_12 hF, fk_12 hF, fun _ => ?_⟩, fun w => absurd w x0⟩, fun w => absurd w x0⟩
    exact e62 _ _ (Or.inr ⟨x1, i9.2.2.1, i10.1⟩)
  · have h1 := h.oa (by omega) ha
    refine q_rate9 h1 (by omega) (fun S' hz g0 g1 => ?_)
    have bad := q_r124 (Q := fun _ S2 => Rq S1' S2 1 cap) (k := 1) (v := 1) h1 hcap hz (by decide) (fun w => absurd w (by decide)) (fun _ S2 hR => hR)
    refine ⟨fun _ => bad, fun n0 => ⟨fun n1 => ?_, fun _ => bad⟩⟩
    exfalso
    have v1 : (1 : Int32).toInt = 1 := by decide
    have a1 := le_32 (Int32.not_lt.mp n0)
    have a2 := le_32 n1
    rw [t0] at a1
    rw [v1] at a2
    by_cases w : x.toInt = 0
    · exact x0 (Int32.toInt_inj.mp (w.trans t0.symm))
    · exact x1 (Int32.toInt_inj.mp ((show x.toInt = 1 by omega).trans v1.symm))
