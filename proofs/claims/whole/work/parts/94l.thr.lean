/-! DOUBLES, THROUGHPUT. -/
theorem fd_div (a : Int64) {b : Int64} (h : b ≠ 0) : vf_n64 (FP.ddiv (FP.l2d a) (FP.l2d b)) :=
  Jvm.Free.Fl.noNaN64_no.mpr (FP.Core.ddiv_out (FP.Core.l2d_notNaN a) (FP.Core.l2d_fin b) (fun z => absurd ((FP.Core.zero_bits2 _).mp z) (FP.Core.l2d_ne_zero h)))
theorem fd_one : FP.Core.DFin FP.dconst1 := ⟨false, 2 ^ 52, -52, FP.Core.val64_dconst1⟩
theorem fd_sub {x : UInt64} (h : vf_n64 x) : vf_n64 (FP.dsub FP.dconst1 x) :=
  Jvm.Free.Fl.noNaN64_no.mpr (FP.Core.dsub_out' fd_one (Jvm.Free.Fl.noNaN64_no.mp h))
theorem fd_cmp {x : UInt64} (h : vf_n64 x) : FP.dcmp x x = some .eq := FP.Core.dcmp_refl (Jvm.Free.Fl.noNaN64_no.mp h)
theorem ib64 {x : Int} (h1 : -9223372036854775808 ≤ x) (h2 : x < 9223372036854775808) : x.bmod (2 ^ 64) = x := by
  show x.bmod 18446744073709551616 = x
  rw [Int.bmod_def]
  split <;> omega
theorem i64_add {x y : Int64} (h1 : -9223372036854775808 ≤ x.toInt + y.toInt) (h2 : x.toInt + y.toInt < 9223372036854775808) : (x + y).toInt = x.toInt + y.toInt := by rw [Int64.toInt_add, ib64 h1 h2]
theorem i64_mul {x y : Int64} (h1 : -9223372036854775808 ≤ x.toInt * y.toInt) (h2 : x.toInt * y.toInt < 9223372036854775808) : (x * y).toInt = x.toInt * y.toInt := by rw [Int64.toInt_mul, ib64 h1 h2]
theorem rng_time {S : GS} {j : Nat} (h : Rng S j) : 0 ≤ (gX S 26 j).toInt ∧ (gX S 26 j).toInt ≤ 99999999 := by
  obtain ⟨s', k', c', r1, r2, r3, r4, r5, r6, r7⟩ := h
  exact r7.2.1
theorem spn_bd {S : GS} {n lg : Nat} (h4 : I4 S n lg) (hn : n ≤ 48) : ∀ j, j ≤ n → (-(100000000 * (j : Int)) ≤ (spn S j).1.toInt ∧ (spn S j).1.toInt ≤ 100000000 * (j : Int)) ∧ ∀ b, (spn S j).2 = some b → b < j ∧ gX S 20 b ≠ 0 := by
  intro j
  induction j with
  | zero => intro _; exact ⟨⟨by show -(100000000 * ((0 : Nat) : Int)) ≤ (0 : Int64).toInt; decide, by show (0 : Int64).toInt ≤ 100000000 * ((0 : Nat) : Int); decide⟩, fun b hb => by simp [spn] at hb⟩
  | succ j ih =>
    intro hj
    obtain ⟨⟨a1, a2⟩, a3⟩ := ih (by omega)
    by_cases z : gX S 20 j = 0
    · have e : spn S (j + 1) = spn S j := by rw [spn, if_pos z]
      rw [e]
      exact ⟨⟨by omega, by omega⟩, fun b hb => ⟨by have := (a3 b hb).1; omega, (a3 b hb).2⟩⟩
    · cases hb : (spn S j).2 with
      | none =>
        have e : spn S (j + 1) = ((spn S j).1, some j) := by rw [spn, if_neg z, hb]
        rw [e]
        refine ⟨⟨by simp only; omega, by simp only; omega⟩, fun b hb' => ?_⟩
        injection hb' with hb'
        subst hb'
        exact ⟨by omega, z⟩
      | some b =>
        obtain ⟨b1, b2⟩ := a3 b hb
        have e : spn S (j + 1) = (if gX S 19 b = gX S 19 j then (spn S j).1 + (gX S 26 j - gX S 26 b).toInt64 else (spn S j).1, some j) := by rw [spn, if_neg z, hb]
        rw [e]
        refine ⟨?_, fun b' hb' => ?_⟩
        · simp only
          split
          · obtain ⟨_, p1, _, _, p4, _⟩ := h4 j (by omega)
            obtain ⟨_, q1, _, _, q4, _⟩ := h4 b (by omega)
            have t1 := rng_time (p4 (p1.resolve_left z))
            have t2 := rng_time (q4 (q1.resolve_left b2))
            have hs : (gX S 26 j - gX S 26 b).toInt64.toInt = (gX S 26 j).toInt - (gX S 26 b).toInt := by rw [Int32.toInt_toInt64, i32_sub (by omega) (by omega)]
            rw [i64_add (by rw [hs]; omega) (by rw [hs]; omega), hs]
            exact ⟨by omega, by omega⟩
          · exact ⟨by omega, by omega⟩
        · injection hb' with hb'
          subst hb'
          exact ⟨by omega, z⟩
theorem spn_1000 {S : GS} {n lg : Nat} (h4 : I4 S n lg) (hn : n ≤ 48) (h : (spn S n).1 ≠ 0) : 1000 * (spn S n).1 ≠ 0 := by
  obtain ⟨⟨a1, a2⟩, _⟩ := spn_bd h4 hn n (Nat.le_refl _)
  have v1000 : (1000 : Int64).toInt = 1000 := by decide
  have v0 : (0 : Int64).toInt = 0 := by decide
  intro w
  have := congrArg Int64.toInt w
  rw [i64_mul (by rw [v1000]; omega) (by rw [v1000]; omega), v1000, v0] at this
  apply h
  apply Int64.toInt_inj.mp
  rw [v0]; omega
theorem sumT_X {S S' : GS} (h : ∀ k j, k ≠ 14 → gX S' k j = gX S k j) (i : Nat) : sumT S' i = sumT S i := by
  induction i with
  | zero => rfl
  | succ i ih => rw [sumT, sumT, ih, isP_X h, tkE_X h]
theorem q_thr9 {S : GS} {n E : Nat} {x1 : Int64} {Q : UInt64 → GS → Prop} (hF : Fix S) (hE : gX S 14 25 = nI E) (hE40 : E ≤ 40) (hn : n ≤ 512) (hv : Evc S n E) (hx : 1000 * x1 ≠ 0) (hQ : Q (FP.dsub FP.dconst1 (FP.ddiv (FP.l2d (sumT S E)) (FP.l2d (1000 * x1)))) S) : ∀ (r j : Nat), j + r = E → wX9_throughput_34 Q 14 (r + 1) x1 (sumT S j) (nI j) S := by
  intro r
  induction r with
  | zero =>
    intro j hj
    have ej : j = E := by omega
    subst ej
    unfold wX9_throughput_34
    rw [hE]
    exact ⟨fn_14 hF, fk_14 hF, fun _ => ⟨fd_div _ hx, fd_sub (fd_div _ hx), hQ⟩, fun z => absurd ((nj_le (by omega) (by omega)).mpr (Nat.le_refl _)) z⟩
  | succ r ih =>
    intro j hj
    obtain ⟨q, b, e, e1, e2, hb, he, h30, h31, hk, h9, hp9, hip⟩ := hv j (by omega)
    have hgo := ih (j + 1) (by omega)
    rw [sumT] at hgo
    have htk : tkO S b e = tkE S j := by unfold tkE; rw [h30, h31, nj_clamp (by omega), nj_clamp (by omega)]
    unfold wX9_throughput_34 wX9_throughput_62
    rw [hE, nj_succ]
    refine ⟨fn_14 hF, fk_14 hF, fun z => absurd ((nj_le (by omega) (by omega)).mp z) (by omega), fun _ => q_isPause9 hF (by omega) h31 (by omega) (fun z _ => ⟨fun y => absurd y (by decide), fun _ => q_tookOf hF (by omega) h30 h31 (by omega) (by omega) (fun _ => ?_)⟩) (fun z _ => ⟨fun _ => ?_, fun y => absurd rfl y⟩)⟩
    · rw [htk]
      rw [if_pos (hip.mpr z)] at hgo; exact hgo
    · rw [if_neg (fun w => z (hip.mp w))] at hgo; exact hgo
theorem throughput_ok {S : GS} {cap n E P lg pl : Nat} {oP oM : Option Nat} {dP : Int32 × Int32} (h : Inw S cap n E P lg pl oP oM dP) (hcap : cap < 48) : wX8_throughput S 0 (fun r S1 => vf_n64 r ∧ ∀ S1', Oa S1 S1' → wX9_throughput S1' 14 (fun b S2 => b = r ∧ Rq S1' S2 0 cap)) (fun X S1 => X = "java/lang/IllegalStateException" ∧ ∀ S1', Oa S1 S1' → wX9_throughput S1' 14 (fun _ S2 => Rq S1' S2 1 cap)) := by
  obtain ⟨⟨hF, hcl⟩, i2, i3, i4, i5, i6, i7, i8, i9, i10, i11, i12⟩ := id h
  have hE : E ≤ 24 := by have := i3.1; have := i3.2.1; have := i3.2.2.2.2.1; omega
  have hn : n ≤ 48 := by have := i3.1; have := i3.2.1; omega
  have hsp : ∀ S1', Oa S S1' → spn S1' n = spn S n := fun S1' ha => spn_X (fun k j _ => by rw [ha.X]) n
  unfold wX8_throughput wX7_span
  refine ⟨fn_0 hF, fk_0 hF, 12, fr_0_5 hF, fn_12 hF, fk_12 hF, fn_12 hF, fk_12 hF, ?_⟩
  rw [i10.1]
  refine fun _ => ⟨fun z => ⟨13, fr_0_6 hF, fn_13 hF, fk_13 hF, ?_⟩, fun z => ⟨rfl, fun S1' ha => ?_⟩⟩
  · have hz : (spn S n).1 ≠ 0 := fun w => z ((lg_cmp_eq _ _).mpr w)
    have hx := spn_1000 i4 hn hz
    rw [i9.2.1]
    refine ⟨fd_div _ hx, fd_sub (fd_div _ hx), fd_sub (fd_div _ hx), fun S1' ha => ?_⟩
    have h1 := h.oa (by omega) ha
    have f1 := h1.1.1
    refine ⟨fn_14 f1, fk_14 f1, q_span9 f1 h1.2.2.1.2.2.2.2.2.2.1 (by omega) h1.2.2.2.1 ?_⟩
    rw [hsp S1' ha]
    refine fun _ => ⟨fun _ => ⟨fn_14 f1, fk_14 f1, fun S9 e9 => ?_⟩, fun w => absurd w z⟩
    have t9 : gX S9 14 32 = 0 := by rw [e9, x_sX, if_pos ⟨rfl, rfl⟩]
    have h9 := h1.thr (by omega) 0
    rw [← e9] at h9
    have f9 := h9.1.1
    have x9 : ∀ k j, k ≠ 14 → gX S9 k j = gX S k j := by rw [e9]; exact thr_X ha 0
    have hR : Rq S1' S9 0 cap := by rw [e9]; exact rq_thr h1 hcap (by decide)
    rw [t9]
    refine ⟨fn_14 f9, fk_14 f9, fun _ => ⟨E + 1, ?_⟩, fun w => absurd rfl w⟩
    have z0 : (0 : Int32) = nI 0 := by decide
    rw [z0]
    refine q_thr9 f9 h9.2.2.2.2.2.1.2.1 (by omega) (by omega) h9.evc hx ⟨?_, hR⟩ E 0 (by omega)
    rw [sumT_X x9]
  · have h1 := h.oa (by omega) ha
    have f1 := h1.1.1
    refine ⟨fn_14 f1, fk_14 f1, q_span9 f1 h1.2.2.1.2.2.2.2.2.2.1 (by omega) h1.2.2.2.1 ?_⟩
    rw [hsp S1' ha]
    refine fun _ => ⟨fun w => absurd z w, fun _ => ⟨fn_14 f1, fk_14 f1, fun S9 e9 => ?_⟩⟩
    have t9 : gX S9 14 32 = 1 := by rw [e9, x_sX, if_pos ⟨rfl, rfl⟩]
    rw [t9]
    refine ⟨by rw [e9]; exact fn_14 f1, by rw [e9]; exact fk_14 f1, fun w => absurd w (by decide), fun _ => ?_⟩
    rw [e9]
    exact rq_thr h1 hcap (by decide)
