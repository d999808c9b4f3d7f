/-! THE CLASS READS NUMBERS. -/
theorem pg_gt (T : Nat → Int32) (n p : Nat) : pg T n p = true ↔ 48 ≤ gt T n p ∧ gt T n p ≤ 57 := by
  rw [pg_iff]
  unfold gt
  by_cases h : p < n
  · rw [if_pos h]; exact ⟨fun a => a.2, fun a => ⟨h, a⟩⟩
  · rw [if_neg h]; exact ⟨fun a => absurd a.1 h, fun a => absurd a.1 (by decide)⟩
theorem gt_of_pg {T : Nat → Int32} {n p : Nat} (h : pg T n p = true) : gt T n p = T p ∧ p < n := by
  have := (pg_iff _ _ _).mp h
  unfold gt
  rw [if_pos this.1]
  exact ⟨rfl, this.1⟩
theorem q_num81_ok {S0 S : GS} {rq n p : Nat} {v : Int32} {e : Nat → Int32} {Q : Int32 → GS → Prop} (h : Rw S0 S rq n 0 p e) (hv : v ≠ -1) (hQ : ∀ S2, Rw S0 S2 rq n 0 p e → Q v S2) : wX4_number_81 Q rq v S := by
  have hrd := h.rd
  have hb := h.2.2.1
  unfold wX4_number_81 wX4_number_94 wX4_number_99
  refine ⟨hrd.1, hrd.2, fun a => absurd hb a, fun _ => ⟨fun _ => ⟨hrd.1, hrd.2, Or.inl rfl, fun S4 e4 => hQ S4 ?_⟩, fun a => absurd a hv⟩⟩
  subst e4
  exact h.brk 0
theorem q_num81_bad {S0 S : GS} {rq n p : Nat} {b v : Int32} {e : Nat → Int32} {Q : Int32 → GS → Prop} (h : Rw S0 S rq n b p e) (hv : b ≠ 0 ∨ v = -1) (hQ : ∀ S2, Rw S0 S2 rq n 1 p e → Q v S2) : wX4_number_81 Q rq v S := by
  have hrd := h.rd
  have hb := h.2.2.1
  unfold wX4_number_81 wX4_number_94 wX4_number_99
  have hq : ∀ S4, S4 = sX S rq 1 1 → Q v S4 := by
    intro S4 e4
    subst e4
    exact hQ _ (h.brk 1)
  refine ⟨hrd.1, hrd.2, fun _ => ⟨hrd.1, hrd.2, Or.inr rfl, hq⟩, fun a => ⟨fun a2 => ?_, fun _ => ⟨hrd.1, hrd.2, Or.inr rfl, hq⟩⟩⟩
  exfalso
  rcases hv with hv | hv
  · exact hv (hb.symm.trans a)
  · exact a2 hv
theorem dig_bounds {c v : Int32} {k : Int} (h1 : 48 ≤ c) (h2 : c ≤ 57) (hv0 : 0 ≤ v.toInt) (hv : v.toInt < k) (hk : k ≤ 10000) : (10 * v + c - 48).toInt = 10 * v.toInt + (c.toInt - 48) ∧ 48 ≤ c.toInt ∧ c.toInt ≤ 57 := by
  have a1 : (48 : Int) ≤ c.toInt := Int32.le_iff_toInt_le.mp h1
  have a2 : c.toInt ≤ (57 : Int) := Int32.le_iff_toInt_le.mp h2
  have e10 : (10 : Int32).toInt = 10 := by decide
  have e48 : (48 : Int32).toInt = 48 := by decide
  have m1 : (10 * v).toInt = 10 * v.toInt := by
    rw [i32_mul] <;> rw [e10] <;> omega
  have m2 : (10 * v + c).toInt = 10 * v.toInt + c.toInt := by
    rw [i32_add] <;> rw [m1] <;> omega
  refine ⟨?_, a1, a2⟩
  rw [i32_sub] <;> rw [m2, e48] <;> omega
theorem q_num_loop {S0 : GS} {rq n m : Nat} {e : Nat → Int32} {Q : Int32 → GS → Prop} (hm : m ≤ 5) : ∀ (r i p : Nat) (v : Int32) (S : GS), i + r = m → 1 ≤ i → 0 < v.toInt → v.toInt < 10 ^ i → Rw S0 S rq n 0 p e → (∀ S2, Rw S0 S2 rq n 0 (rdg (gX S0 2) n r p v).1 e → Q (rdg (gX S0 2) n r p v).2 S2) → wX4_number_4 Q rq (r + 1) (nI m) v (nI i) S := by
  intro r
  induction r with
  | zero =>
    intro i p v S hi h1 hv0 hv h hQ
    have ei : i = m := by omega
    subst ei
    have hvn : v ≠ -1 := by intro a; rw [a] at hv0; exact absurd hv0 (by decide)
    unfold wX4_number_4
    exact ⟨fun _ => q_num81_ok h hvn hQ, fun hh => absurd ((nj_le (by omega) (by omega)).mpr (Nat.le_refl _)) hh⟩
  | succ r ih =>
    intro i p v S hi h1 hv0 hv h hQ
    have hvn : v ≠ -1 := by intro a; rw [a] at hv0; exact absurd hv0 (by decide)
    have hvz : v ≠ 0 := by intro a; rw [a] at hv0; exact absurd hv0 (by decide)
    have hvg : ¬ v < 0 := by
      intro a
      have := Int32.lt_iff_toInt_lt.mp a
      have e0 : (0 : Int32).toInt = 0 := by decide
      rw [e0] at this
      omega
    have hrd := h.rd
    unfold wX4_number_4
    refine ⟨fun hh => absurd ((nj_le (by omega) (by omega)).mp hh) (by omega), fun _ => ⟨fun a => absurd a hvz, fun _ => ⟨hrd.1, hrd.2, fun a => absurd h.2.2.1 a, fun _ => ⟨1, h.tx, fn_1 h.fix, fk_1 h.fix, q_getr h (fun _ => ?_)⟩⟩⟩⟩
    unfold rdg at hQ
    by_cases hp : pg (gX S0 2) n p = true
    · rw [if_pos hp] at hQ
      have hc := (pg_gt _ _ _).mp hp
      have hg := gt_of_pg hp
      refine ⟨fun a => absurd hc.1 (Int32.not_le.mpr a), fun _ => ⟨fun _ => ?_, fun a => absurd hc.2 a⟩⟩
      intro S21 e21
      rw [if_neg hvg, nj_succ]
      have hk : (10 : Int) ^ i ≤ 10000 := by
        have : i = 1 ∨ i = 2 ∨ i = 3 ∨ i = 4 := by omega
        rcases this with a | a | a | a <;> subst a <;> decide
      rw [hg.1] at hc ⊢
      have hb := dig_bounds hc.1 hc.2 (by omega) hv hk
      have ev : v * 10 + gX S0 2 p - 48 = 10 * v + gX S0 2 p - 48 := by rw [Int32.mul_comm]
      rw [ev]
      refine ih (i + 1) (p + 1) _ S21 (by omega) (by omega) ?_ ?_ ?_ hQ
      · rw [hb.1]; omega
      · rw [hb.1, Int.pow_succ]; omega
      · subst e21
        exact h.adv (by omega)
    · rw [if_neg hp] at hQ
      have hn : ¬ (48 ≤ gt (gX S0 2) n p ∧ gt (gX S0 2) n p ≤ 57) := fun a => hp ((pg_gt _ _ _).mpr a)
      refine ⟨fun _ => q_num81_ok h hvn hQ, fun a => ⟨fun a2 => absurd ⟨Int32.not_lt.mp a, a2⟩ hn, fun _ => q_num81_ok h hvn hQ⟩⟩
theorem pe_num (T : Nat → Int32) (n : Nat) {m : Nat} (h1 : 1 ≤ m) (h5 : m ≤ 5) (p : Nat) : pe T n (nI (200 + m)) p = ((rdg T n (if p < n ∧ T p = 48 then 1 else m) p 0).1, [(rdg T n (if p < n ∧ T p = 48 then 1 else m) p 0).2]) ∧ nI (200 + m) ≠ 300 := by
  have a : ¬ nI (200 + m) < 200 ∧ nI (200 + m) ≠ 400 ∧ nI (200 + m) ≠ 300 ∧ (nI (200 + m) - 200).toNatClampNeg = m := by
    have : m = 1 ∨ m = 2 ∨ m = 3 ∨ m = 4 ∨ m = 5 := by omega
    rcases this with b | b | b | b | b <;> subst b <;> decide
  refine ⟨?_, a.2.2.1⟩
  unfold pe pm
  rw [if_neg a.1, if_neg a.2.1, if_neg a.2.2.1, a.2.2.2]
theorem r_snoc_num {T : Nat → Int32} {n : Nat} {P : List Int32} {m : Nat} (h1 : 1 ≤ m) (h5 : m ≤ 5) (h : rok T n P = true) (d : Nat) (hd : d = if rto T n P < n ∧ T (rto T n P) = 48 then 1 else m) : ((rdg T n d (rto T n P) 0).1 = rto T n P → rok T n (P ++ [nI (200 + m)]) = false ∧ rto T n (P ++ [nI (200 + m)]) = rto T n P) ∧ ((rdg T n d (rto T n P) 0).1 ≠ rto T n P → rok T n (P ++ [nI (200 + m)]) = true ∧ rto T n (P ++ [nI (200 + m)]) = (rdg T n d (rto T n P) 0).1 ∧ rnm T n (P ++ [nI (200 + m)]) = rnm T n P ++ [(rdg T n d (rto T n P) 0).2]) := by
  obtain ⟨e1, e2⟩ := pe_num T n h1 h5 (rto T n P)
  rw [← hd] at e1
  obtain ⟨a, b, c⟩ := r_app_t [nI (200 + m)] h
  rw [rch_cons] at a b c
  refine ⟨fun hh => ?_, fun hh => ?_⟩
  · have hpf : pf T n (nI (200 + m)) (rto T n P) = true := by simp [pf, e1, hh]
    rw [if_pos hpf] at a b
    rw [e1] at b
    exact ⟨a, b.trans hh⟩
  · have hpf : ¬ pf T n (nI (200 + m)) (rto T n P) = true := by simp [pf, e1, hh, e2]
    rw [if_neg hpf, rch_nil] at a b c
    rw [e1] at b c
    exact ⟨a, b, c⟩
theorem rr_f {S0 S : GS} {rq n : Nat} {P : List Int32} {e : Nat → Int32} (h : Rr S0 S rq n P e) (hb : ¬ gX S rq 1 = 0) : rok (gX S0 2) n P = false := by
  cases hr : rok (gX S0 2) n P with
  | false => rfl
  | true =>
    exfalso; apply hb
    have := h.2.2.1
    rw [hr] at this
    simpa using this
theorem rr_t {S0 S : GS} {rq n : Nat} {P : List Int32} {e : Nat → Int32} (h : Rr S0 S rq n P e) (hb : gX S rq 1 = 0) : rok (gX S0 2) n P = true := by
  cases hr : rok (gX S0 2) n P with
  | true => rfl
  | false =>
    exfalso
    have := h.2.2.1
    rw [hr, hb] at this
    exact absurd this (by decide)
theorem q_number {S0 S : GS} {rq n : Nat} (m : Nat) {P : List Int32} {e : Nat → Int32} {Q : Int32 → GS → Prop} (h1 : 1 ≤ m) (h5 : m ≤ 5) (h : Rr S0 S rq n P e) (hQ : ∀ S2 v, Rr S0 S2 rq n (P ++ [nI (200 + m)]) e → (rok (gX S0 2) n (P ++ [nI (200 + m)]) = true → rnm (gX S0 2) n (P ++ [nI (200 + m)]) = rnm (gX S0 2) n P ++ [v]) → Q v S2) : wX4_number S rq (nI m) Q := by
  have hrd := h.rd
  refine ⟨m + 1, ?_⟩
  unfold wX4_number_4
  have hx1 : ¬ nI m ≤ 0 := by
    have := @nj_le m 0 (by omega) (by omega)
    intro a
    exact absurd (this.mp a) (by omega)
  refine ⟨fun a => absurd a hx1, fun _ => ⟨fun a => absurd a (by decide), fun _ => ⟨hrd.1, hrd.2, fun hb => ?_, fun hb => ⟨1, h.tx, fn_1 h.fix, fk_1 h.fix, q_getr h (fun _ => ?_)⟩⟩⟩⟩
  · have hf := rr_f h hb
    have hff := r_app_f [nI (200 + m)] hf
    refine q_num81_bad h (Or.inr rfl) (fun S2 h2 => hQ S2 _ ?_ (fun a => ?_))
    · unfold Rr
      rw [hff.1, hff.2]
      exact h2
    · rw [hff.1] at a; exact absurd a (by decide)
  · have ht := rr_t h hb
    have h0 : Rw S0 S rq n 0 (rto (gX S0 2) n P) e := by
      have := h
      unfold Rr at this
      rw [ht, if_pos rfl] at this
      exact this
    generalize hpp : rto (gX S0 2) n P = p at *
    have hsn := r_snoc_num h1 h5 ht _ rfl
    rw [hpp] at hsn
    by_cases hp : pg (gX S0 2) n p = true
    · have hc := (pg_gt _ _ _).mp hp
      have hg := gt_of_pg hp
      refine ⟨fun a => absurd hc.1 (Int32.not_le.mpr a), fun _ => ⟨fun _ => ?_, fun a => absurd hc.2 a⟩⟩
      intro S21 e21
      have hR21 : Rw S0 S21 rq n 0 (p + 1) e := by
        subst e21
        exact h0.adv (by omega)
      rw [hg.1] at hc ⊢
      have ev : ((if (-1 : Int32) < 0 then 0 else -1) * 10 + gX S0 2 p - 48) = 10 * 0 + gX S0 2 p - 48 := by
        rw [if_pos (by decide)]
        rfl
      rw [ev]
      have e0 : (0 : Int32).toInt = 0 := by decide
      have hb := dig_bounds (v := 0) (k := 1) hc.1 hc.2 (by rw [e0]; omega) (by rw [e0]; omega) (by omega)
      rw [e0] at hb
      by_cases h48 : gX S0 2 p = 48
      · rw [if_pos ⟨hg.2, h48⟩] at hsn
        have erd : rdg (gX S0 2) n 1 p 0 = (p + 1, 10 * 0 + gX S0 2 p - 48) := by simp [rdg, hp]
        rw [erd] at hsn
        have hs2 := hsn.2 (by simp)
        have hfin : ∀ S2, Rw S0 S2 rq n 0 (p + 1) e → Q (10 * 0 + gX S0 2 p - 48) S2 := by
          intro S2 h2
          refine hQ S2 _ ?_ (fun _ => hs2.2.2)
          unfold Rr
          rw [hs2.1, hs2.2.1, if_pos rfl]
          exact h2
        have hz : 10 * 0 + gX S0 2 p - 48 = 0 := by rw [h48]; decide
        have hnn : 10 * 0 + gX S0 2 p - 48 ≠ -1 := by rw [hz]; decide
        obtain ⟨m', rfl⟩ : ∃ m', m = m' + 1 := ⟨m - 1, by omega⟩
        unfold wX4_number_4
        exact ⟨fun _ => q_num81_ok hR21 hnn hfin, fun _ => ⟨fun _ => q_num81_ok hR21 hnn hfin, fun a => absurd hz a⟩⟩
      · rw [if_neg (fun a => h48 a.2)] at hsn
        obtain ⟨m', rfl⟩ : ∃ m', m = m' + 1 := ⟨m - 1, by omega⟩
        have erd : rdg (gX S0 2) n (m' + 1) p 0 = rdg (gX S0 2) n m' (p + 1) (10 * 0 + gX S0 2 p - 48) := by
          rw [rdg, if_pos hp]
        rw [erd] at hsn
        have hge := rdg_ge (gX S0 2) n m' (p + 1) (10 * 0 + gX S0 2 p - 48)
        have hs2 := hsn.2 (by omega)
        have hgt : 0 < (10 * 0 + gX S0 2 p - 48).toInt := by
          rw [hb.1]
          have : (gX S0 2 p).toInt ≠ 48 := by
            intro a
            apply h48
            apply Int32.toInt_inj.mp
            rw [a]
            decide
          omega
        have e1 : (0 : Int32) + 1 = nI 1 := by decide
        rw [e1]
        refine q_num_loop h5 m' 1 (p + 1) _ S21 (by omega) (by omega) hgt (by rw [hb.1]; omega) hR21 (fun S2 h2 => hQ S2 _ ?_ (fun _ => hs2.2.2))
        unfold Rr
        rw [hs2.1, hs2.2.1, if_pos rfl]
        exact h2
    · have hn : ¬ (48 ≤ gt (gX S0 2) n p ∧ gt (gX S0 2) n p ≤ 57) := fun a => hp ((pg_gt _ _ _).mpr a)
      have erd : ∀ d, rdg (gX S0 2) n d p 0 = (p, 0) := by
        intro d
        cases d with
        | zero => rfl
        | succ d => rw [rdg, if_neg hp]
      rw [erd] at hsn
      have hs2 := hsn.1 rfl
      have hbad : wX4_number_81 Q rq (-1) S := by
        refine q_num81_bad h0 (Or.inr rfl) (fun S2 h2 => hQ S2 _ ?_ (fun a => ?_))
        · unfold Rr
          rw [hs2.1, hs2.2]
          exact h2
        · rw [hs2.1] at a; exact absurd a (by decide)
      exact ⟨fun _ => hbad, fun a => ⟨fun a2 => absurd ⟨Int32.not_lt.mp a, a2⟩ hn, fun _ => hbad⟩⟩
theorem pe201 (T : Nat → Int32) (n p : Nat) : pe T n (nI 201) p = (if pg T n p = true then (p + 1, [10 * 0 + T p - 48]) else (p, [0])) := by
  have h := (pe_num T n (m := 1) (by omega) (by omega) p).1
  rw [show (if p < n ∧ T p = 48 then 1 else 1) = 1 by split <;> rfl] at h
  rw [show 200 + 1 = 201 by rfl] at h
  rw [h]
  by_cases hp : pg T n p = true
  · simp [rdg, hp]
  · simp [rdg, hp]
theorem pe300 (T : Nat → Int32) (n p : Nat) : pe T n 300 p = ((rdg T n 3 p 0).1, [(rdg T n 3 p 0).2]) := by
  unfold pe pm
  rw [if_neg (by decide), if_neg (by decide), if_pos rfl]
theorem ring3 (x y z : Int32) : 10 * (10 * (10 * 0 + x - 48) + y - 48) + z - 48 = 10 * (10 * (10 * 0 + x - 48) + (10 * 0 + y - 48)) + (10 * 0 + z - 48) := by grind
theorem ring4 (a x y z : Int32) : ((a * 10 + x) * 10 + y) * 10 + z = 1000 * a + (10 * (10 * x + y) + z) := by grind
theorem three (T : Nat → Int32) (n p : Nat) : (rch T n [nI 201, nI 201, nI 201] p []).1 = (rch T n [300] p []).1 ∧ (rch T n [nI 201, nI 201, nI 201] p []).2.1 = (rch T n [300] p []).2.1 ∧ ((rch T n [300] p []).1 = true → ∃ x y z, (rch T n [nI 201, nI 201, nI 201] p []).2.2 = [x, y, z] ∧ (rch T n [300] p []).2.2 = [10 * (10 * x + y) + z]) := by
  have hne : ¬ (nI 201 = 300) := by decide
  by_cases h0 : pg T n p = true
  · by_cases h1 : pg T n (p + 1) = true
    · by_cases h2 : pg T n (p + 1 + 1) = true
      · have a1 : rch T n [nI 201, nI 201, nI 201] p [] = (true, p + 1 + 1 + 1, [10 * 0 + T p - 48, 10 * 0 + T (p + 1) - 48, 10 * 0 + T (p + 1 + 1) - 48]) := by
          simp [rch, pf, pe201, h0, h1, h2, hne]
        have a2 : rch T n [300] p [] = (true, p + 1 + 1 + 1, [10 * (10 * (10 * 0 + T p - 48) + T (p + 1) - 48) + T (p + 1 + 1) - 48]) := by
          simp [rch, pf, pe300, rdg, h0, h1, h2]
          omega
        rw [a1, a2]
        exact ⟨rfl, rfl, fun _ => ⟨_, _, _, rfl, by rw [ring3]⟩⟩
      · have a1 : rch T n [nI 201, nI 201, nI 201] p [] = (false, p + 1 + 1, [10 * 0 + T p - 48, 10 * 0 + T (p + 1) - 48, 0]) := by
          simp [rch, pf, pe201, h0, h1, h2, hne]
        have a2 : rch T n [300] p [] = (false, p + 1 + 1, [10 * (10 * 0 + T p - 48) + T (p + 1) - 48]) := by
          simp [rch, pf, pe300, rdg, h0, h1, h2]
        rw [a1, a2]
        exact ⟨rfl, rfl, fun a => absurd a (by simp)⟩
    · have a1 : rch T n [nI 201, nI 201, nI 201] p [] = (false, p + 1, [10 * 0 + T p - 48, 0]) := by
        simp [rch, pf, pe201, h0, h1, hne]
      have a2 : rch T n [300] p [] = (false, p + 1, [10 * 0 + T p - 48]) := by
        simp [rch, pf, pe300, rdg, h0, h1]
      rw [a1, a2]
      exact ⟨rfl, rfl, fun a => absurd a (by simp)⟩
  · have a1 : rch T n [nI 201, nI 201, nI 201] p [] = (false, p, [0]) := by
      simp [rch, pf, pe201, h0]
    have a2 : rch T n [300] p [] = (false, p, [0]) := by
      simp [rch, pf, pe300, rdg, h0]
    rw [a1, a2]
    exact ⟨rfl, rfl, fun a => absurd a (by simp)⟩
theorem q_decimal {S0 S : GS} {rq n : Nat} (m : Nat) {P : List Int32} {e : Nat → Int32} {Q : Int32 → GS → Prop} (h1 : 1 ≤ m) (h5 : m ≤ 5) (h : Rr S0 S rq n P e) (hQ : ∀ S2 v, Rr S0 S2 rq n (P ++ [nI (200 + m), 46, 300]) e → (rok (gX S0 2) n (P ++ [nI (200 + m), 46, 300]) = true → ∃ a b, rnm (gX S0 2) n (P ++ [nI (200 + m), 46, 300]) = rnm (gX S0 2) n P ++ [a, b] ∧ v = 1000 * a + b) → Q v S2) : wX4_decimal S rq (nI m) Q := by
  refine ⟨h.rd.1, h.rd.2, q_number m h1 h5 h (fun S9 a h9 hn9 _ => q_passw 51 [46] (by decide) (by decide +kernel) h9 (fun S13 h13 _ => ⟨4, ?_⟩))⟩
  rw [List.append_assoc] at h13
  have e1 : (1 : Int32) = nI 1 := by decide
  have c0 : ¬ (3 : Int32) ≤ 0 := by decide
  have c1 : ¬ (3 : Int32) ≤ 0 + 1 := by decide
  have c2 : ¬ (3 : Int32) ≤ 0 + 1 + 1 := by decide
  have c3 : (3 : Int32) ≤ 0 + 1 + 1 + 1 := by decide
  unfold wX4_decimal_14
  refine ⟨fun a => absurd a c0, fun _ => ⟨h13.rd.1, h13.rd.2, ?_⟩⟩
  have hnum : ∀ {S : GS} {P' : List Int32} {Q : Int32 → GS → Prop}, Rr S0 S rq n P' e → (∀ S2 v, Rr S0 S2 rq n (P' ++ [nI 201]) e → (rok (gX S0 2) n (P' ++ [nI 201]) = true → rnm (gX S0 2) n (P' ++ [nI 201]) = rnm (gX S0 2) n P' ++ [v]) → Q v S2) → wX4_number S rq 1 Q := by
    intro S P' Q hh hq
    rw [e1]
    exact q_number 1 (by omega) (by omega) hh hq
  refine hnum h13 (fun S14 v1 h14 hn14 _ => ?_)
  unfold wX4_decimal_14
  refine ⟨fun a => absurd a c1, fun _ => ⟨h14.rd.1, h14.rd.2, ?_⟩⟩
  refine hnum h14 (fun S15 v2 h15 hn15 _ => ?_)
  unfold wX4_decimal_14
  refine ⟨fun a => absurd a c2, fun _ => ⟨h15.rd.1, h15.rd.2, ?_⟩⟩
  refine hnum h15 (fun S16 v3 h16 hn16 _ => ?_)
  unfold wX4_decimal_14
  refine ⟨fun _ => ?_, fun a => absurd c3 a⟩
  generalize hP2 : P ++ ([nI (200 + m)] ++ [46]) = P2 at *
  have eP : P ++ [nI (200 + m), 46, 300] = P2 ++ [300] := by rw [← hP2]; simp
  have eA : P2 ++ [nI 201] ++ [nI 201] ++ [nI 201] = P2 ++ [nI 201, nI 201, nI 201] := by simp
  rw [eA] at h16 hn16
  rw [eP] at hQ
  cases hk : rok (gX S0 2) n P2 with
  | false =>
    have f1 := r_app_f [300] hk
    have f2 := r_app_f [nI 201, nI 201, nI 201] hk
    refine hQ S16 _ (h16.go ?_ ?_) (fun a => ?_)
    · rw [f1.1, f2.1]
    · rw [f1.2, f2.2]
    · rw [f1.1] at a; exact absurd a (by decide)
  | true =>
    have g1 := r_app_t [300] hk
    have g2 := r_app_t [nI 201, nI 201, nI 201] hk
    obtain ⟨t1, t2, t3⟩ := three (gX S0 2) n (rto (gX S0 2) n P2)
    refine hQ S16 _ (h16.go ?_ ?_) (fun hok => ?_)
    · rw [g1.1, g2.1, t1]
    · rw [g1.2.1, g2.2.1, t2]
    · rw [g1.1] at hok
      obtain ⟨x, y, z, u1, u2⟩ := t3 hok
      have hok3 : rok (gX S0 2) n (P2 ++ [nI 201, nI 201, nI 201]) = true := by rw [g2.1, t1]; exact hok
      have hok2 : rok (gX S0 2) n (P2 ++ [nI 201] ++ [nI 201]) = true := r_pre (A := [nI 201]) (by rw [eA]; exact hok3)
      have hok1 : rok (gX S0 2) n (P2 ++ [nI 201]) = true := r_pre hok2
      have w1 := hn14 hok1
      have w2 := hn15 hok2
      have w3 := hn16 hok3
      rw [w2, w1, g2.2.2, u1] at w3
      have w4 : [x, y, z] = [v1, v2, v3] := by
        have : rnm (gX S0 2) n P2 ++ [x, y, z] = rnm (gX S0 2) n P2 ++ [v1, v2, v3] := by rw [w3]; simp
        exact List.append_cancel_left this
      have hokm : rok (gX S0 2) n (P ++ [nI (200 + m)]) = true := by
        apply r_pre (A := [46])
        rw [List.append_assoc, hP2]
        exact hk
      have w0 := hn9 hokm
      have w5 : rnm (gX S0 2) n P2 = rnm (gX S0 2) n P ++ [a] := by
        have g3 := r_app_t [46] hokm
        have : rok (gX S0 2) n (P ++ [nI (200 + m)] ++ [46]) = true := by rw [List.append_assoc, hP2]; exact hk
        rw [g3.1] at this
        rw [← hP2, ← List.append_assoc, g3.2.2, w0]
        by_cases hg : gt (gX S0 2) n (rto (gX S0 2) n (P ++ [nI (200 + m)])) = 46
        · have := lit_hit (by decide) hg
          rw [rch_hit _ _ _ _ _ _ (by decide) this.1 this.2, rch_nil]
          simp
        · rw [rch_miss _ _ _ _ _ _ (by decide) hg] at this
          exact absurd this (by simp)
      injection w4 with i1 w4
      injection w4 with i2 w4
      injection w4 with i3 w4
      refine ⟨a, 10 * (10 * v1 + v2) + v3, ?_, ring4 _ _ _ _⟩
      rw [g1.2.2, u2, w5, i1, i2, i3]
      simp
