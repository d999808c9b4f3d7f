/-! THE CLASS READS A LINE. -/
theorem q_size {S0 S : GS} {rq n : Nat} {P : List Int32} {e : Nat → Int32} {Q : Int32 → GS → Prop} (h : Rr S0 S rq n P e) (hQ : ∀ S2 v, Rr S0 S2 rq n (P ++ mSz) e → (rok (gX S0 2) n (P ++ mSz) = true → ∃ a u, rnm (gX S0 2) n (P ++ mSz) = rnm (gX S0 2) n P ++ [a, u] ∧ v = if u = 1 then 1024 * a else a) → Q v S2) : wX4_size S rq Q := by
  have e4 : (4 : Int32) = nI 4 := by decide
  have e204 : nI (200 + 4) = 204 := by decide
  refine ⟨h.rd.1, h.rd.2, ?_⟩
  rw [e4]
  refine q_number 4 (by omega) (by omega) h (fun S9 a h9 hn9 _ => ⟨1, h9.tx, fn_1 h9.fix, fk_1 h9.fix, q_getr h9 (fun _ => ?_)⟩)
  rw [e204] at h9 hn9 ⊢
  have eP : P ++ mSz = P ++ [204] ++ [400] := by simp [mSz]
  rw [eP] at hQ
  unfold wX4_size_27 wX4_size_40 wX4_size_56
  cases hk : rok (gX S0 2) n (P ++ [204]) with
  | false =>
    have f1 := r_app_f [400] hk
    have hgo : ∀ S2 v (W : List Int32), Rr S0 S2 rq n (P ++ [204] ++ W) e → Q v S2 := by
      intro S2 v W h2
      have f2 := r_app_f W hk
      refine hQ S2 v (h2.go ?_ ?_) (fun a => ?_)
      · rw [f1.1, f2.1]
      · rw [f1.2, f2.2]
      · rw [f1.1] at a; exact absurd a (by decide)
    refine ⟨fun _ => ⟨fun _ => ⟨h9.rd.1, h9.rd.2, ?_⟩, fun a => absurd rfl a⟩, fun _ => ⟨fun a => absurd a (by decide), fun _ => ⟨h9.rd.1, h9.rd.2, ?_⟩⟩⟩
    · exact q_passw 49 [75] (by decide) (by decide +kernel) h9 (fun S2 h2 _ => ⟨fun _ => hgo _ _ _ h2, fun a => absurd rfl a⟩)
    · exact q_passw 48 [77] (by decide) (by decide +kernel) h9 (fun S2 h2 _ => ⟨fun a => absurd a (by decide), fun _ => hgo _ _ _ h2⟩)
  | true =>
    have hn9 := hn9 hk
    have g1 := r_app_t [400] hk
    generalize hpp : rto (gX S0 2) n (P ++ [204]) = p at *
    have hpe : pe (gX S0 2) n 400 p = (if p < n ∧ (gX S0 2 p = 75 ∨ gX S0 2 p = 77) then p + 1 else p, [if p < n ∧ gX S0 2 p = 77 then 1 else 0]) := by
      unfold pe; rw [if_neg (by decide), if_pos rfl]
    have h43 : ¬ ((400 : Int32) = 300) := by decide
    refine ⟨fun hg => ⟨fun _ => ⟨h9.rd.1, h9.rd.2, ?_⟩, fun a => absurd rfl a⟩, fun hg => ⟨fun a => absurd a (by decide), fun _ => ⟨h9.rd.1, h9.rd.2, ?_⟩⟩⟩
    · refine q_passw 49 [75] (by decide) (by decide +kernel) h9 (fun S2 h2 _ => ⟨fun _ => ?_, fun a => absurd rfl a⟩)
      have h77 : ¬ (p < n ∧ gX S0 2 p = 77) := by
        intro a
        apply hg
        unfold gt
        rw [if_pos a.1]
        exact a.2
      rw [if_neg h77] at hpe
      by_cases h75 : gt (gX S0 2) n p = 75
      · have hit := lit_hit (by decide) h75
        have s1 := r_snoc_hit (x := 75) (by decide) (by decide) hk (by rw [hpp]; exact h75)
        rw [hpp] at s1
        rw [if_pos ⟨hit.1, Or.inl hit.2⟩] at hpe
        have er : rch (gX S0 2) n [400] p [] = (true, p + 1, [0]) := by simp [rch, pf, hpe]
        rw [er] at g1
        refine hQ S2 _ (h2.go ?_ ?_) (fun _ => ⟨a, 0, ?_, ?_⟩)
        · rw [g1.1, s1.1]
        · rw [g1.2.1, s1.2.1]
        · rw [g1.2.2, hn9]; simp
        · rw [if_neg (by decide)]
      · have s1 := r_snoc_miss (x := 75) [] (by decide) hk (by rw [hpp]; exact h75)
        rw [hpp] at s1
        have hno : ¬ (p < n ∧ (gX S0 2 p = 75 ∨ gX S0 2 p = 77)) := by
          intro a
          rcases a.2 with b | b
          · apply h75; unfold gt; rw [if_pos a.1]; exact b
          · exact h77 ⟨a.1, b⟩
        rw [if_neg hno] at hpe
        have er : rch (gX S0 2) n [400] p [] = (false, p, [0]) := by simp [rch, pf, hpe]
        rw [er] at g1
        refine hQ S2 _ (h2.go ?_ ?_) (fun a => ?_)
        · rw [g1.1, s1.1]
        · rw [g1.2.1, s1.2]
        · rw [g1.1] at a; exact absurd a (by simp)
    · refine q_passw 48 [77] (by decide) (by decide +kernel) h9 (fun S2 h2 _ => ⟨fun a => absurd a (by decide), fun _ => ?_⟩)
      have hit := lit_hit (by decide) hg
      have s1 := r_snoc_hit (x := 77) (by decide) (by decide) hk (by rw [hpp]; exact hg)
      rw [hpp] at s1
      rw [if_pos ⟨hit.1, Or.inr hit.2⟩, if_pos hit] at hpe
      have er : rch (gX S0 2) n [400] p [] = (true, p + 1, [1]) := by simp [rch, pf, hpe]
      rw [er] at g1
      refine hQ S2 _ (h2.go ?_ ?_) (fun _ => ⟨a, 1, ?_, ?_⟩)
      · rw [g1.1, s1.1]
      · rw [g1.2.1, s1.2.1]
      · rw [g1.2.2, hn9]; simp
      · rw [if_pos rfl, Int32.mul_comm]
/-- a word passed gives no number -/
theorem rnm_word {T : Nat → Int32} {n : Nat} (W : List Int32) : ∀ (P : List Int32), (∀ x ∈ W, x < 200 ∧ x ≠ -1) → rok T n (P ++ W) = true → rnm T n (P ++ W) = rnm T n P := by
  induction W with
  | nil => intro P _ _; simp
  | cons x W ih =>
    intro P hx h
    have e : P ++ x :: W = P ++ [x] ++ W := by simp
    rw [e] at h ⊢
    rw [ih _ (fun y hy => hx y (List.mem_cons_of_mem _ hy)) h]
    have h1 := r_pre h
    have h0 := r_pre h1
    have hx := hx x (by simp)
    by_cases hg : gt T n (rto T n P) = x
    · exact (r_snoc_hit hx.1 hx.2 h0 hg).2.2.1
    · rw [(r_snoc_miss [] hx.1 h0 hg).1] at h1
      exact absurd h1 (by decide)
theorem q_took {S0 S : GS} {rq n : Nat} {P : List Int32} {e : Nat → Int32} {Q : Int32 → GS → Prop} (h : Rr S0 S rq n P e) (hQ : ∀ S2 v, Rr S0 S2 rq n (P ++ mTk) e → (rok (gX S0 2) n (P ++ mTk) = true → ∃ a b, rnm (gX S0 2) n (P ++ mTk) = rnm (gX S0 2) n P ++ [a, b] ∧ v = 1000 * a + b) → Q v S2) : wX4_took S rq Q := by
  have e4 : (4 : Int32) = nI 4 := by decide
  have e204 : nI (200 + 4) = 204 := by decide
  refine ⟨h.rd.1, h.rd.2, ?_⟩
  rw [e4]
  refine q_decimal 4 (by omega) (by omega) h (fun S9 v h9 hn9 _ => q_passw 50 [109, 115] (by decide) (by decide +kernel) h9 (fun S2 h2 _ => ?_))
  rw [e204] at h9 hn9 h2
  have eP : P ++ [204, 46, 300] ++ [109, 115] = P ++ mTk := by simp [mTk]
  refine hQ S2 v (h2.eq eP) (fun hok => ?_)
  rw [← eP] at hok ⊢
  rw [rnm_word [109, 115] _ (by decide) hok]
  exact hn9 (r_pre hok)
theorem q_atEnd {S0 S : GS} {rq n : Nat} {P : List Int32} {e : Nat → Int32} {Q : Int32 → GS → Prop} (h : Rr S0 S rq n P e) (hQ : Q (if rto (gX S0 2) n P = n then 1 else 0) S) : wX4_isAtEnd S rq Q := by
  have hp := rto_le (gX S0 2) n P
  have hn := h.n72
  unfold wX4_isAtEnd wX4_isAtEnd_19
  refine ⟨h.rd.1, h.rd.2, 1, h.tx, fn_1 h.fix, fk_1 h.fix, ?_⟩
  rw [h.2.2.2.1, h.len, nj_eq (by omega) (by omega)]
  refine ⟨fun a => ⟨Or.inl rfl, ?_⟩, fun a => ⟨Or.inr rfl, ?_⟩⟩
  · rw [if_neg a] at hQ; exact hQ
  · rw [if_pos a] at hQ; exact hQ
theorem q_readAll {S0 S : GS} {rq n : Nat} {P : List Int32} {e : Nat → Int32} {Q : Int32 → GS → Prop} (h : Rr S0 S rq n P e) (hQ : Q (if rok (gX S0 2) n P = true ∧ rto (gX S0 2) n P = n then 1 else 0) S) : wX4_hasReadAll S rq Q := by
  unfold wX4_hasReadAll wX4_hasReadAll_18 wX4_hasReadAll_19
  refine ⟨h.rd.1, h.rd.2, fun hb => ⟨Or.inl rfl, ?_⟩, fun hb => q_atEnd h (fun _ => ?_)⟩
  · have := rr_f h hb
    rw [if_neg (fun a => by rw [this] at a; exact absurd a.1 (by decide))] at hQ
    exact hQ
  · have := rr_t h hb
    by_cases hto : rto (gX S0 2) n P = n
    · rw [if_pos hto]
      rw [if_pos ⟨this, hto⟩] at hQ
      exact ⟨fun a => absurd a (by decide), fun _ => ⟨Or.inr rfl, hQ⟩⟩
    · rw [if_neg hto]
      rw [if_neg (fun a => hto a.2)] at hQ
      exact ⟨fun _ => ⟨Or.inl rfl, hQ⟩, fun a => absurd rfl a⟩
def eu (e : Nat → Int32) (j : Nat) (v : Int32) : Nat → Int32 := fun i => if i = j then v else e i
theorem Rr.put {S0 S : GS} {rq n : Nat} {P : List Int32} {e : Nat → Int32} (h : Rr S0 S rq n P e) (j : Nat) (v : Int32) : Rr S0 (sX S 5 j v) rq n P (eu e j v) := Rw.put h j v
def sv (a u : Int32) : Int32 := if u = 1 then 1024 * a else a
theorem q_readSizes {S0 S : GS} {rq n : Nat} {P : List Int32} {e : Nat → Int32} {Q : GS → Prop} (h : Rr S0 S rq n P e) (hQ : ∀ S2 v w, Rr S0 S2 rq n (P ++ mAr) (eu (eu e 5 v) 6 w) → (rok (gX S0 2) n (P ++ mAr) = true → ∃ a u b t, rnm (gX S0 2) n (P ++ mAr) = rnm (gX S0 2) n P ++ [a, u, b, t] ∧ v = sv a u ∧ w = sv b t) → Q S2) : wX4_readSizes S rq 5 Q := by
  refine ⟨h.rd.1, h.rd.2, q_size h (fun S3 v h3 hn3 _ => ⟨fn_5 h3.fix, fk_5 h3.fix, fun S9 e9 => ?_⟩)⟩
  have h9 := h3.put 5 v
  rw [← e9] at h9
  refine q_passw 47 [45, 62] (by decide) (by decide +kernel) h9 (fun S14 h14 _ => q_size h14 (fun S20 w h20 hn20 _ S26 e26 => ?_))
  have h26 := h20.put 6 w
  rw [← e26] at h26
  have eP : P ++ mSz ++ [45, 62] ++ mSz = P ++ mAr := by simp [mAr]
  rw [eP] at h26
  refine hQ S26 v w h26 (fun hok => ?_)
  rw [← eP] at hok ⊢
  have hok2 := r_pre hok
  obtain ⟨b, t, w1, w2⟩ := hn20 hok
  obtain ⟨a, u, w3, w4⟩ := hn3 (r_pre hok2)
  refine ⟨a, u, b, t, ?_, w4, w2⟩
  rw [w1, rnm_word [45, 62] _ (by decide) hok2, w3]
  simp
theorem q_kind {S0 S : GS} {rq n : Nat} {P : List Int32} {e : Nat → Int32} {Q : Int32 → GS → Prop} (h : Rr S0 S rq n P e) (hQ : ∀ S2 k, k ≤ 2 → (k = 1 ↔ gt (gX S0 2) n (rto (gX S0 2) n P) = 77) → (k = 2 ↔ gt (gX S0 2) n (rto (gX S0 2) n P) = 70) → Rr S0 S2 rq n (P ++ mK k) e → Q (nI k) S2) : wX4_kind S rq Q := by
  refine ⟨h.rd.1, h.rd.2, 1, h.tx, fn_1 h.fix, fk_1 h.fix, q_getr h (fun _ => ?_)⟩
  have e0 : nI 0 = 0 := by decide
  have e1 : nI 1 = 1 := by decide
  have e2 : nI 2 = 2 := by decide
  unfold wX4_kind_33 wX8_kindWord
  refine ⟨fun a => ⟨fun b => ?_, fun b => ?_⟩, fun a => ?_⟩
  · have hq := fun S2 => hQ S2 0 (by omega) ⟨fun c => absurd c (by omega), fun c => absurd c a⟩ ⟨fun c => absurd c (by omega), fun c => absurd c b⟩
    refine ⟨fun c => absurd c (by decide), fun c => absurd c (by decide), fun _ _ _ => ⟨h.rd.1, h.rd.2, ?_⟩⟩
    exact q_passw 16 (mK 0) (by decide) (by decide +kernel) h (fun S2 h2 _ => hq S2 h2)
  · have hq := fun S2 => hQ S2 2 (by omega) ⟨fun c => absurd c (by omega), fun c => absurd c a⟩ ⟨fun _ => b, fun _ => rfl⟩
    refine ⟨fun c => absurd c (by decide), fun _ _ => ⟨h.rd.1, h.rd.2, ?_⟩, fun _ c => absurd (by decide) c⟩
    exact q_passw 15 (mK 2) (by decide) (by decide +kernel) h (fun S2 h2 _ => hq S2 h2)
  · have hq := fun S2 => hQ S2 1 (by omega) ⟨fun _ => a, fun _ => rfl⟩ ⟨fun c => absurd c (by omega), fun c => by rw [a] at c; exact absurd c (by decide)⟩
    refine ⟨fun _ _ => ⟨h.rd.1, h.rd.2, ?_⟩, fun c => absurd c (by decide), fun c => absurd (by decide) c⟩
    exact q_passw 14 (mK 1) (by decide) (by decide +kernel) h (fun S2 h2 _ => hq S2 h2)
theorem q_cause {S0 S : GS} {rq n : Nat} {P : List Int32} {e : Nat → Int32} {Q : Int32 → GS → Prop} (h : Rr S0 S rq n P e) (hQ : ∀ S2 k, k ≤ 2 → (k = 1 ↔ gt (gX S0 2) n (rto (gX S0 2) n P) = 77) → (k = 2 ↔ gt (gX S0 2) n (rto (gX S0 2) n P) = 85) → Rr S0 S2 rq n (P ++ mC k) e → Q (nI k) S2) : wX4_cause S rq Q := by
  refine ⟨h.rd.1, h.rd.2, 1, h.tx, fn_1 h.fix, fk_1 h.fix, q_getr h (fun _ => ?_)⟩
  have e0 : nI 0 = 0 := by decide
  have e1 : nI 1 = 1 := by decide
  have e2 : nI 2 = 2 := by decide
  unfold wX4_cause_33 wX8_causeWord
  refine ⟨fun a => ⟨fun b => ?_, fun b => ?_⟩, fun a => ?_⟩
  · have hq := fun S2 => hQ S2 0 (by omega) ⟨fun c => absurd c (by omega), fun c => absurd c a⟩ ⟨fun c => absurd c (by omega), fun c => absurd c b⟩
    refine ⟨fun c => absurd c (by decide), fun c => absurd c (by decide), fun _ _ _ => ⟨h.rd.1, h.rd.2, ?_⟩⟩
    exact q_passw 19 (mC 0) (by decide) (by decide +kernel) h (fun S2 h2 _ => hq S2 h2)
  · have hq := fun S2 => hQ S2 2 (by omega) ⟨fun c => absurd c (by omega), fun c => absurd c a⟩ ⟨fun _ => b, fun _ => rfl⟩
    refine ⟨fun c => absurd c (by decide), fun _ _ => ⟨h.rd.1, h.rd.2, ?_⟩, fun _ c => absurd (by decide) c⟩
    exact q_passw 18 (mC 2) (by decide) (by decide +kernel) h (fun S2 h2 _ => hq S2 h2)
  · have hq := fun S2 => hQ S2 1 (by omega) ⟨fun _ => a, fun _ => rfl⟩ ⟨fun c => absurd c (by omega), fun c => by rw [a] at c; exact absurd c (by decide)⟩
    refine ⟨fun _ _ => ⟨h.rd.1, h.rd.2, ?_⟩, fun c => absurd c (by decide), fun c => absurd (by decide) c⟩
    exact q_passw 17 (mC 1) (by decide) (by decide +kernel) h (fun S2 h2 _ => hq S2 h2)
