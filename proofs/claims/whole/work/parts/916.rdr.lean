/-! THE CLASS READS THE PAD: a reader at place rq over the text at place 1. -/
theorem r_app_f {T : Nat → Int32} {n : Nat} {P : List Int32} (A : List Int32) (h : rok T n P = false) : rok T n (P ++ A) = false ∧ rto T n (P ++ A) = rto T n P := by
  unfold rok rto at *
  rw [rch_app, h]
  exact ⟨h, rfl⟩
theorem r_app_t {T : Nat → Int32} {n : Nat} {P : List Int32} (A : List Int32) (h : rok T n P = true) : rok T n (P ++ A) = (rch T n A (rto T n P) []).1 ∧ rto T n (P ++ A) = (rch T n A (rto T n P) []).2.1 ∧ rnm T n (P ++ A) = rnm T n P ++ (rch T n A (rto T n P) []).2.2 := by
  unfold rok rto rnm at *
  rw [rch_app, h, if_pos rfl, rch_ns T n A _ (rch T n P 0 []).2.2]
  exact ⟨rfl, rfl, rfl⟩
theorem r_pre {T : Nat → Int32} {n : Nat} {P A : List Int32} (h : rok T n (P ++ A) = true) : rok T n P = true := by
  cases h2 : rok T n P with
  | true => rfl
  | false => rw [(r_app_f A h2).1] at h; exact h
theorem rto_le (T : Nat → Int32) (n : Nat) (P : List Int32) : rto T n P ≤ n := rch_le T n P 0 [] (Nat.zero_le _)
theorem rnm_len {T : Nat → Int32} {n : Nat} {P : List Int32} (h : rok T n P = true) : (rnm T n P).length = cn P := by
  have := rch_len T n P 0 [] h
  show (rch T n P 0 []).2.2.length = cn P
  simpa using this
def Rb (S0 : GS) (rq n : Nat) : Prop := Fix S0 ∧ rq < gN S0 ∧ gK S0 rq = 4 ∧ gR S0 rq 0 = some 1 ∧ 39 ≤ rq ∧ gX S0 1 1 = nI n ∧ n ≤ 72
def pE (rq k j : Nat) : Prop := (k = rq ∧ (j = 1 ∨ j = 2)) ∨ k = 5
def Rw (S0 S : GS) (rq n : Nat) (b : Int32) (p : Nat) (e : Nat → Int32) : Prop := Rb S0 rq n ∧ Ag (pE rq) S0 S ∧ gX S rq 1 = b ∧ gX S rq 2 = nI p ∧ p ≤ n ∧ ∀ j, gX S 5 j = e j
def Rr (S0 S : GS) (rq n : Nat) (P : List Int32) (e : Nat → Int32) : Prop := Rw S0 S rq n (if rok (gX S0 2) n P = true then 0 else 1) (rto (gX S0 2) n P) e
theorem Rw.rd {S0 S : GS} {rq n p : Nat} {b : Int32} {e : Nat → Int32} (h : Rw S0 S rq n b p e) : rq < gN S ∧ gK S rq = 4 := by
  rw [h.2.1.1, h.2.1.2.1]; exact ⟨h.1.2.1, h.1.2.2.1⟩
theorem Rw.tx {S0 S : GS} {rq n p : Nat} {b : Int32} {e : Nat → Int32} (h : Rw S0 S rq n b p e) : gR S rq 0 = some 1 := by
  rw [h.2.1.R]; exact h.1.2.2.2.1
theorem Rw.fix {S0 S : GS} {rq n p : Nat} {b : Int32} {e : Nat → Int32} (h : Rw S0 S rq n b p e) : Fix S := h.1.1.ag h.2.1
theorem Rw.len {S0 S : GS} {rq n p : Nat} {b : Int32} {e : Nat → Int32} (h : Rw S0 S rq n b p e) : gX S 1 1 = nI n := by
  rw [h.2.1.X 1 1 (by have := h.1.2.2.2.2.1; unfold pE; omega)]; exact h.1.2.2.2.2.2.1
theorem Rw.row {S0 S : GS} {rq n p : Nat} {b : Int32} {e : Nat → Int32} (h : Rw S0 S rq n b p e) : gX S 2 = gX S0 2 :=
  h.2.1.row 2 (by have := h.1.2.2.2.2.1; intro j; unfold pE; omega)
theorem Rw.n72 {S0 S : GS} {rq n p : Nat} {b : Int32} {e : Nat → Int32} (h : Rw S0 S rq n b p e) : n ≤ 72 := h.1.2.2.2.2.2.2
/-- get: what stands at p -/
theorem q_get {S : GS} {n p : Nat} {Q : Int32 → GS → Prop} (hF : Fix S) (hn : gX S 1 1 = nI n) (hn72 : n ≤ 72) (hp : p ≤ 2000) (hQ : Q (gt (gX S 2) n p) S) : wX6_get S 1 (nI p) Q := by
  unfold wX6_get wX6_get_21
  simp only [fn_0 hF, fk_0 hF, fn_1 hF, fk_1 hF, fn_2 hF, fk_2 hF, fn_3 hF, fk_3 hF, fn_4 hF, fk_4 hF, fn_5 hF, fk_5 hF, fn_6 hF, fk_6 hF, fn_7 hF, fk_7 hF, fn_8 hF, fk_8 hF, fn_9 hF, fk_9 hF, fn_10 hF, fk_10 hF, fn_11 hF, fk_11 hF, fn_12 hF, fk_12 hF, fn_13 hF, fk_13 hF, fl_2 hF, fl_4 hF, fl_7 hF, fl_9 hF, fl_10 hF, fl_11 hF, fr_0_0 hF, fr_0_1 hF, fr_0_2 hF, fr_0_3 hF, fr_0_4 hF, fr_0_5 hF, fr_0_6 hF, fr_1_0 hF, fr_3_0 hF, fr_6_0 hF, fr_8_0 hF, fr_8_1 hF, fr_8_2 hF, n_sX, k_sX, l_sX, x_sX, z_sX, r_sX, f_sX, n_sZ, k_sZ, l_sZ, x_sZ, z_sZ, r_sZ, f_sZ, n_sR, k_sR, l_sR, x_sR, z_sR, r_sR, f_sR, n_sF, k_sF, l_sF, x_sF, z_sF, r_sF, f_sF, Nat.reduceEqDiff, true_and, and_true, false_and, and_false, and_self, if_true, if_false, reduceIte, exists_eq_left, exists_eq_left', Option.some.injEq, forall_eq, forall_const, imp_self, reduceCtorEq, not_true_eq_false, not_false_eq_true, false_imp_iff, true_imp_iff, implies_true, hn, nj_le (show n < 2147483648 by omega) (show p < 2147483648 by omega), nj_lt (show p < 2147483648 by omega) (show 72 < 2147483648 by omega), nj_clamp (show p < 2147483648 by omega)]
  unfold gt at hQ
  refine ⟨fun h => absurd h (nj_nneg (by omega)), fun _ => ⟨fun h => ?_, fun h => ⟨fun h1 => ⟨nj_in (by omega) (by omega), ?_⟩, fun h1 => absurd (by omega) h1⟩⟩⟩
  · rw [if_neg (by omega)] at hQ; exact hQ
  · rw [if_pos (by omega)] at hQ; exact hQ
theorem q_getr {S0 S : GS} {rq n p : Nat} {b : Int32} {e : Nat → Int32} {Q : Int32 → GS → Prop} (h : Rw S0 S rq n b p e) (hQ : Q (gt (gX S0 2) n p) S) : wX6_get S 1 (gX S rq 2) Q := by
  rw [h.2.2.2.1]
  refine q_get h.fix h.len h.n72 (by have := h.2.2.2.2.1; have := h.n72; omega) ?_
  rw [h.row]
  exact hQ
theorem Rw.put {S0 S : GS} {rq n p : Nat} {b : Int32} {e : Nat → Int32} (h : Rw S0 S rq n b p e) (j : Nat) (v : Int32) : Rw S0 (sX S 5 j v) rq n b p (fun i => if i = j then v else e i) := by
  obtain ⟨h1, h2, h3, h4, h5, h6⟩ := h
  have h39 := h1.2.2.2.2.1
  refine ⟨h1, h2.x _ _ _ (Or.inr rfl), ?_, ?_, h5, ?_⟩
  · rw [x_sX, if_neg (by omega)]; exact h3
  · rw [x_sX, if_neg (by omega)]; exact h4
  · intro i
    rw [x_sX]
    by_cases e1 : i = j
    · rw [if_pos ⟨rfl, e1⟩]; simp [e1]
    · rw [if_neg (fun a => e1 a.2)]; simp [e1, h6]
theorem Rw.brk {S0 S : GS} {rq n p : Nat} {b : Int32} {e : Nat → Int32} (h : Rw S0 S rq n b p e) (v : Int32) : Rw S0 (sX S rq 1 v) rq n v p e := by
  obtain ⟨h1, h2, h3, h4, h5, h6⟩ := h
  have h39 := h1.2.2.2.2.1
  refine ⟨h1, h2.x _ _ _ (Or.inl ⟨rfl, Or.inl rfl⟩), ?_, ?_, h5, ?_⟩
  · rw [x_sX, if_pos ⟨rfl, rfl⟩]
  · rw [x_sX, if_neg (by omega)]; exact h4
  · intro i
    rw [x_sX, if_neg (by omega)]; exact h6 i
theorem Rw.adv {S0 S : GS} {rq n p : Nat} {b : Int32} {e : Nat → Int32} (h : Rw S0 S rq n b p e) (hp : p + 1 ≤ n) : Rw S0 (sX S rq 2 (gX S rq 2 + 1)) rq n b (p + 1) e := by
  obtain ⟨h1, h2, h3, h4, h5, h6⟩ := h
  have h39 := h1.2.2.2.2.1
  refine ⟨h1, h2.x _ _ _ (Or.inl ⟨rfl, Or.inr rfl⟩), ?_, ?_, hp, ?_⟩
  · rw [x_sX, if_neg (by omega)]; exact h3
  · rw [x_sX, if_pos ⟨rfl, rfl⟩, h4, nj_succ]
  · intro i
    rw [x_sX, if_neg (by omega)]; exact h6 i
theorem lit_hit {T : Nat → Int32} {n p : Nat} {x : Int32} (hx : x ≠ -1) (h : gt T n p = x) : p < n ∧ T p = x := by
  unfold gt at h
  split at h
  · rename_i h1; exact ⟨h1, h⟩
  · exact absurd h.symm hx
/-- one letter more -/
theorem r_snoc_hit {T : Nat → Int32} {n : Nat} {P : List Int32} {x : Int32} (hx : x < 200) (hx1 : x ≠ -1) (h : rok T n P = true) (hg : gt T n (rto T n P) = x) : rok T n (P ++ [x]) = true ∧ rto T n (P ++ [x]) = rto T n P + 1 ∧ rnm T n (P ++ [x]) = rnm T n P ∧ rto T n P < n := by
  have h1 := lit_hit hx1 hg
  obtain ⟨a, b, c⟩ := r_app_t [x] h
  rw [rch_hit T n x [] _ [] hx h1.1 h1.2, rch_nil] at a b c
  exact ⟨a, b, by simpa using c, h1.1⟩
theorem r_snoc_miss {T : Nat → Int32} {n : Nat} {P : List Int32} {x : Int32} (A : List Int32) (hx : x < 200) (h : rok T n P = true) (hg : gt T n (rto T n P) ≠ x) : rok T n (P ++ x :: A) = false ∧ rto T n (P ++ x :: A) = rto T n P := by
  obtain ⟨a, b, _⟩ := r_app_t (x :: A) h
  rw [rch_miss T n x A _ [] hx hg] at a b
  exact ⟨a, b⟩
theorem Rr.go {S0 S : GS} {rq n : Nat} {P P' : List Int32} {e : Nat → Int32} (h : Rr S0 S rq n P e) (h1 : rok (gX S0 2) n P' = rok (gX S0 2) n P) (h2 : rto (gX S0 2) n P' = rto (gX S0 2) n P) : Rr S0 S rq n P' e := by
  unfold Rr at *
  rw [h1, h2]; exact h
theorem Rr.eq {S0 S : GS} {rq n : Nat} {P P' : List Int32} {e : Nat → Int32} (h : Rr S0 S rq n P e) (h1 : P = P') : Rr S0 S rq n P' e := h1 ▸ h
theorem q_pass2 {S0 : GS} {rq n w : Nat} {P W : List Int32} {e : Nat → Int32} {Q : GS → Prop} (hw : w < 52) (hW : zT w = W) (hQ : ∀ S2, Rr S0 S2 rq n (P ++ W) e → Q S2) : ∀ (R D : List Int32) (S : GS), W = D ++ R → Rr S0 S rq n (P ++ D) e → wX4_pass_2 Q rq (R.length + 1) w (nI D.length) S := by
  have hlen := zT_len w hw
  have hok := zT_ok w hw
  rw [hW] at hlen hok
  intro R
  induction R with
  | nil =>
    intro D S eW h
    rw [List.append_nil] at eW
    unfold wX4_pass_2 wX4_pass_60
    rw [hW, eW]
    refine ⟨hw, fun _ => hQ S (h.eq (by rw [eW])), fun hh => absurd ((nj_le (by rw [← eW]; omega) (by rw [← eW]; omega)).mpr (Nat.le_refl _)) hh⟩
  | cons x R ih =>
    intro D S eW h
    have hDl : D.length < W.length := by rw [eW]; simp
    have hxm : x ∈ W := by rw [eW]; simp
    have hx := hok x hxm
    have hx200 : x < 200 := Int32.lt_trans hx.2 (by decide)
    have hx1 : x ≠ -1 := by
      intro hh
      rw [hh] at hx
      exact absurd hx.1 (by decide)
    have ech : zCh w D.length = x := by
      unfold zCh
      rw [hW, eW]
      simp
    have hrd := h.rd
    unfold wX4_pass_2 wX4_pass_60 wX4_pass_54
    rw [hW]
    refine ⟨hw, fun hh => absurd ((nj_le (by omega) (by omega)).mp hh) (by omega), fun _ => ⟨hrd.1, hrd.2, fun hb => ?_, fun hb => ⟨1, h.tx, fn_1 h.fix, fk_1 h.fix, ?_⟩⟩⟩
    · -- broken
      have hf : rok (gX S0 2) n (P ++ D) = false := by
        cases hr : rok (gX S0 2) n (P ++ D) with
        | false => rfl
        | true =>
          exfalso; apply hb
          have := h.2.2.1
          rw [hr] at this
          simpa using this
      have := r_app_f (x :: R) hf
      refine hQ S (h.go ?_ ?_)
      · rw [eW, ← List.append_assoc, this.1, hf]
      · rw [eW, ← List.append_assoc, this.2]
    · have ht : rok (gX S0 2) n (P ++ D) = true := by
        cases hr : rok (gX S0 2) n (P ++ D) with
        | true => rfl
        | false =>
          exfalso
          have := h.2.2.1
          rw [hr, hb] at this
          exact absurd this (by decide)
      refine q_getr h (fun _ => ⟨hw, D.length, rfl, hDl, fun hg => ?_, fun hg => ?_⟩)
      · intro S18 e18
        rw [ech] at hg
        have hm := r_snoc_miss [] hx200 ht hg
        have h18 : Rr S0 S18 rq n (P ++ (D ++ [x])) e := by
          subst e18
          unfold Rr
          rw [← List.append_assoc, hm.1, hm.2]
          exact h.brk 1
        rw [nj_succ]
        have := ih (D ++ [x]) S18 (by rw [eW]; simp) h18
        rw [List.length_append] at this
        exact this
      · intro S23 e23
        rw [ech] at hg
        have hm := r_snoc_hit hx200 hx1 ht hg
        have h23 : Rr S0 S23 rq n (P ++ (D ++ [x])) e := by
          subst e23
          unfold Rr
          rw [← List.append_assoc, hm.1, hm.2.1, if_pos rfl]
          have := h.adv (by omega)
          rw [ht, if_pos rfl] at this
          exact this
        rw [nj_succ]
        have := ih (D ++ [x]) S23 (by rw [eW]; simp) h23
        rw [List.length_append] at this
        exact this
theorem q_passw {S0 S : GS} {rq n : Nat} (w : Nat) {P : List Int32} (W : List Int32) {e : Nat → Int32} {Q : GS → Prop} (hw : w < 52) (hW : zT w = W) (h : Rr S0 S rq n P e) (hQ : ∀ S2, Rr S0 S2 rq n (P ++ W) e → Q S2) : wX4_pass S rq w Q :=
  ⟨W.length + 1, q_pass2 hw hW hQ W [] S rfl (h.eq (by simp))⟩
