/-! WHAT IS WRONG WITH A LINE, by the reference. -/
/-- d is the line of shape s of the open pause b -/
def isD (S : GS) (n b : Nat) (s d : Int32) : Prop := (∀ j, b < j → j < n → gX S 21 j ≠ 0 → gX S 23 j = s → d = nI j) ∧ (d = -1 ∨ ∃ j, b < j ∧ j < n ∧ gX S 21 j ≠ 0 ∧ gX S 23 j = s ∧ d = nI j)
theorem nI_ne {j : Nat} (h : j < 2147483648) : nI j ≠ -1 := by
  intro a
  have := congrArg Int32.toInt a
  rw [nj_int h] at this
  have e : (-1 : Int32).toInt = -1 := by decide
  rw [e] at this
  omega
theorem q_ofOpenD {S : GS} {n b : Nat} {s d : Int32} {Q : Int32 → GS → Prop} (hF : Fix S) (hn : gX S 14 19 = nI n) (hn5 : n ≤ 512) (hb : gX S 14 30 = nI b) (hbn : b < n) (hd : isD S n b s d) (hQ : Q d S) : wX9_ofOpenPause S 14 s Q := by
  refine q_ofOpen hF hn hn5 hb hbn (fun h => ?_) (fun j h1 h2 h3 h4 => ?_)
  · rcases hd.2 with e | ⟨j, h1, h2, h3, h4, _⟩
    · rw [← e]; exact hQ
    · exact absurd h4 (h j h1 h2 h3)
  · rw [← hd.1 j h1 h2 h3 h4]; exact hQ
def vz (sz : Nat → Int32) (x : Int32) (j : Nat) : Int32 := if x = -1 then 0 else sz (3 * x.toNatClampNeg + j)
def wr1 (S : GS) (n b : Nat) (d o : Int32) : Prop := gX S 24 n ≠ gX S 24 b ∨ gX S 25 n ≠ gX S 25 b ∨ slw (gX S 29 n) (gX S 26 n) (gX S 26 b)
  ∨ gX S 28 (3 * n + 2) < gX S 28 (3 * n) ∨ gX S 28 (3 * n) < vz (gX S 28) d 0 + vz (gX S 28) o 0 ∨ gX S 28 (3 * n + 2) < gX S 28 (3 * n + 1) ∨ gX S 28 (3 * n + 1) < vz (gX S 28) d 1 + vz (gX S 28) o 1
theorem mul3 (l j : Nat) : 3 * nI l + nI j = nI (3 * l + j) := by
  have : (3 : Int32) * nI l = nI (3 * l) := by
    show Int32.ofNat 3 * Int32.ofNat l = Int32.ofNat (3 * l)
    rw [Int32.ofNat_mul]
  rw [this, nj_add]
def okD (d : Int32) : Prop := d = -1 ∨ ∃ j, j < 512 ∧ d = nI j
theorem okD_vz {S : GS} {d : Int32} (hF : Fix S) (h : okD d) (j : Nat) (hj : j < 3) (P : Int32 → Prop) (hP : P (vz (gX S 28) d j)) : (¬ d = -1 → 14 < gN S ∧ gK S 14 = 9 ∧ ∃ q : Nat, gR S 14 17 = some q ∧ q < gN S ∧ gK S q = 11 ∧ vp_in ((3 * d) + nI j) (gL S q) ∧ P (gX S q (Int32.toNatClampNeg ((3 * d) + nI j)))) ∧ (d = -1 → P 0) := by
  refine ⟨fun a => ?_, fun a => ?_⟩
  · rcases h with e | ⟨i, hi, e⟩
    · exact absurd e a
    · subst e
      rw [mul3]
      refine ⟨fn_14 hF, fk_14 hF, 28, fr_14_17 hF, fn_28 hF, fk_28 hF, by rw [fl_28 hF]; exact nj_in (by omega) (by omega), ?_⟩
      rw [nj_clamp (by omega)]
      unfold vz at hP
      rw [if_neg a, nj_clamp (by omega)] at hP
      exact hP
  · unfold vz at hP
    rw [if_pos a] at hP
    exact hP
theorem q_wr120 {S : GS} {n : Nat} {d o : Int32} {Q : Int32 → GS → Prop} {f : Nat} (hF : Fix S) (hn5 : n < 512) (hd : okD d) (ho : okD o) (j : Nat) (hj : j < 2) (h1 : (gX S 28 (3 * n + 2) < gX S 28 (3 * n + j) ∨ gX S 28 (3 * n + j) < vz (gX S 28) d j + vz (gX S 28) o j) → Q 1 S) (h0 : ¬ (gX S 28 (3 * n + 2) < gX S 28 (3 * n + j) ∨ gX S 28 (3 * n + j) < vz (gX S 28) d j + vz (gX S 28) o j) → wX9_isWrong_120 Q 14 f (nI n) d o (nI j + 1) S) : wX9_isWrong_120 Q 14 (f + 1) (nI n) d o (nI j) S := by
  have h168 : wX9_isWrong_168 Q (wX9_isWrong_120 Q 14 f) 14 (nI n) d o (nI j) (vz (gX S 28) d j) (vz (gX S 28) o j) S := by
    have e2 : (3 : Int32) * nI n + 2 = nI (3 * n + 2) := mul3 n 2
    unfold wX9_isWrong_168 wX9_isWrong_211
    rw [mul3, e2]
    refine ⟨fn_14 hF, fk_14 hF, 28, fr_14_17 hF, fn_28 hF, fk_28 hF, ?_⟩
    rw [fl_28 hF, nj_clamp (by omega), nj_clamp (by omega)]
    refine ⟨nj_in (by omega) (by omega), nj_in (by omega) (by omega), fun a => h1 (Or.inl a), fun a => ⟨nj_in (by omega) (by omega), fun b => h0 ?_, fun b => h1 (Or.inr (Int32.not_le.mp b))⟩⟩
    intro c
    rcases c with c | c
    · exact a c
    · exact absurd b (Int32.not_le.mpr c)
  have h146 : wX9_isWrong_146 Q (wX9_isWrong_120 Q 14 f) 14 (nI n) d o (nI j) (vz (gX S 28) d j) S := by
    unfold wX9_isWrong_146
    exact okD_vz hF ho j (by omega) (fun v => wX9_isWrong_168 Q (wX9_isWrong_120 Q 14 f) 14 (nI n) d o (nI j) (vz (gX S 28) d j) v S) h168
  unfold wX9_isWrong_120
  have e2 : (2 : Int32) ≤ nI j ↔ 2 ≤ j := nj_le (a := 2) (by omega) (by omega)
  rw [e2]
  refine ⟨fun a => absurd a (by omega), fun _ => ?_⟩
  exact okD_vz hF hd j (by omega) (fun v => wX9_isWrong_146 Q (wX9_isWrong_120 Q 14 f) 14 (nI n) d o (nI j) v S) h146
theorem q_isWrong_end {S : GS} {n b : Nat} {d o : Int32} {Q : Int32 → GS → Prop} (hF : Fix S) (hn : gX S 14 19 = nI n) (hn5 : n < 512) (hs : gX S 23 n = 1) (hb : gX S 14 30 = nI b) (hbn : b < n) (hd : isD S n b 2 d) (ho : isD S n b 3 o) (h1 : wr1 S n b d o → Q 1 S) (h0 : ¬ wr1 S n b d o → Q 0 S) : wX9_isWrong S 14 (nI n) Q := by
  have hdD : okD d := by rcases hd.2 with e | ⟨j, _, h2, _, _, e⟩; exact Or.inl e; exact Or.inr ⟨j, by omega, e⟩
  have hoD : okD o := by rcases ho.2 with e | ⟨j, _, h2, _, _, e⟩; exact Or.inl e; exact Or.inr ⟨j, by omega, e⟩
  have hv := nj_in (n := 512) hn5 (by omega)
  have hvb := nj_in (n := 512) (show b < 512 by omega) (by omega)
  have hcl := nj_clamp (show n < 2147483648 by omega)
  have hcb := nj_clamp (show b < 2147483648 by omega)
  unfold wX9_isWrong
  rw [hcl, hb, hcb]
  refine ⟨fn_14 hF, fk_14 hF, 23, fr_14_12 hF, fn_23 hF, fk_23 hF, by rw [fl_23 hF]; exact hv, ?_⟩
  rw [hs]
  refine ⟨fun a => absurd a (by decide), fun _ => ⟨fun _ => ⟨fun _ => ⟨fun _ => ?_, fun a => absurd rfl a⟩, fun a => absurd a (by decide)⟩, fun a => absurd a (by decide)⟩⟩
  unfold wX9_isWrong_102
  refine ⟨24, fr_14_13 hF, fn_24 hF, fk_24 hF, by rw [fl_24 hF]; exact hv, by rw [fl_24 hF]; exact hvb, fun a => h1 (Or.inl a), fun a => ⟨25, fr_14_14 hF, fn_25 hF, fk_25 hF, by rw [fl_25 hF]; exact hv, by rw [fl_25 hF]; exact hvb, fun c => h1 (Or.inr (Or.inl c)), fun c => ?_⟩⟩
  refine q_slow hF hn5 (by omega) (fun e _ => ⟨fun x => absurd x (by decide), fun _ => h1 (Or.inr (Or.inr (Or.inl e)))⟩) (fun e _ => ⟨fun _ => ?_, fun x => absurd rfl x⟩)
  refine q_ofOpenD hF hn (by omega) hb hbn hd (fun _ => q_ofOpenD hF hn (by omega) hb hbn ho (fun _ => ⟨3, ?_⟩))
  have z0 : (0 : Int32) = nI 0 := by decide
  have z1 : nI 0 + 1 = nI 1 := by decide
  rw [z0]
  refine q_wr120 hF hn5 hdD hoD 0 (by omega) (fun w => h1 ?_) (fun w0 => ?_)
  · rcases w with w | w
    · exact Or.inr (Or.inr (Or.inr (Or.inl w)))
    · exact Or.inr (Or.inr (Or.inr (Or.inr (Or.inl w))))
  rw [z1]
  refine q_wr120 hF hn5 hdD hoD 1 (by omega) (fun w => h1 ?_) (fun w1 => ?_)
  · rcases w with w | w
    · exact Or.inr (Or.inr (Or.inr (Or.inr (Or.inr (Or.inl w)))))
    · exact Or.inr (Or.inr (Or.inr (Or.inr (Or.inr (Or.inr w)))))
  unfold wX9_isWrong_120
  refine ⟨fun _ => h0 ?_, fun x => absurd (by decide) x⟩
  intro w
  rcases w with w | w | w | w | w | w | w
  · exact w a
  · exact w c
  · exact e w
  · exact w0 (Or.inl w)
  · exact w0 (Or.inr w)
  · exact w1 (Or.inl w)
  · exact w1 (Or.inr w)
theorem q_isWrong_part {S : GS} {n b : Nat} {s d : Int32} {Q : Int32 → GS → Prop} (hF : Fix S) (hn : gX S 14 19 = nI n) (hn5 : n < 512) (hs : gX S 23 n = s) (hs23 : s = 2 ∨ s = 3) (hb : gX S 14 30 = nI b) (hbn : b < n) (hd : isD S n b s d) (h1 : d ≠ -1 → Q 1 S) (h0 : d = -1 → Q 0 S) : wX9_isWrong S 14 (nI n) Q := by
  have hv := nj_in (n := 512) hn5 (by omega)
  have hcl := nj_clamp (show n < 2147483648 by omega)
  have h17 : wX9_isWrong_17 Q 14 s S := by
    unfold wX9_isWrong_17 wX9_isWrong_31
    exact ⟨fn_14 hF, fk_14 hF, q_ofOpenD hF hn (by omega) hb hbn hd (fun _ => ⟨fun a => ⟨Or.inl rfl, h0 a⟩, fun a => ⟨Or.inr rfl, h1 a⟩⟩)⟩
  unfold wX9_isWrong
  rw [hcl]
  refine ⟨fn_14 hF, fk_14 hF, 23, fr_14_12 hF, fn_23 hF, fk_23 hF, by rw [fl_23 hF]; exact hv, ?_⟩
  rw [hs]
  rcases hs23 with e | e <;> subst e
  · exact ⟨fun _ => h17, fun a => absurd rfl a⟩
  · exact ⟨fun a => absurd a (by decide), fun _ => ⟨fun a => absurd rfl a, fun _ => h17⟩⟩
theorem q_isWrong_mark {S : GS} {n b : Nat} {Q : Int32 → GS → Prop} (hF : Fix S) (hn5 : n < 512) (hs : gX S 23 n = 5) (hb : gX S 14 31 = nI b) (hbn : b < n) (h1 : slw (gX S 29 n) (gX S 26 n) (gX S 26 b) → Q 1 S) (h0 : ¬ slw (gX S 29 n) (gX S 26 n) (gX S 26 b) → Q 0 S) : wX9_isWrong S 14 (nI n) Q := by
  have hv := nj_in (n := 512) hn5 (by omega)
  have hcl := nj_clamp (show n < 2147483648 by omega)
  unfold wX9_isWrong
  rw [hcl]
  refine ⟨fn_14 hF, fk_14 hF, 23, fr_14_12 hF, fn_23 hF, fk_23 hF, by rw [fl_23 hF]; exact hv, ?_⟩
  rw [hs, hb]
  refine ⟨fun a => absurd a (by decide), fun _ => ⟨fun _ => ⟨fun a => absurd rfl a, fun _ => ?_⟩, fun a => absurd a (by decide)⟩⟩
  exact q_slow hF hn5 (by omega) (fun e _ => ⟨Or.inr rfl, h1 e⟩) (fun e _ => ⟨Or.inl rfl, h0 e⟩)
theorem q_isWrong_no {S : GS} {n : Nat} {s : Int32} {Q : Int32 → GS → Prop} (hF : Fix S) (hn5 : n < 512) (hs : gX S 23 n = s) (hs2 : s = 0 ∨ s = 4 ∨ s = 6) (h0 : Q 0 S) : wX9_isWrong S 14 (nI n) Q := by
  have hv := nj_in (n := 512) hn5 (by omega)
  have hcl := nj_clamp (show n < 2147483648 by omega)
  unfold wX9_isWrong
  rw [hcl]
  refine ⟨fn_14 hF, fk_14 hF, 23, fr_14_12 hF, fn_23 hF, fk_23 hF, by rw [fl_23 hF]; exact hv, ?_⟩
  rw [hs]
  rcases hs2 with e | e | e <;> subst e
  · exact ⟨fun a => absurd a (by decide), fun _ => ⟨fun _ => ⟨fun _ => ⟨fun a => absurd a (by decide), fun _ => h0⟩, fun a => absurd a (by decide)⟩, fun a => absurd a (by decide)⟩⟩
  · exact ⟨fun a => absurd a (by decide), fun _ => ⟨fun _ => ⟨fun _ => ⟨fun a => absurd a (by decide), fun _ => h0⟩, fun a => absurd a (by decide)⟩, fun a => absurd a (by decide)⟩⟩
  · exact ⟨fun a => absurd a (by decide), fun _ => ⟨fun _ => ⟨fun _ => ⟨fun a => absurd a (by decide), fun _ => h0⟩, fun a => absurd a (by decide)⟩, fun a => absurd a (by decide)⟩⟩
/-- the shape's road to the check of time -/
theorem q_ww_head {S : GS} {n s : Nat} {Q : Int32 → GS → Prop} (hF : Fix S) (hn5 : n < 512) (hs : gX S 23 n = nI s) (hs6 : s ≤ 6) (h : wX9_wrongWith_61 Q 14 (nI n) (if s = 0 ∨ s = 4 then 1 else 0) (if s = 1 ∨ s = 5 ∨ s = 6 then 1 else 0) (if s ≤ 3 then gX S 14 30 else gX S 14 31) S) : wX9_wrongWith S 14 (nI n) Q := by
  have hv := nj_in (n := 512) hn5 (by omega)
  have hcl := nj_clamp (show n < 2147483648 by omega)
  have p1 := fn_14 hF
  have p2 := fk_14 hF
  unfold wX9_wrongWith wX9_wrongWith_16 wX9_wrongWith_21 wX9_wrongWith_38 wX9_wrongWith_43
  rw [hcl]
  refine ⟨p1, p2, 23, fr_14_12 hF, fn_23 hF, fk_23 hF, by rw [fl_23 hF]; exact hv, ?_⟩
  rw [hs]
  have : s = 0 ∨ s = 1 ∨ s = 2 ∨ s = 3 ∨ s = 4 ∨ s = 5 ∨ s = 6 := by omega
  rcases this with e | e | e | e | e | e | e <;> subst e
  · exact ⟨fun _ => ⟨fun a => absurd a (by decide), fun _ => ⟨fun a => absurd a (by decide), fun _ => ⟨fun _ => ⟨fun a => absurd a (by decide), fun _ => ⟨p1, p2, h⟩⟩, fun a => absurd a (by decide)⟩⟩⟩, fun a => absurd (by decide) a⟩
  · exact ⟨fun a => absurd a (by decide), fun _ => ⟨fun _ => ⟨fun _ => ⟨fun a => absurd a (by decide), fun _ => ⟨p1, p2, h⟩⟩, fun a => absurd (by decide) a⟩, fun a => absurd a (by decide)⟩⟩
  · exact ⟨fun a => absurd a (by decide), fun _ => ⟨fun _ => ⟨fun a => absurd a (by decide), fun _ => ⟨fun a => absurd a (by decide), fun _ => ⟨fun _ => ⟨fun a => absurd a (by decide), fun _ => ⟨p1, p2, h⟩⟩, fun a => absurd a (by decide)⟩⟩⟩, fun a => absurd a (by decide)⟩⟩
  · exact ⟨fun a => absurd a (by decide), fun _ => ⟨fun _ => ⟨fun a => absurd a (by decide), fun _ => ⟨fun a => absurd a (by decide), fun _ => ⟨fun _ => ⟨fun a => absurd a (by decide), fun _ => ⟨p1, p2, h⟩⟩, fun a => absurd a (by decide)⟩⟩⟩, fun a => absurd a (by decide)⟩⟩
  · exact ⟨fun a => absurd a (by decide), fun _ => ⟨fun a => absurd (by decide) a, fun _ => ⟨fun a => absurd a (by decide), fun _ => ⟨fun a => absurd a (by decide), fun _ => ⟨fun _ => ⟨fun _ => ⟨p1, p2, h⟩, fun a => absurd (by decide) a⟩, fun a => absurd a (by decide)⟩⟩⟩⟩⟩
  · exact ⟨fun a => absurd a (by decide), fun _ => ⟨fun _ => ⟨fun a => absurd a (by decide), fun _ => ⟨fun _ => ⟨fun _ => ⟨p1, p2, h⟩, fun a => absurd (by decide) a⟩, fun a => absurd (by decide) a⟩⟩, fun a => absurd a (by decide)⟩⟩
  · exact ⟨fun a => absurd a (by decide), fun _ => ⟨fun _ => ⟨fun a => absurd a (by decide), fun _ => ⟨fun a => absurd a (by decide), fun _ => ⟨fun a => absurd (by decide) a, fun _ => ⟨fun _ => ⟨p1, p2, h⟩, fun a => absurd (by decide) a⟩⟩⟩⟩, fun a => absurd a (by decide)⟩⟩
theorem q_ww_open {S : GS} {n s : Nat} {Q : Int32 → GS → Prop} (hF : Fix S) (hn5 : n < 512) (hs : gX S 23 n = nI s) (hs2 : s = 0 ∨ s = 4) (h2 : (∃ j, j < n ∧ cBk S n j) → Q 2 S) (h3 : (∀ j, j < n → ¬ cBk S n j) → (∃ j, j < n ∧ cSt S n j) → Q 3 S) (h4 : (∀ j, j < n → ¬ cBk S n j) → (∀ j, j < n → ¬ cSt S n j) → (if s ≤ 3 then gX S 14 30 else gX S 14 31) ≠ -1 → Q 4 S) (h0 : (∀ j, j < n → ¬ cBk S n j) → (∀ j, j < n → ¬ cSt S n j) → (if s ≤ 3 then gX S 14 30 else gX S 14 31) = -1 → Q 0 S) : wX9_wrongWith S 14 (nI n) Q := by
  refine q_ww_head hF hn5 hs (by omega) ?_
  rw [if_pos hs2, if_neg (by omega)]
  refine ⟨fn_14 hF, fk_14 hF, q_isBack hF hn5 (fun a _ => ⟨fun x => absurd x (by decide), fun _ => h2 a⟩) (fun a _ => ⟨fun _ => ⟨fun x => absurd x (by decide), fun _ => ?_⟩, fun x => absurd rfl x⟩)⟩
  refine q_isStale hF hn5 (fun c _ => ⟨fun x => absurd x (by decide), fun _ => h3 a c⟩) (fun c _ => ⟨fun _ => ?_, fun x => absurd rfl x⟩)
  unfold wX9_wrongWith_87 wX9_wrongWith_99 wX9_wrongWith_127 wX9_wrongWith_157 wX9_wrongWith_158
  refine ⟨fun x => absurd x (by decide), fun _ => ⟨fun e => ⟨fun _ => ⟨fn_14 hF, fk_14 hF, ?_⟩, fun x => absurd x (by decide)⟩, fun e => h4 a c e⟩⟩
  refine q_isWrong_no hF hn5 hs ?_ (fun _ => ⟨fun _ => ⟨fun _ => h0 a c e, fun x => absurd rfl x⟩, fun x => absurd rfl x⟩)
  rcases hs2 with z | z <;> subst z
  · exact Or.inl (by decide)
  · exact Or.inr (Or.inl (by decide))
/-- a line that does not open: what stands behind the check of the id -/
theorem q_ww_more {S : GS} {n s : Nat} {Q : Int32 → GS → Prop} (hF : Fix S) (hn5 : n < 512) (hs : gX S 23 n = nI s) (hs6 : s ≤ 6) (hs2 : ¬ (s = 0 ∨ s = 4)) (hE : gX S 14 25 ≠ 40) {op : Int32} (hop : op = if s ≤ 3 then gX S 14 30 else gX S 14 31) (h2 : (∃ j, j < n ∧ cBk S n j) → Q 2 S) (h5 : (∀ j, j < n → ¬ cBk S n j) → op = -1 → Q 5 S) (hb : ∀ b, op = nI b → b < 512 → (gX S 27 b ≠ gX S 27 n → (∀ j, j < n → ¬ cBk S n j) → Q 5 S) ∧ (gX S 27 b = gX S 27 n → (∀ j, j < n → ¬ cBk S n j) → ∀ Q2 : Int32 → GS → Prop, (Q 6 S → Q2 1 S) → (Q 0 S → Q2 0 S) → wX9_isWrong S 14 (nI n) Q2)) (hopb : op = -1 ∨ ∃ b, b < 512 ∧ op = nI b) : wX9_wrongWith S 14 (nI n) Q := by
  have hv := nj_in (n := 512) hn5 (by omega)
  have hcl := nj_clamp (show n < 2147483648 by omega)
  refine q_ww_head hF hn5 hs hs6 ?_
  rw [if_neg hs2, ← hop]
  refine ⟨fn_14 hF, fk_14 hF, q_isBack hF hn5 (fun a _ => ⟨fun x => absurd x (by decide), fun _ => h2 a⟩) (fun a _ => ⟨fun _ => ⟨fun _ => ?_, fun x => absurd rfl x⟩, fun x => absurd rfl x⟩)⟩
  unfold wX9_wrongWith_87 wX9_wrongWith_99 wX9_wrongWith_125
  refine ⟨fun _ => ⟨fun x => absurd rfl x, fun _ => ⟨fun e => h5 a e, fun e => ?_⟩⟩, fun x => absurd rfl x⟩
  rcases hopb with z | ⟨b, hb5, z⟩
  · exact absurd z e
  · obtain ⟨g1, g2⟩ := hb b z hb5
    refine ⟨fn_14 hF, fk_14 hF, 27, fr_14_16 hF, fn_27 hF, fk_27 hF, ?_⟩
    rw [z, hcl, nj_clamp (by omega), fl_27 hF]
    refine ⟨nj_in hb5 (by omega), hv, fun c => ?_, fun c => g1 c a⟩
    unfold wX9_wrongWith_127 wX9_wrongWith_157 wX9_wrongWith_158
    refine ⟨fn_14 hF, fk_14 hF, g2 c a _ (fun q _ => ⟨fun x => absurd x (by decide), fun _ => q⟩) (fun q _ => ⟨fun _ => ⟨fun _ => q, fun _ => ⟨fun _ => q, fun x => absurd x hE⟩⟩, fun x => absurd rfl x⟩)⟩
