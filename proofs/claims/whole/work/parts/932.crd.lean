/-! THE CLASS'S LINE, up to what it read. -/
theorem closed_ag {P : Nat → Nat → Prop} {S S2 : GS} (h : Ag P S S2) (hc : closed S) : closed S2 := by
  unfold closed
  rw [h.1, h.R]
  exact hc
theorem n_nw (S : GS) (c L : Nat) : gN (nwS S c L) = gN S + 1 := rfl
theorem x_nw_o {S : GS} {c L k : Nat} (h : k < gN S) (j : Nat) : gX (nwS S c L) k j = gX S k j := by
  show va_up (gX S) (gN S) (fun _ => 0) k j = _
  rw [va_up_ne _ _ (by omega)]
theorem z_nw_o {S : GS} {c L k : Nat} (h : k < gN S) (j : Nat) : gZ (nwS S c L) k j = gZ S k j := by
  show va_up (gZ S) (gN S) (fun _ => 0) k j = _
  rw [va_up_ne _ _ (by omega)]
theorem r_nw_o {S : GS} {c L k : Nat} (h : k < gN S) (j : Nat) : gR (nwS S c L) k j = gR S k j := by
  show va_up (gR S) (gN S) (fun _ => none) k j = _
  rw [va_up_ne _ _ (by omega)]
theorem k_nw_o {S : GS} {c L k : Nat} (h : k < gN S) : gK (nwS S c L) k = gK S k := by
  show va_up (gK S) (gN S) c k = _
  rw [va_up_ne _ _ (by omega)]
theorem l_nw_o {S : GS} {c L k : Nat} (h : k < gN S) : gL (nwS S c L) k = gL S k := by
  show va_up (gL S) (gN S) L k = _
  rw [va_up_ne _ _ (by omega)]
theorem x_nw_n (S : GS) (c L j : Nat) : gX (nwS S c L) (gN S) j = 0 := by
  show va_up (gX S) (gN S) (fun _ => 0) (gN S) j = _
  rw [va_up_self]
theorem k_nw_n (S : GS) (c L : Nat) : gK (nwS S c L) (gN S) = c := by
  show va_up (gK S) (gN S) c (gN S) = _
  rw [va_up_self]
theorem r_nw_n (S : GS) (c L j : Nat) : gR (nwS S c L) (gN S) j = none := by
  show va_up (gR S) (gN S) (fun _ => none) (gN S) j = _
  rw [va_up_self]
theorem closed_nw {S : GS} (hc : closed S) (c L : Nat) : closed (nwS S c L) := by
  intro k j q hk hq
  rw [n_nw] at hk ⊢
  by_cases e : k < gN S
  · rw [r_nw_o e] at hq
    have := hc k j q e hq
    omega
  · have e : k = gN S := by omega
    rw [e, r_nw_n] at hq
    exact absurd hq (by simp)
theorem closed_sR {S : GS} (hc : closed S) (k j : Nat) (v : Option Nat) (hv : ∀ q, v = some q → q < gN S) : closed (sR S k j v) := by
  intro a i q ha hq
  rw [r_sR] at hq
  split at hq
  · exact hv q hq
  · exact hc a i q ha hq
theorem Fix.nw {S : GS} (h : Fix S) (c L : Nat) : Fix (nwS S c L) := by
  refine ⟨?_, fun k hk => ?_, fun t ht => ?_⟩
  · rw [n_nw]; have := h.1; omega
  · rw [k_nw_o (by have := h.1; omega), l_nw_o (by have := h.1; omega)]; exact h.2.1 k hk
  · have h14 : t.1 ≤ 14 := by
      have : ∀ t ∈ fR, t.1 ≤ 14 := by decide
      exact this t ht
    rw [r_nw_o (by have := h.1; omega)]
    exact h.2.2 t ht
/-- after reading: the class's lines, pad and entry are new, and a reader stands at gN S -/
def Ac (S S1 : GS) (n : Nat) (e : Nat → Int32) : Prop := Fix S1 ∧ closed S1 ∧ gN S1 = gN S + 1 ∧ gK S1 (gN S) = 4 ∧ (∀ k, k < gN S → gK S1 k = gK S k ∧ gL S1 k = gL S k) ∧ (∀ k j, k < gN S → gZ S1 k j = gZ S k j) ∧ (∀ k j, k < gN S → gR S1 k j = gR S k j) ∧ (∀ k j, k < gN S → ¬ (k = 5 ∨ (k = 0 ∧ j = 10) ∨ (k = 1 ∧ j = 1)) → gX S1 k j = gX S k j) ∧ gX S1 0 10 = nI (n + 1) ∧ gX S1 1 1 = 0 ∧ ∀ j, gX S1 5 j = e j
/-- what the entry holds of a line that was read -/
def En (e : Nat → Int32) (s k c : Nat) (ns : List Int32) : Prop := e 0 = nI s ∧ (s ≤ 1 → e 1 = nI k ∧ e 2 = nI c) ∧ e 3 = fId ns ∧ e 4 = fTm ns ∧ ((s = 1 ∨ s = 2 ∨ s = 3) → e 5 = fSz ns 0 ∧ e 6 = fSz ns 1) ∧ (s = 1 → e 7 = fSz ns 2) ∧ ((s = 1 ∨ s = 5) → e 8 = fTk s ns)
theorem fTm_pre {T : Nat → Int32} {n : Nat} {A : List Int32} (h : rok T n (mH ++ A) = true) : fTm (rnm T n (mH ++ A)) = fTm (rnm T n mH) ∧ fId (rnm T n (mH ++ A)) = fId (rnm T n mH) := by
  have h0 := r_pre h
  have l0 := rnm_len h0
  have c0 : cn mH = 3 := by decide +kernel
  rw [c0] at l0
  rw [(r_app_t A h0).2.2]
  unfold fTm fId
  rw [getD_app0 l0 0 (by omega), getD_app0 l0 1 (by omega), getD_app0 l0 2 (by omega)]
  exact ⟨rfl, rfl⟩
theorem c_read {S : GS} {n pl : Nat} {Q : Int32 → GS → Prop} (hF : Fix S) (hc : closed S) (hn : gX S 0 10 = nI n) (hpl : gX S 1 1 = nI pl) (hp72 : pl ≤ 72)
    (hsyn : ∀ S1 fault e, rdF (gX S 2) pl allM 0 = (none, fault) → Ac S S1 n e → gX S1 (gN S) 2 = nI fault → wX8_line_66 Q 0 (gN S) 0 (-1) S1)
    (hfit : ∀ S1 s k c e, rdF (gX S 2) pl allM 0 = (some (s, k, c), 0) → vld s k c → Ac S S1 n e → En e s k c (rnm (gX S 2) pl (mld s k c)) → wX8_answerTo S1 0 5 (fun u S2 => gExt S2 S1 → wX8_line_66 Q 0 (gN S) 1 u S2)) : wX8_line S 0 Q := by
  have h39 := hF.1
  refine ⟨fn_0 hF, fk_0 hF, fun S15 e15 => ?_⟩
  rw [hn, nj_succ] at e15
  have f15 : Fix S15 := by rw [e15]; exact hF.x _ _ _
  have c15 : closed S15 := by rw [e15]; exact hc
  have n15 : gN S15 = gN S := by rw [e15]; rfl
  refine ⟨c15, fun S19 e19 => ?_⟩
  have f19 : Fix S19 := by rw [e19]; exact f15.nw _ _
  have c19 : closed S19 := by rw [e19]; exact closed_nw c15 _ _
  have n19 : gN S19 = gN S + 1 := by rw [e19, n_nw, n15]
  have k19 : gK S19 (gN S) = 4 := by rw [e19, ← n15, k_nw_n]
  rw [n15]
  refine ⟨1, fr_0_0 f19, by rw [n19]; omega, k19, fun S26 e26 _ => ⟨5, ?_, ?_⟩⟩
  · rw [e26, r_sR, if_neg (by omega)]; exact fr_0_2 f19
  have f26 : Fix S26 := by
    rw [e26]
    refine f19.r _ _ _ ?_
    have : ∀ t ∈ fR, t.1 ≤ 14 := by decide
    intro t ht a
    have := this t ht
    omega
  have c26 : closed S26 := by
    rw [e26]
    refine closed_sR c19 _ _ _ (fun q hq => ?_)
    injection hq with hq
    have := f19.1
    omega
  have n26 : gN S26 = gN S + 1 := by rw [e26]; exact n19
  have x26 : ∀ k j, k < gN S → gX S26 k j = gX S15 k j := by
    intro k j hk
    rw [e26]
    show gX S19 k j = _
    rw [e19, x_nw_o (by omega)]
  have T26 : gX S26 2 = gX S 2 := by
    funext j
    rw [x26 2 j (by omega), e15, x_sX, if_neg (by omega)]
  have hb26 : Rb S26 (gN S) pl := by
    refine ⟨f26, by omega, ?_, ?_, h39, ?_, hp72⟩
    · rw [e26]; exact k19
    · rw [e26, r_sR, if_pos ⟨rfl, rfl⟩]
    · rw [x26 1 1 (by omega), e15, x_sX, if_neg (by omega)]; exact hpl
  have hr26 : Rr S26 S26 (gN S) pl [] (fun j => gX S26 5 j) := by
    refine ⟨hb26, Ag.rf _ _, ?_, ?_, Nat.zero_le _, fun j => rfl⟩
    · rw [e26]
      show gX S19 (gN S) 1 = 0
      rw [e19, ← n15, x_nw_n]
    · rw [e26]
      show gX S19 (gN S) 2 = nI 0
      rw [e19, ← n15, x_nw_n]
      decide
  refine q_readHead hr26 (fun S34 e34 h34 hh34 _ => ⟨5, fr_0_2 h34.fix, q_readMessage h34 (fun S42 s k c e42 hv hsel h42 b0 b12 b3 b4 hE _ => ?_)⟩)
  rw [T26] at hsel hE hh34
  have hmain := rd_main hsel hv
  refine q_readAll h42 (fun _ => ⟨1, fr_0_0 h42.fix, fn_1 h42.fix, fk_1 h42.fix, fn_1 h42.fix, fk_1 h42.fix, fun S58 e58 _ => ?_⟩)
  rw [T26]
  have hAc : Ac S S58 n e42 := by
    have a42 := h42.2.1
    have x42 : ∀ k j, k < gN S → k ≠ 5 → gX S42 k j = gX S15 k j := by
      intro k j hk h5
      rw [a42.X k j (by unfold pE; omega), x26 k j hk]
    refine ⟨by rw [e58]; exact h42.fix.x _ _ _, by rw [e58]; exact (closed_ag a42 c26 : closed S42), ?_, ?_, ?_, ?_, ?_, ?_, ?_, ?_, ?_⟩
    · rw [e58]; show gN S42 = _; rw [a42.1, n26]
    · rw [e58]; show gK S42 _ = _; rw [a42.2.1, e26]; exact k19
    · intro k hk
      rw [e58]
      show gK S42 k = _ ∧ gL S42 k = _
      rw [a42.2.1, a42.2.2.1, e26]
      show gK S19 k = _ ∧ gL S19 k = _
      rw [e19, k_nw_o (by omega), l_nw_o (by omega), e15]
      exact ⟨rfl, rfl⟩
    · intro k j hk
      rw [e58]
      show gZ S42 k j = _
      rw [a42.Z, e26]
      show gZ S19 k j = _
      rw [e19, z_nw_o (by omega), e15]
      rfl
    · intro k j hk
      rw [e58]
      show gR S42 k j = _
      rw [a42.R, e26, r_sR, if_neg (by omega), e19, r_nw_o (by omega), e15]
      rfl
    · intro k j hk hne
      rw [e58, x_sX, if_neg (by omega), x42 k j hk (by omega), e15, x_sX, if_neg (by omega)]
    · rw [e58, x_sX, if_neg (by omega), x42 0 10 (by omega) (by omega), e15, x_sX, if_pos ⟨rfl, rfl⟩]
    · rw [e58, x_sX, if_pos ⟨rfl, rfl⟩]
    · intro j
      rw [e58, x_sX, if_neg (by omega)]
      exact h42.2.2.2.2.2 j
  by_cases hfit' : rok (gX S 2) pl (mld s k c) = true ∧ rto (gX S 2) pl (mld s k c) = pl
  · rw [if_pos hfit']
    refine ⟨fun a => absurd a (by decide), fun _ => ⟨5, fr_0_2 hAc.1, ?_⟩⟩
    refine hfit S58 s k c e42 (hmain.1 hfit') hv hAc ?_
    obtain ⟨g1, g2⟩ := fTm_pre (A := mT s k c) hfit'.1
    obtain ⟨g3, g4⟩ := hh34 (r_pre (A := mT s k c) hfit'.1)
    obtain ⟨g5, g6, g7⟩ := hE hfit'.1
    refine ⟨b0, b12, ?_, ?_, g5, g6, g7⟩
    · rw [b3, g4]; exact g2.symm
    · rw [b4, g3]; exact g1.symm
  · rw [if_neg hfit']
    refine ⟨fun _ => ?_, fun a => absurd rfl a⟩
    refine hsyn S58 _ e42 (hmain.2 hfit') hAc ?_
    rw [e58, x_sX, if_neg (by omega), h42.2.2.2.1, T26]
    rfl
