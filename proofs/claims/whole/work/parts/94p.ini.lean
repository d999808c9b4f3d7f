/-! THE OBJECTS THAT THE LAW MAKES FIRST (laid by gen94p.py). -/
def lkR (L : List (Nat × Nat × Nat)) (k j : Nat) : Option Nat := match L with
  | [] => none
  | t :: L => if k = t.1 ∧ j = t.2.1 then some t.2.2 else lkR L k j
def lkX (L : List (Nat × Nat)) (k j : Nat) : Int32 := match L with
  | [] => 0
  | t :: L => if k = t.1 ∧ j = t.2 then -1 else lkX L k j
def Ini (S : GS) (n : Nat) (L : List (Nat × Nat × Nat)) (X : List (Nat × Nat)) : Prop := gN S = n ∧ (∀ k, k < n → gK S k = fK k ∧ gL S k = fL k) ∧ (∀ k j, gR S k j = lkR L k j) ∧ (∀ k j, gX S k j = lkX X k j) ∧ (∀ k j, gZ S k j = 0)
theorem lkR_out {L : List (Nat × Nat × Nat)} {n : Nat} (h : ∀ t ∈ L, t.1 < n) (j : Nat) : lkR L n j = none := by
  induction L with
  | nil => rfl
  | cons t L ih =>
    have := h t List.mem_cons_self
    rw [lkR, if_neg (by omega)]
    exact ih (fun u hu => h u (List.mem_cons_of_mem _ hu))
theorem lkX_out {L : List (Nat × Nat)} {n : Nat} (h : ∀ t ∈ L, t.1 < n) (j : Nat) : lkX L n j = 0 := by
  induction L with
  | nil => rfl
  | cons t L ih =>
    have := h t List.mem_cons_self
    rw [lkX, if_neg (by omega)]
    exact ih (fun u hu => h u (List.mem_cons_of_mem _ hu))
theorem lkR_lt {L : List (Nat × Nat × Nat)} {n : Nat} (h : ∀ t ∈ L, t.2.2 < n) {k j q : Nat} (hq : lkR L k j = some q) : q < n := by
  induction L with
  | nil => simp [lkR] at hq
  | cons t L ih =>
    rw [lkR] at hq
    split at hq
    · injection hq with hq; rw [← hq]; exact h t List.mem_cons_self
    · exact ih (fun u hu => h u (List.mem_cons_of_mem _ hu)) hq
theorem Ini.nw {S S2 : GS} {n : Nat} {L : List (Nat × Nat × Nat)} {X : List (Nat × Nat)} {c len : Nat} (h : Ini S n L X) (e : S2 = nwS S c len) (hc : fK n = c) (hl : fL n = len) (h1 : ∀ t ∈ L, t.1 < n) (h2 : ∀ t ∈ X, t.1 < n) : Ini S2 (n + 1) L X := by
  obtain ⟨a, b, r, x, z⟩ := h
  subst e
  have k0 : ∀ k, gK (nwS S c len) k = va_up (gK S) (gN S) c k := fun _ => rfl
  have l0 : ∀ k, gL (nwS S c len) k = va_up (gL S) (gN S) len k := fun _ => rfl
  have r0 : ∀ k, gR (nwS S c len) k = va_up (gR S) (gN S) (fun _ => none) k := fun _ => rfl
  have x0 : ∀ k, gX (nwS S c len) k = va_up (gX S) (gN S) (fun _ => 0) k := fun _ => rfl
  have z0 : ∀ k, gZ (nwS S c len) k = va_up (gZ S) (gN S) (fun _ => 0) k := fun _ => rfl
  refine ⟨by show gN S + 1 = n + 1; rw [a], fun k hk => ?_, fun k j => ?_, fun k j => ?_, fun k j => ?_⟩
  · rw [k0, l0, a]
    by_cases e : k = n
    · subst e; rw [va_up_self, va_up_self]; exact ⟨hc.symm, hl.symm⟩
    · rw [va_up_ne _ _ e, va_up_ne _ _ e]; exact b k (by omega)
  · rw [r0, a]
    by_cases e : k = n
    · subst e; rw [va_up_self, lkR_out h1]
    · rw [va_up_ne _ _ e]; exact r k j
  · rw [x0, a]
    by_cases e : k = n
    · subst e; rw [va_up_self, lkX_out h2]
    · rw [va_up_ne _ _ e]; exact x k j
  · rw [z0, a]
    by_cases e : k = n
    · subst e; rw [va_up_self]
    · rw [va_up_ne _ _ e]; exact z k j
theorem Ini.r {S S2 : GS} {n : Nat} {L : List (Nat × Nat × Nat)} {X : List (Nat × Nat)} {k j q : Nat} {v : Option Nat} (h : Ini S n L X) (e : S2 = sR S k j v) (hv : v = some q) : Ini S2 n ((k, j, q) :: L) X := by
  obtain ⟨a, b, r, x, z⟩ := h
  subst e hv
  refine ⟨a, b, fun k' j' => ?_, x, z⟩
  rw [r_sR, lkR, r]
theorem Ini.x {S S2 : GS} {n : Nat} {L : List (Nat × Nat × Nat)} {X : List (Nat × Nat)} {k j : Nat} (h : Ini S n L X) (e : S2 = sX S k j (-1)) : Ini S2 n L ((k, j) :: X) := by
  obtain ⟨a, b, r, x, z⟩ := h
  subst e
  refine ⟨a, b, r, fun k' j' => ?_, z⟩
  rw [x_sX, lkX, x]
theorem Ini.cl {S : GS} {n : Nat} {L : List (Nat × Nat × Nat)} {X : List (Nat × Nat)} (h : Ini S n L X) (h1 : ∀ t ∈ L, t.2.2 < n) : closed S := by
  intro k j q _ hq
  rw [h.2.2.1] at hq
  rw [h.1]
  exact lkR_lt h1 hq
theorem Ini.lt {S : GS} {n : Nat} {L : List (Nat × Nat × Nat)} {X : List (Nat × Nat)} (h : Ini S n L X) {k : Nat} (hk : k < n) : k < gN S := by rw [h.1]; exact hk
theorem Ini.kd {S : GS} {n : Nat} {L : List (Nat × Nat × Nat)} {X : List (Nat × Nat)} (h : Ini S n L X) {k : Nat} (hk : k < n) {c : Nat} (hc : fK k = c) : gK S k = c := by rw [(h.2.1 k hk).1]; exact hc
def S00 : GS := (0, fun _ => 0, fun _ => 0, fun _ _ => 0, fun _ _ => 0, fun _ _ => none, fun _ _ => 0)
theorem Ini.zero : Ini S00 0 [] [] := ⟨rfl, fun k hk => absurd hk (by omega), fun _ _ => rfl, fun _ _ => rfl, fun _ _ => rfl⟩
theorem init8 {S : GS} {Q : GS → Prop} (h : Ini S 1 [] []) (hQ : ∀ S2, Ini S2 14 [(0, 6, 13), (0, 5, 12), (0, 4, 8), (8, 2, 11), (8, 1, 10), (8, 0, 9), (0, 3, 6), (6, 0, 7), (0, 2, 5), (0, 1, 3), (3, 0, 4), (0, 0, 1), (1, 0, 2)] [(0, 9), (12, 2), (12, 1)] → Q S2) : wX8_init S 0 Q := by
  unfold wX8_init
  refine ⟨h.lt (by decide), h.kd (by decide) (by decide), h.cl (by decide), fun S1 eS1 => ?_⟩
  have iS1 := h.nw (S2 := S1) eS1 (by decide) (by decide) (by decide) (by decide)
  try unfold wX6_init
  rw [h.1]
  refine ⟨iS1.lt (by decide), iS1.kd (by decide) (by decide), iS1.cl (by decide), fun S2a eS2a S2 eS2 => ?_⟩
  have iS2a := iS1.nw (S2 := S2a) eS2a (by decide) (by decide) (by decide) (by decide)
  have iS2 := iS2a.r (S2 := S2) (q := 2) eS2 (by first | rfl | rw [iS1.1])
  intro _
  intro T0 eT0
  have iT0 := iS2.r (S2 := T0) (q := 1) eT0 (by first | rfl | rw [h.1])
  refine ⟨iT0.cl (by decide), fun S3 eS3 => ?_⟩
  have iS3 := iT0.nw (S2 := S3) eS3 (by decide) (by decide) (by decide) (by decide)
  try unfold wX6_init
  rw [iT0.1]
  refine ⟨iS3.lt (by decide), iS3.kd (by decide) (by decide), iS3.cl (by decide), fun S4a eS4a S4 eS4 => ?_⟩
  have iS4a := iS3.nw (S2 := S4a) eS4a (by decide) (by decide) (by decide) (by decide)
  have iS4 := iS4a.r (S2 := S4) (q := 4) eS4 (by first | rfl | rw [iS3.1])
  intro _
  intro T1 eT1
  have iT1 := iS4.r (S2 := T1) (q := 3) eT1 (by first | rfl | rw [iT0.1])
  refine ⟨iT1.cl (by decide), fun S5 eS5 => ?_⟩
  have iS5 := iT1.nw (S2 := S5) eS5 (by decide) (by decide) (by decide) (by decide)
  unfold wX1_init
  intro _
  intro T2 eT2
  have iT2 := iS5.r (S2 := T2) (q := 5) eT2 (by first | rfl | rw [iT1.1])
  refine ⟨iT2.cl (by decide), fun S6 eS6 => ?_⟩
  have iS6 := iT2.nw (S2 := S6) eS6 (by decide) (by decide) (by decide) (by decide)
  unfold wX3_init
  rw [iT2.1]
  refine ⟨iS6.lt (by decide), iS6.kd (by decide) (by decide), iS6.cl (by decide), fun S7a eS7a S7 eS7 => ?_⟩
  have iS7a := iS6.nw (S2 := S7a) eS7a (by decide) (by decide) (by decide) (by decide)
  have iS7 := iS7a.r (S2 := S7) (q := 7) eS7 (by first | rfl | rw [iS6.1])
  intro _
  intro T3 eT3
  have iT3 := iS7.r (S2 := T3) (q := 6) eT3 (by first | rfl | rw [iT2.1])
  refine ⟨iT3.cl (by decide), fun S8 eS8 => ?_⟩
  have iS8 := iT3.nw (S2 := S8) eS8 (by decide) (by decide) (by decide) (by decide)
  unfold wX0_init
  rw [iT3.1]
  refine ⟨iS8.lt (by decide), iS8.kd (by decide) (by decide), iS8.cl (by decide), fun U1 eU1 U2 eU2 => ?_⟩
  have iU1 := iS8.nw (S2 := U1) eU1 (by decide) (by decide) (by decide) (by decide)
  have iU2 := iU1.r (S2 := U2) (q := 9) eU2 (by first | rfl | rw [iS8.1])
  refine ⟨iU2.cl (by decide), fun U3 eU3 U4 eU4 => ?_⟩
  have iU3 := iU2.nw (S2 := U3) eU3 (by decide) (by decide) (by decide) (by decide)
  have iU4 := iU3.r (S2 := U4) (q := 10) eU4 (by first | rfl | rw [iU2.1])
  refine ⟨iU4.cl (by decide), fun U5 eU5 U6 eU6 _ => ?_⟩
  have iU5 := iU4.nw (S2 := U5) eU5 (by decide) (by decide) (by decide) (by decide)
  have iU6 := iU5.r (S2 := U6) (q := 11) eU6 (by first | rfl | rw [iU4.1])
  intro T4 eT4
  have iT4 := iU6.r (S2 := T4) (q := 8) eT4 (by first | rfl | rw [iT3.1])
  refine ⟨iT4.cl (by decide), fun S9 eS9 => ?_⟩
  have iS9 := iT4.nw (S2 := S9) eS9 (by decide) (by decide) (by decide) (by decide)
  unfold wX7_init
  rw [iT4.1]
  refine ⟨iS9.lt (by decide), iS9.kd (by decide) (by decide), fun V1 eV1 V2 eV2 _ => ?_⟩
  have iV1 := iS9.x (S2 := V1) eV1
  have iV2 := iV1.x (S2 := V2) eV2
  intro T5 eT5
  have iT5 := iV2.r (S2 := T5) (q := 12) eT5 (by first | rfl | rw [iT4.1])
  refine ⟨iT5.cl (by decide), fun S10 eS10 => ?_⟩
  have iS10 := iT5.nw (S2 := S10) eS10 (by decide) (by decide) (by decide) (by decide)
  unfold wX5_init
  intro _
  intro T6 eT6
  have iT6 := iS10.r (S2 := T6) (q := 13) eT6 (by first | rfl | rw [iT5.1])
  intro V3 eV3
  have iV3 := iT6.x (S2 := V3) eV3
  exact hQ V3 iV3
theorem init9 {S : GS} {Q : GS → Prop} (h : Ini S 15 [(0, 6, 13), (0, 5, 12), (0, 4, 8), (8, 2, 11), (8, 1, 10), (8, 0, 9), (0, 3, 6), (6, 0, 7), (0, 2, 5), (0, 1, 3), (3, 0, 4), (0, 0, 1), (1, 0, 2)] [(0, 9), (12, 2), (12, 1)]) (hQ : ∀ S2, Ini S2 37 [(14, 28, 36), (14, 27, 35), (14, 26, 34), (14, 24, 33), (14, 23, 32), (14, 22, 31), (14, 21, 30), (14, 18, 29), (14, 17, 28), (14, 16, 27), (14, 15, 26), (14, 14, 25), (14, 13, 24), (14, 12, 23), (14, 11, 22), (14, 10, 21), (14, 9, 20), (14, 8, 19), (14, 6, 18), (14, 4, 17), (14, 2, 16), (14, 0, 15), (0, 6, 13), (0, 5, 12), (0, 4, 8), (8, 2, 11), (8, 1, 10), (8, 0, 9), (0, 3, 6), (6, 0, 7), (0, 2, 5), (0, 1, 3), (3, 0, 4), (0, 0, 1), (1, 0, 2)] [(14, 31), (14, 30), (0, 9), (12, 2), (12, 1)] → Q S2) : wX9_init S 14 Q := by
  unfold wX9_init
  refine ⟨h.lt (by decide), h.kd (by decide) (by decide), h.cl (by decide), fun A0 eA0 C0 eC0 => ?_⟩
  have iA0 := h.nw (S2 := A0) eA0 (by decide) (by decide) (by decide) (by decide)
  have iC0 := iA0.r (S2 := C0) (q := 15) eC0 (by first | rfl | rw [h.1])
  refine ⟨iC0.cl (by decide), fun A1 eA1 C1 eC1 => ?_⟩
  have iA1 := iC0.nw (S2 := A1) eA1 (by decide) (by decide) (by decide) (by decide)
  have iC1 := iA1.r (S2 := C1) (q := 16) eC1 (by first | rfl | rw [iC0.1])
  refine ⟨iC1.cl (by decide), fun A2 eA2 C2 eC2 => ?_⟩
  have iA2 := iC1.nw (S2 := A2) eA2 (by decide) (by decide) (by decide) (by decide)
  have iC2 := iA2.r (S2 := C2) (q := 17) eC2 (by first | rfl | rw [iC1.1])
  refine ⟨iC2.cl (by decide), fun A3 eA3 C3 eC3 => ?_⟩
  have iA3 := iC2.nw (S2 := A3) eA3 (by decide) (by decide) (by decide) (by decide)
  have iC3 := iA3.r (S2 := C3) (q := 18) eC3 (by first | rfl | rw [iC2.1])
  refine ⟨iC3.cl (by decide), fun A4 eA4 C4 eC4 => ?_⟩
  have iA4 := iC3.nw (S2 := A4) eA4 (by decide) (by decide) (by decide) (by decide)
  have iC4 := iA4.r (S2 := C4) (q := 19) eC4 (by first | rfl | rw [iC3.1])
  refine ⟨iC4.cl (by decide), fun A5 eA5 C5 eC5 => ?_⟩
  have iA5 := iC4.nw (S2 := A5) eA5 (by decide) (by decide) (by decide) (by decide)
  have iC5 := iA5.r (S2 := C5) (q := 20) eC5 (by first | rfl | rw [iC4.1])
  refine ⟨iC5.cl (by decide), fun A6 eA6 C6 eC6 => ?_⟩
  have iA6 := iC5.nw (S2 := A6) eA6 (by decide) (by decide) (by decide) (by decide)
  have iC6 := iA6.r (S2 := C6) (q := 21) eC6 (by first | rfl | rw [iC5.1])
  refine ⟨iC6.cl (by decide), fun A7 eA7 C7 eC7 => ?_⟩
  have iA7 := iC6.nw (S2 := A7) eA7 (by decide) (by decide) (by decide) (by decide)
  have iC7 := iA7.r (S2 := C7) (q := 22) eC7 (by first | rfl | rw [iC6.1])
  refine ⟨iC7.cl (by decide), fun A8 eA8 C8 eC8 => ?_⟩
  have iA8 := iC7.nw (S2 := A8) eA8 (by decide) (by decide) (by decide) (by decide)
  have iC8 := iA8.r (S2 := C8) (q := 23) eC8 (by first | rfl | rw [iC7.1])
  refine ⟨iC8.cl (by decide), fun A9 eA9 C9 eC9 => ?_⟩
  have iA9 := iC8.nw (S2 := A9) eA9 (by decide) (by decide) (by decide) (by decide)
  have iC9 := iA9.r (S2 := C9) (q := 24) eC9 (by first | rfl | rw [iC8.1])
  refine ⟨iC9.cl (by decide), fun A10 eA10 C10 eC10 => ?_⟩
  have iA10 := iC9.nw (S2 := A10) eA10 (by decide) (by decide) (by decide) (by decide)
  have iC10 := iA10.r (S2 := C10) (q := 25) eC10 (by first | rfl | rw [iC9.1])
  refine ⟨iC10.cl (by decide), fun A11 eA11 C11 eC11 => ?_⟩
  have iA11 := iC10.nw (S2 := A11) eA11 (by decide) (by decide) (by decide) (by decide)
  have iC11 := iA11.r (S2 := C11) (q := 26) eC11 (by first | rfl | rw [iC10.1])
  refine ⟨iC11.cl (by decide), fun A12 eA12 C12 eC12 => ?_⟩
  have iA12 := iC11.nw (S2 := A12) eA12 (by decide) (by decide) (by decide) (by decide)
  have iC12 := iA12.r (S2 := C12) (q := 27) eC12 (by first | rfl | rw [iC11.1])
  refine ⟨iC12.cl (by decide), fun A13 eA13 C13 eC13 => ?_⟩
  have iA13 := iC12.nw (S2 := A13) eA13 (by decide) (by decide) (by decide) (by decide)
  have iC13 := iA13.r (S2 := C13) (q := 28) eC13 (by first | rfl | rw [iC12.1])
  refine ⟨iC13.cl (by decide), fun A14 eA14 C14 eC14 => ?_⟩
  have iA14 := iC13.nw (S2 := A14) eA14 (by decide) (by decide) (by decide) (by decide)
  have iC14 := iA14.r (S2 := C14) (q := 29) eC14 (by first | rfl | rw [iC13.1])
  refine ⟨iC14.cl (by decide), fun A15 eA15 C15 eC15 => ?_⟩
  have iA15 := iC14.nw (S2 := A15) eA15 (by decide) (by decide) (by decide) (by decide)
  have iC15 := iA15.r (S2 := C15) (q := 30) eC15 (by first | rfl | rw [iC14.1])
  refine ⟨iC15.cl (by decide), fun A16 eA16 C16 eC16 => ?_⟩
  have iA16 := iC15.nw (S2 := A16) eA16 (by decide) (by decide) (by decide) (by decide)
  have iC16 := iA16.r (S2 := C16) (q := 31) eC16 (by first | rfl | rw [iC15.1])
  refine ⟨iC16.cl (by decide), fun A17 eA17 C17 eC17 => ?_⟩
  have iA17 := iC16.nw (S2 := A17) eA17 (by decide) (by decide) (by decide) (by decide)
  have iC17 := iA17.r (S2 := C17) (q := 32) eC17 (by first | rfl | rw [iC16.1])
  refine ⟨iC17.cl (by decide), fun A18 eA18 C18 eC18 => ?_⟩
  have iA18 := iC17.nw (S2 := A18) eA18 (by decide) (by decide) (by decide) (by decide)
  have iC18 := iA18.r (S2 := C18) (q := 33) eC18 (by first | rfl | rw [iC17.1])
  refine ⟨iC18.cl (by decide), fun A19 eA19 C19 eC19 => ?_⟩
  have iA19 := iC18.nw (S2 := A19) eA19 (by decide) (by decide) (by decide) (by decide)
  have iC19 := iA19.r (S2 := C19) (q := 34) eC19 (by first | rfl | rw [iC18.1])
  refine ⟨iC19.cl (by decide), fun A20 eA20 C20 eC20 => ?_⟩
  have iA20 := iC19.nw (S2 := A20) eA20 (by decide) (by decide) (by decide) (by decide)
  have iC20 := iA20.r (S2 := C20) (q := 35) eC20 (by first | rfl | rw [iC19.1])
  refine ⟨iC20.cl (by decide), fun A21 eA21 C21 eC21 => ?_⟩
  have iA21 := iC20.nw (S2 := A21) eA21 (by decide) (by decide) (by decide) (by decide)
  have iC21 := iA21.r (S2 := C21) (q := 36) eC21 (by first | rfl | rw [iC20.1])
  intro M1 eM1 M2 eM2
  have iM1 := iC21.x (S2 := M1) eM1
  have iM2 := iM1.x (S2 := M2) eM2
  exact hQ M2 iM2
def iL : List (Nat × Nat × Nat) := [(14, 28, 36), (14, 27, 35), (14, 26, 34), (14, 24, 33), (14, 23, 32), (14, 22, 31), (14, 21, 30), (14, 18, 29), (14, 17, 28), (14, 16, 27), (14, 15, 26), (14, 14, 25), (14, 13, 24), (14, 12, 23), (14, 11, 22), (14, 10, 21), (14, 9, 20), (14, 8, 19), (14, 6, 18), (14, 4, 17), (14, 2, 16), (14, 0, 15), (0, 6, 13), (0, 5, 12), (0, 4, 8), (8, 2, 11), (8, 1, 10), (8, 0, 9), (0, 3, 6), (6, 0, 7), (0, 2, 5), (0, 1, 3), (3, 0, 4), (0, 0, 1), (1, 0, 2)]
def iX : List (Nat × Nat) := [(14, 31), (14, 30), (0, 9), (12, 2), (12, 1)]
theorem Ini.X0 {S : GS} {n : Nat} {L : List (Nat × Nat × Nat)} {X : List (Nat × Nat)} (h : Ini S n L X) (k j : Nat) {v : Int32} (hv : lkX X k j = v) : gX S k j = v := by rw [h.2.2.2.1]; exact hv
theorem Ini.R0 {S : GS} {n : Nat} {L : List (Nat × Nat × Nat)} {X : List (Nat × Nat)} (h : Ini S n L X) (k j : Nat) {v : Option Nat} (hv : lkR L k j = v) : gR S k j = v := by rw [h.2.2.1]; exact hv
/-- the invariant at the beginning -/
theorem inv0 {S : GS} (h : Ini S 39 iL iX) : Inw S 0 0 0 0 0 0 none none (-1, -1) := by
  have e0 : nI 0 = 0 := by decide
  refine ⟨⟨⟨by rw [h.1]; exact Nat.le_refl _, fun k hk => h.2.1 k hk, ?_⟩, h.cl (by decide)⟩, ⟨by omega, h.X0 1 1 (by decide), h.X0 14 1 (by decide), fun i => ?_⟩, ⟨by omega, by omega, by omega, by omega, by decide, h.X0 0 10 (by decide), h.X0 14 19 (by decide), h.X0 14 20 (by decide)⟩, fun j hj => absurd hj (by omega), ⟨h.X0 14 29 (by decide), h.X0 8 3 (by decide), fun k _ hk => absurd hk (by omega)⟩, ⟨h.X0 6 1 (by decide), h.X0 14 25 (by decide), fun i hi => absurd hi (by omega)⟩, ⟨h.R0 0 7 (by decide), h.X0 14 30 (by decide)⟩, ⟨h.R0 0 8 (by decide), h.X0 14 31 (by decide)⟩, ⟨h.X0 13 1 (v := nI 0) (by decide), h.2.2.2.2 13 2, h.2.2.2.2 13 5, h.2.2.2.2 13 3, h.2.2.2.2 13 4, h.R0 13 0 (v := none) (by decide)⟩, ⟨?_, Or.inl ⟨h.X0 12 1 (by decide), h.X0 12 2 (by decide), fun b hb => by simp [spn] at hb⟩⟩, ⟨fun j hj => absurd hj (by omega), Or.inl (h.X0 12 2 (by decide)), fun j hj => absurd hj (by omega), Or.inl (h.X0 0 9 (by decide))⟩, ⟨rfl, h.X0 0 11 (v := nI 0) (by decide), h.X0 8 4 (v := nI 0) (by decide)⟩⟩
  · intro t ht
    rw [h.2.2.1]
    have : ∀ t ∈ fR, lkR iL t.1 t.2.1 = some t.2.2 := by decide
    exact this t ht
  · rw [h.2.2.2.1, h.2.2.2.1]
    have a2 : ∀ t ∈ iX, t.1 ≠ 2 := by decide
    have a15 : ∀ t ∈ iX, t.1 ≠ 15 := by decide
    have key : ∀ (X : List (Nat × Nat)) (k : Nat), (∀ t ∈ X, t.1 ≠ k) → ∀ i, lkX X k i = 0 := by
      intro X k
      induction X with
      | nil => intro _ _; rfl
      | cons t X ih =>
        intro hh i
        have := hh t List.mem_cons_self
        rw [lkX, if_neg (fun w => this w.1.symm)]
        exact ih (fun u hu => hh u (List.mem_cons_of_mem _ hu)) i
    rw [key iX 2 a2, key iX 15 a15]
  · rw [h.2.2.2.2, h.X0 12 1 (v := -1) (by decide), h.X0 12 2 (v := -1) (by decide)]
    show (0 : Int64) + ((-1 : Int32) - -1).toInt64 = 0
    decide
