theorem n_sX (S : GS) (k j : Nat) (v : Int32) : gN (sX S k j v) = gN S := rfl
theorem k_sX (S : GS) (k j : Nat) (v : Int32) : gK (sX S k j v) = gK S := rfl
theorem l_sX (S : GS) (k j : Nat) (v : Int32) : gL (sX S k j v) = gL S := rfl
theorem x_sX (S : GS) (k j : Nat) (v : Int32) (a i : Nat) : gX (sX S k j v) a i = if a = k ∧ i = j then v else gX S a i := rfl
theorem z_sX (S : GS) (k j : Nat) (v : Int32) : gZ (sX S k j v) = gZ S := rfl
theorem r_sX (S : GS) (k j : Nat) (v : Int32) : gR (sX S k j v) = gR S := rfl
theorem f_sX (S : GS) (k j : Nat) (v : Int32) : gF (sX S k j v) = gF S := rfl
theorem n_sZ (S : GS) (k j : Nat) (v : Int64) : gN (sZ S k j v) = gN S := rfl
theorem k_sZ (S : GS) (k j : Nat) (v : Int64) : gK (sZ S k j v) = gK S := rfl
theorem l_sZ (S : GS) (k j : Nat) (v : Int64) : gL (sZ S k j v) = gL S := rfl
theorem x_sZ (S : GS) (k j : Nat) (v : Int64) : gX (sZ S k j v) = gX S := rfl
theorem z_sZ (S : GS) (k j : Nat) (v : Int64) (a i : Nat) : gZ (sZ S k j v) a i = if a = k ∧ i = j then v else gZ S a i := rfl
theorem r_sZ (S : GS) (k j : Nat) (v : Int64) : gR (sZ S k j v) = gR S := rfl
theorem f_sZ (S : GS) (k j : Nat) (v : Int64) : gF (sZ S k j v) = gF S := rfl
theorem n_sR (S : GS) (k j : Nat) (v : Option Nat) : gN (sR S k j v) = gN S := rfl
theorem k_sR (S : GS) (k j : Nat) (v : Option Nat) : gK (sR S k j v) = gK S := rfl
theorem l_sR (S : GS) (k j : Nat) (v : Option Nat) : gL (sR S k j v) = gL S := rfl
theorem x_sR (S : GS) (k j : Nat) (v : Option Nat) : gX (sR S k j v) = gX S := rfl
theorem z_sR (S : GS) (k j : Nat) (v : Option Nat) : gZ (sR S k j v) = gZ S := rfl
theorem r_sR (S : GS) (k j : Nat) (v : Option Nat) (a i : Nat) : gR (sR S k j v) a i = if a = k ∧ i = j then v else gR S a i := rfl
theorem f_sR (S : GS) (k j : Nat) (v : Option Nat) : gF (sR S k j v) = gF S := rfl
theorem n_sF (S : GS) (k j : Nat) (v : UInt64) : gN (sF S k j v) = gN S := rfl
theorem k_sF (S : GS) (k j : Nat) (v : UInt64) : gK (sF S k j v) = gK S := rfl
theorem l_sF (S : GS) (k j : Nat) (v : UInt64) : gL (sF S k j v) = gL S := rfl
theorem x_sF (S : GS) (k j : Nat) (v : UInt64) : gX (sF S k j v) = gX S := rfl
theorem z_sF (S : GS) (k j : Nat) (v : UInt64) : gZ (sF S k j v) = gZ S := rfl
theorem r_sF (S : GS) (k j : Nat) (v : UInt64) : gR (sF S k j v) = gR S := rfl
theorem f_sF (S : GS) (k j : Nat) (v : UInt64) (a i : Nat) : gF (sF S k j v) a i = if a = k ∧ i = j then v else gF S a i := rfl
def fK (k : Nat) : Nat := ([8, 6, 10, 6, 10, 1, 3, 13, 0, 11, 11, 11, 7, 5, 9, 11, 11, 11, 11, 11, 12, 12, 11, 11, 11, 11, 11, 11, 11, 11, 11, 11, 11, 11, 11, 11, 11, 14, 15] : List Nat).getD k 0
def fL (k : Nat) : Nat := ([0, 0, 72, 0, 72, 0, 0, 40, 0, 12, 12, 12, 0, 0, 0, 72, 80, 80, 16, 512, 512, 512, 512, 512, 512, 512, 512, 512, 1536, 512, 40, 40, 40, 40, 512, 512, 512, 1, 1] : List Nat).getD k 0
def fR : List (Nat × Nat × Nat) := [(0, 0, 1), (0, 1, 3), (0, 2, 5), (0, 3, 6), (0, 4, 8), (0, 5, 12), (0, 6, 13), (1, 0, 2), (3, 0, 4), (6, 0, 7), (8, 0, 9), (8, 1, 10), (8, 2, 11), (14, 0, 15), (14, 2, 16), (14, 4, 17), (14, 6, 18), (14, 8, 19), (14, 9, 20), (14, 10, 21), (14, 11, 22), (14, 12, 23), (14, 13, 24), (14, 14, 25), (14, 15, 26), (14, 16, 27), (14, 17, 28), (14, 18, 29), (14, 21, 30), (14, 22, 31), (14, 23, 32), (14, 24, 33), (14, 26, 34), (14, 27, 35), (14, 28, 36)]
/-- the places that the law makes first: kinds, lengths and fixed references -/
def Fix (S : GS) : Prop := 39 ≤ gN S ∧ (∀ k, k < 39 → gK S k = fK k ∧ gL S k = fL k) ∧ (∀ t ∈ fR, gR S t.1 t.2.1 = some t.2.2)
theorem fn_0 {S : GS} (h : Fix S) : 0 < gN S := Nat.lt_of_lt_of_le (by decide) h.1
theorem fk_0 {S : GS} (h : Fix S) : gK S 0 = 8 := (h.2.1 0 (by decide)).1
theorem fn_1 {S : GS} (h : Fix S) : 1 < gN S := Nat.lt_of_lt_of_le (by decide) h.1
theorem fk_1 {S : GS} (h : Fix S) : gK S 1 = 6 := (h.2.1 1 (by decide)).1
theorem fn_2 {S : GS} (h : Fix S) : 2 < gN S := Nat.lt_of_lt_of_le (by decide) h.1
theorem fk_2 {S : GS} (h : Fix S) : gK S 2 = 10 := (h.2.1 2 (by decide)).1
theorem fl_2 {S : GS} (h : Fix S) : gL S 2 = 72 := (h.2.1 2 (by decide)).2
theorem fn_3 {S : GS} (h : Fix S) : 3 < gN S := Nat.lt_of_lt_of_le (by decide) h.1
theorem fk_3 {S : GS} (h : Fix S) : gK S 3 = 6 := (h.2.1 3 (by decide)).1
theorem fn_4 {S : GS} (h : Fix S) : 4 < gN S := Nat.lt_of_lt_of_le (by decide) h.1
theorem fk_4 {S : GS} (h : Fix S) : gK S 4 = 10 := (h.2.1 4 (by decide)).1
theorem fl_4 {S : GS} (h : Fix S) : gL S 4 = 72 := (h.2.1 4 (by decide)).2
theorem fn_5 {S : GS} (h : Fix S) : 5 < gN S := Nat.lt_of_lt_of_le (by decide) h.1
theorem fk_5 {S : GS} (h : Fix S) : gK S 5 = 1 := (h.2.1 5 (by decide)).1
theorem fn_6 {S : GS} (h : Fix S) : 6 < gN S := Nat.lt_of_lt_of_le (by decide) h.1
theorem fk_6 {S : GS} (h : Fix S) : gK S 6 = 3 := (h.2.1 6 (by decide)).1
theorem fn_7 {S : GS} (h : Fix S) : 7 < gN S := Nat.lt_of_lt_of_le (by decide) h.1
theorem fk_7 {S : GS} (h : Fix S) : gK S 7 = 13 := (h.2.1 7 (by decide)).1
theorem fl_7 {S : GS} (h : Fix S) : gL S 7 = 40 := (h.2.1 7 (by decide)).2
theorem fn_8 {S : GS} (h : Fix S) : 8 < gN S := Nat.lt_of_lt_of_le (by decide) h.1
theorem fk_8 {S : GS} (h : Fix S) : gK S 8 = 0 := (h.2.1 8 (by decide)).1
theorem fn_9 {S : GS} (h : Fix S) : 9 < gN S := Nat.lt_of_lt_of_le (by decide) h.1
theorem fk_9 {S : GS} (h : Fix S) : gK S 9 = 11 := (h.2.1 9 (by decide)).1
theorem fl_9 {S : GS} (h : Fix S) : gL S 9 = 12 := (h.2.1 9 (by decide)).2
theorem fn_10 {S : GS} (h : Fix S) : 10 < gN S := Nat.lt_of_lt_of_le (by decide) h.1
theorem fk_10 {S : GS} (h : Fix S) : gK S 10 = 11 := (h.2.1 10 (by decide)).1
theorem fl_10 {S : GS} (h : Fix S) : gL S 10 = 12 := (h.2.1 10 (by decide)).2
theorem fn_11 {S : GS} (h : Fix S) : 11 < gN S := Nat.lt_of_lt_of_le (by decide) h.1
theorem fk_11 {S : GS} (h : Fix S) : gK S 11 = 11 := (h.2.1 11 (by decide)).1
theorem fl_11 {S : GS} (h : Fix S) : gL S 11 = 12 := (h.2.1 11 (by decide)).2
theorem fn_12 {S : GS} (h : Fix S) : 12 < gN S := Nat.lt_of_lt_of_le (by decide) h.1
theorem fk_12 {S : GS} (h : Fix S) : gK S 12 = 7 := (h.2.1 12 (by decide)).1
theorem fn_13 {S : GS} (h : Fix S) : 13 < gN S := Nat.lt_of_lt_of_le (by decide) h.1
theorem fk_13 {S : GS} (h : Fix S) : gK S 13 = 5 := (h.2.1 13 (by decide)).1
theorem fn_14 {S : GS} (h : Fix S) : 14 < gN S := Nat.lt_of_lt_of_le (by decide) h.1
theorem fk_14 {S : GS} (h : Fix S) : gK S 14 = 9 := (h.2.1 14 (by decide)).1
theorem fn_15 {S : GS} (h : Fix S) : 15 < gN S := Nat.lt_of_lt_of_le (by decide) h.1
theorem fk_15 {S : GS} (h : Fix S) : gK S 15 = 11 := (h.2.1 15 (by decide)).1
theorem fl_15 {S : GS} (h : Fix S) : gL S 15 = 72 := (h.2.1 15 (by decide)).2
theorem fn_16 {S : GS} (h : Fix S) : 16 < gN S := Nat.lt_of_lt_of_le (by decide) h.1
theorem fk_16 {S : GS} (h : Fix S) : gK S 16 = 11 := (h.2.1 16 (by decide)).1
theorem fl_16 {S : GS} (h : Fix S) : gL S 16 = 80 := (h.2.1 16 (by decide)).2
theorem fn_17 {S : GS} (h : Fix S) : 17 < gN S := Nat.lt_of_lt_of_le (by decide) h.1
theorem fk_17 {S : GS} (h : Fix S) : gK S 17 = 11 := (h.2.1 17 (by decide)).1
theorem fl_17 {S : GS} (h : Fix S) : gL S 17 = 80 := (h.2.1 17 (by decide)).2
theorem fn_18 {S : GS} (h : Fix S) : 18 < gN S := Nat.lt_of_lt_of_le (by decide) h.1
theorem fk_18 {S : GS} (h : Fix S) : gK S 18 = 11 := (h.2.1 18 (by decide)).1
theorem fl_18 {S : GS} (h : Fix S) : gL S 18 = 16 := (h.2.1 18 (by decide)).2
theorem fn_19 {S : GS} (h : Fix S) : 19 < gN S := Nat.lt_of_lt_of_le (by decide) h.1
theorem fk_19 {S : GS} (h : Fix S) : gK S 19 = 11 := (h.2.1 19 (by decide)).1
theorem fl_19 {S : GS} (h : Fix S) : gL S 19 = 512 := (h.2.1 19 (by decide)).2
theorem fn_20 {S : GS} (h : Fix S) : 20 < gN S := Nat.lt_of_lt_of_le (by decide) h.1
theorem fk_20 {S : GS} (h : Fix S) : gK S 20 = 12 := (h.2.1 20 (by decide)).1
theorem fl_20 {S : GS} (h : Fix S) : gL S 20 = 512 := (h.2.1 20 (by decide)).2
theorem fn_21 {S : GS} (h : Fix S) : 21 < gN S := Nat.lt_of_lt_of_le (by decide) h.1
theorem fk_21 {S : GS} (h : Fix S) : gK S 21 = 12 := (h.2.1 21 (by decide)).1
theorem fl_21 {S : GS} (h : Fix S) : gL S 21 = 512 := (h.2.1 21 (by decide)).2
theorem fn_22 {S : GS} (h : Fix S) : 22 < gN S := Nat.lt_of_lt_of_le (by decide) h.1
theorem fk_22 {S : GS} (h : Fix S) : gK S 22 = 11 := (h.2.1 22 (by decide)).1
theorem fl_22 {S : GS} (h : Fix S) : gL S 22 = 512 := (h.2.1 22 (by decide)).2
theorem fn_23 {S : GS} (h : Fix S) : 23 < gN S := Nat.lt_of_lt_of_le (by decide) h.1
theorem fk_23 {S : GS} (h : Fix S) : gK S 23 = 11 := (h.2.1 23 (by decide)).1
theorem fl_23 {S : GS} (h : Fix S) : gL S 23 = 512 := (h.2.1 23 (by decide)).2
theorem fn_24 {S : GS} (h : Fix S) : 24 < gN S := Nat.lt_of_lt_of_le (by decide) h.1
theorem fk_24 {S : GS} (h : Fix S) : gK S 24 = 11 := (h.2.1 24 (by decide)).1
theorem fl_24 {S : GS} (h : Fix S) : gL S 24 = 512 := (h.2.1 24 (by decide)).2
theorem fn_25 {S : GS} (h : Fix S) : 25 < gN S := Nat.lt_of_lt_of_le (by decide) h.1
theorem fk_25 {S : GS} (h : Fix S) : gK S 25 = 11 := (h.2.1 25 (by decide)).1
theorem fl_25 {S : GS} (h : Fix S) : gL S 25 = 512 := (h.2.1 25 (by decide)).2
theorem fn_26 {S : GS} (h : Fix S) : 26 < gN S := Nat.lt_of_lt_of_le (by decide) h.1
theorem fk_26 {S : GS} (h : Fix S) : gK S 26 = 11 := (h.2.1 26 (by decide)).1
theorem fl_26 {S : GS} (h : Fix S) : gL S 26 = 512 := (h.2.1 26 (by decide)).2
theorem fn_27 {S : GS} (h : Fix S) : 27 < gN S := Nat.lt_of_lt_of_le (by decide) h.1
theorem fk_27 {S : GS} (h : Fix S) : gK S 27 = 11 := (h.2.1 27 (by decide)).1
theorem fl_27 {S : GS} (h : Fix S) : gL S 27 = 512 := (h.2.1 27 (by decide)).2
theorem fn_28 {S : GS} (h : Fix S) : 28 < gN S := Nat.lt_of_lt_of_le (by decide) h.1
theorem fk_28 {S : GS} (h : Fix S) : gK S 28 = 11 := (h.2.1 28 (by decide)).1
theorem fl_28 {S : GS} (h : Fix S) : gL S 28 = 1536 := (h.2.1 28 (by decide)).2
theorem fn_29 {S : GS} (h : Fix S) : 29 < gN S := Nat.lt_of_lt_of_le (by decide) h.1
theorem fk_29 {S : GS} (h : Fix S) : gK S 29 = 11 := (h.2.1 29 (by decide)).1
theorem fl_29 {S : GS} (h : Fix S) : gL S 29 = 512 := (h.2.1 29 (by decide)).2
theorem fn_30 {S : GS} (h : Fix S) : 30 < gN S := Nat.lt_of_lt_of_le (by decide) h.1
theorem fk_30 {S : GS} (h : Fix S) : gK S 30 = 11 := (h.2.1 30 (by decide)).1
theorem fl_30 {S : GS} (h : Fix S) : gL S 30 = 40 := (h.2.1 30 (by decide)).2
theorem fn_31 {S : GS} (h : Fix S) : 31 < gN S := Nat.lt_of_lt_of_le (by decide) h.1
theorem fk_31 {S : GS} (h : Fix S) : gK S 31 = 11 := (h.2.1 31 (by decide)).1
theorem fl_31 {S : GS} (h : Fix S) : gL S 31 = 40 := (h.2.1 31 (by decide)).2
theorem fn_32 {S : GS} (h : Fix S) : 32 < gN S := Nat.lt_of_lt_of_le (by decide) h.1
theorem fk_32 {S : GS} (h : Fix S) : gK S 32 = 11 := (h.2.1 32 (by decide)).1
theorem fl_32 {S : GS} (h : Fix S) : gL S 32 = 40 := (h.2.1 32 (by decide)).2
theorem fn_33 {S : GS} (h : Fix S) : 33 < gN S := Nat.lt_of_lt_of_le (by decide) h.1
theorem fk_33 {S : GS} (h : Fix S) : gK S 33 = 11 := (h.2.1 33 (by decide)).1
theorem fl_33 {S : GS} (h : Fix S) : gL S 33 = 40 := (h.2.1 33 (by decide)).2
theorem fn_34 {S : GS} (h : Fix S) : 34 < gN S := Nat.lt_of_lt_of_le (by decide) h.1
theorem fk_34 {S : GS} (h : Fix S) : gK S 34 = 11 := (h.2.1 34 (by decide)).1
theorem fl_34 {S : GS} (h : Fix S) : gL S 34 = 512 := (h.2.1 34 (by decide)).2
theorem fn_35 {S : GS} (h : Fix S) : 35 < gN S := Nat.lt_of_lt_of_le (by decide) h.1
theorem fk_35 {S : GS} (h : Fix S) : gK S 35 = 11 := (h.2.1 35 (by decide)).1
theorem fl_35 {S : GS} (h : Fix S) : gL S 35 = 512 := (h.2.1 35 (by decide)).2
theorem fn_36 {S : GS} (h : Fix S) : 36 < gN S := Nat.lt_of_lt_of_le (by decide) h.1
theorem fk_36 {S : GS} (h : Fix S) : gK S 36 = 11 := (h.2.1 36 (by decide)).1
theorem fl_36 {S : GS} (h : Fix S) : gL S 36 = 512 := (h.2.1 36 (by decide)).2
theorem fn_37 {S : GS} (h : Fix S) : 37 < gN S := Nat.lt_of_lt_of_le (by decide) h.1
theorem fk_37 {S : GS} (h : Fix S) : gK S 37 = 14 := (h.2.1 37 (by decide)).1
theorem fl_37 {S : GS} (h : Fix S) : gL S 37 = 1 := (h.2.1 37 (by decide)).2
theorem fn_38 {S : GS} (h : Fix S) : 38 < gN S := Nat.lt_of_lt_of_le (by decide) h.1
theorem fk_38 {S : GS} (h : Fix S) : gK S 38 = 15 := (h.2.1 38 (by decide)).1
theorem fl_38 {S : GS} (h : Fix S) : gL S 38 = 1 := (h.2.1 38 (by decide)).2
theorem fr_0_0 {S : GS} (h : Fix S) : gR S 0 0 = some 1 := h.2.2 (0, 0, 1) (by decide)
theorem fr_0_1 {S : GS} (h : Fix S) : gR S 0 1 = some 3 := h.2.2 (0, 1, 3) (by decide)
theorem fr_0_2 {S : GS} (h : Fix S) : gR S 0 2 = some 5 := h.2.2 (0, 2, 5) (by decide)
theorem fr_0_3 {S : GS} (h : Fix S) : gR S 0 3 = some 6 := h.2.2 (0, 3, 6) (by decide)
theorem fr_0_4 {S : GS} (h : Fix S) : gR S 0 4 = some 8 := h.2.2 (0, 4, 8) (by decide)
theorem fr_0_5 {S : GS} (h : Fix S) : gR S 0 5 = some 12 := h.2.2 (0, 5, 12) (by decide)
theorem fr_0_6 {S : GS} (h : Fix S) : gR S 0 6 = some 13 := h.2.2 (0, 6, 13) (by decide)
theorem fr_1_0 {S : GS} (h : Fix S) : gR S 1 0 = some 2 := h.2.2 (1, 0, 2) (by decide)
theorem fr_3_0 {S : GS} (h : Fix S) : gR S 3 0 = some 4 := h.2.2 (3, 0, 4) (by decide)
theorem fr_6_0 {S : GS} (h : Fix S) : gR S 6 0 = some 7 := h.2.2 (6, 0, 7) (by decide)
theorem fr_8_0 {S : GS} (h : Fix S) : gR S 8 0 = some 9 := h.2.2 (8, 0, 9) (by decide)
theorem fr_8_1 {S : GS} (h : Fix S) : gR S 8 1 = some 10 := h.2.2 (8, 1, 10) (by decide)
theorem fr_8_2 {S : GS} (h : Fix S) : gR S 8 2 = some 11 := h.2.2 (8, 2, 11) (by decide)
theorem fr_14_0 {S : GS} (h : Fix S) : gR S 14 0 = some 15 := h.2.2 (14, 0, 15) (by decide)
theorem fr_14_2 {S : GS} (h : Fix S) : gR S 14 2 = some 16 := h.2.2 (14, 2, 16) (by decide)
theorem fr_14_4 {S : GS} (h : Fix S) : gR S 14 4 = some 17 := h.2.2 (14, 4, 17) (by decide)
theorem fr_14_6 {S : GS} (h : Fix S) : gR S 14 6 = some 18 := h.2.2 (14, 6, 18) (by decide)
theorem fr_14_8 {S : GS} (h : Fix S) : gR S 14 8 = some 19 := h.2.2 (14, 8, 19) (by decide)
theorem fr_14_9 {S : GS} (h : Fix S) : gR S 14 9 = some 20 := h.2.2 (14, 9, 20) (by decide)
theorem fr_14_10 {S : GS} (h : Fix S) : gR S 14 10 = some 21 := h.2.2 (14, 10, 21) (by decide)
theorem fr_14_11 {S : GS} (h : Fix S) : gR S 14 11 = some 22 := h.2.2 (14, 11, 22) (by decide)
theorem fr_14_12 {S : GS} (h : Fix S) : gR S 14 12 = some 23 := h.2.2 (14, 12, 23) (by decide)
theorem fr_14_13 {S : GS} (h : Fix S) : gR S 14 13 = some 24 := h.2.2 (14, 13, 24) (by decide)
theorem fr_14_14 {S : GS} (h : Fix S) : gR S 14 14 = some 25 := h.2.2 (14, 14, 25) (by decide)
theorem fr_14_15 {S : GS} (h : Fix S) : gR S 14 15 = some 26 := h.2.2 (14, 15, 26) (by decide)
theorem fr_14_16 {S : GS} (h : Fix S) : gR S 14 16 = some 27 := h.2.2 (14, 16, 27) (by decide)
theorem fr_14_17 {S : GS} (h : Fix S) : gR S 14 17 = some 28 := h.2.2 (14, 17, 28) (by decide)
theorem fr_14_18 {S : GS} (h : Fix S) : gR S 14 18 = some 29 := h.2.2 (14, 18, 29) (by decide)
theorem fr_14_21 {S : GS} (h : Fix S) : gR S 14 21 = some 30 := h.2.2 (14, 21, 30) (by decide)
theorem fr_14_22 {S : GS} (h : Fix S) : gR S 14 22 = some 31 := h.2.2 (14, 22, 31) (by decide)
theorem fr_14_23 {S : GS} (h : Fix S) : gR S 14 23 = some 32 := h.2.2 (14, 23, 32) (by decide)
theorem fr_14_24 {S : GS} (h : Fix S) : gR S 14 24 = some 33 := h.2.2 (14, 24, 33) (by decide)
theorem fr_14_26 {S : GS} (h : Fix S) : gR S 14 26 = some 34 := h.2.2 (14, 26, 34) (by decide)
theorem fr_14_27 {S : GS} (h : Fix S) : gR S 14 27 = some 35 := h.2.2 (14, 27, 35) (by decide)
theorem fr_14_28 {S : GS} (h : Fix S) : gR S 14 28 = some 36 := h.2.2 (14, 28, 36) (by decide)
theorem Fix.x {S : GS} (h : Fix S) (k j : Nat) (v : Int32) : Fix (sX S k j v) := h
theorem Fix.z {S : GS} (h : Fix S) (k j : Nat) (v : Int64) : Fix (sZ S k j v) := h
theorem Fix.f {S : GS} (h : Fix S) (k j : Nat) (v : UInt64) : Fix (sF S k j v) := h
theorem Fix.r {S : GS} (h : Fix S) (k j : Nat) (v : Option Nat) (hk : ∀ t ∈ fR, ¬ (t.1 = k ∧ t.2.1 = j)) : Fix (sR S k j v) := by
  refine ⟨h.1, h.2.1, fun t ht => ?_⟩
  rw [r_sR, if_neg (hk t ht)]
  exact h.2.2 t ht
/-- S2 is S but for ints at P -/
def Ag (P : Nat → Nat → Prop) (S S2 : GS) : Prop := gN S2 = gN S ∧ gK S2 = gK S ∧ gL S2 = gL S ∧ gZ S2 = gZ S ∧ gR S2 = gR S ∧ gF S2 = gF S ∧ ∀ k j, ¬ P k j → gX S2 k j = gX S k j
theorem Ag.rf (P : Nat → Nat → Prop) (S : GS) : Ag P S S := ⟨rfl, rfl, rfl, rfl, rfl, rfl, fun _ _ _ => rfl⟩
theorem Ag.tr {P : Nat → Nat → Prop} {S S2 S3 : GS} (h : Ag P S S2) (h2 : Ag P S2 S3) : Ag P S S3 :=
  ⟨h2.1.trans h.1, h2.2.1.trans h.2.1, h2.2.2.1.trans h.2.2.1, h2.2.2.2.1.trans h.2.2.2.1, h2.2.2.2.2.1.trans h.2.2.2.2.1, h2.2.2.2.2.2.1.trans h.2.2.2.2.2.1, fun k j hp => (h2.2.2.2.2.2.2 k j hp).trans (h.2.2.2.2.2.2 k j hp)⟩
theorem Ag.mono {P P' : Nat → Nat → Prop} {S S2 : GS} (h : Ag P S S2) (hp : ∀ k j, P k j → P' k j) : Ag P' S S2 :=
  ⟨h.1, h.2.1, h.2.2.1, h.2.2.2.1, h.2.2.2.2.1, h.2.2.2.2.2.1, fun k j hn => h.2.2.2.2.2.2 k j (fun hh => hn (hp k j hh))⟩
theorem Ag.x {P : Nat → Nat → Prop} {S S2 : GS} (h : Ag P S S2) (k j : Nat) (v : Int32) (hp : P k j) : Ag P S (sX S2 k j v) := by
  refine h.tr ⟨rfl, rfl, rfl, rfl, rfl, rfl, fun a i hn => ?_⟩
  rw [x_sX, if_neg]
  intro hh
  rw [hh.1, hh.2] at hn
  exact hn hp
theorem Ag.X {P : Nat → Nat → Prop} {S S2 : GS} (h : Ag P S S2) (k j : Nat) (hp : ¬ P k j) : gX S2 k j = gX S k j := h.2.2.2.2.2.2 k j hp
theorem Ag.R {P : Nat → Nat → Prop} {S S2 : GS} (h : Ag P S S2) : gR S2 = gR S := h.2.2.2.2.1
theorem Ag.Z {P : Nat → Nat → Prop} {S S2 : GS} (h : Ag P S S2) : gZ S2 = gZ S := h.2.2.2.1
theorem Ag.row {P : Nat → Nat → Prop} {S S2 : GS} (h : Ag P S S2) (k : Nat) (hp : ∀ j, ¬ P k j) : gX S2 k = gX S k := funext (fun j => h.X k j (hp j))
theorem Ag.sh {P : Nat → Nat → Prop} {S S2 : GS} (h : Ag P S S2) : gSh S2 S := ⟨h.1, h.2.1, h.2.2.1⟩
theorem Fix.ag {P : Nat → Nat → Prop} {S S2 : GS} (h : Fix S) (ha : Ag P S S2) : Fix S2 := by
  unfold Fix
  rw [ha.1, ha.2.1, ha.2.2.1, ha.2.2.2.2.1]
  exact h
/-! numbers -/
theorem nj_clamp {k : Nat} (h : k < 2147483648) : (nI k).toNatClampNeg = k := by
  have : (nI k).toInt = (k : Int) := Int32.toInt_ofNat_of_lt (by omega)
  simp only [Int32.toNatClampNeg, this, Int.toNat_natCast]
theorem nj_int {k : Nat} (h : k < 2147483648) : (nI k).toInt = (k : Int) := Int32.toInt_ofNat_of_lt (by omega)
theorem nj_le {a b : Nat} (ha : a < 2147483648) (hb : b < 2147483648) : nI a ≤ nI b ↔ a ≤ b := by
  rw [Int32.le_iff_toInt_le, nj_int ha, nj_int hb]; omega
theorem nj_lt {a b : Nat} (ha : a < 2147483648) (hb : b < 2147483648) : nI a < nI b ↔ a < b := by
  rw [Int32.lt_iff_toInt_lt, nj_int ha, nj_int hb]; omega
theorem nj_eq {a b : Nat} (ha : a < 2147483648) (hb : b < 2147483648) : nI a = nI b ↔ a = b := by
  constructor
  · intro h
    have := congrArg Int32.toInt h
    rw [nj_int ha, nj_int hb] at this
    omega
  · intro h; rw [h]
theorem nj_add (a b : Nat) : nI a + nI b = nI (a + b) := by
  show Int32.ofNat a + Int32.ofNat b = Int32.ofNat (a + b)
  rw [Int32.ofNat_add]
theorem nj_succ (a : Nat) : nI a + 1 = nI (a + 1) := nj_add a 1
theorem nj_nneg {a : Nat} (ha : a < 2147483648) : ¬ nI a < 0 := by
  have := @nj_lt a 0 ha (by decide)
  intro h
  exact absurd (this.mp h) (by omega)
theorem nj_ge0 {a : Nat} (ha : a < 2147483648) : (0 : Int32) ≤ nI a := by
  have := @nj_le 0 a (by decide) ha
  exact this.mpr (Nat.zero_le _)
theorem nj_in {k n : Nat} (h : k < n) (hk : k < 2147483648) : vp_in (nI k) n := by
  unfold vp_in
  rw [nj_clamp hk]
  intro hh
  rcases hh with hh | hh
  · exact nj_nneg hk hh
  · omega
theorem nj_of {x : Int32} (h : 0 ≤ x.toInt) : x = nI x.toInt.toNat := by
  apply Int32.toInt_inj.mp
  rw [nj_int]
  · omega
  · have := Int32.toInt_lt x
    omega
theorem nj_sub {a b : Nat} (h : b ≤ a) : nI a - nI b = nI (a - b) := by
  have : nI a = nI (a - b) + nI b := by rw [nj_add]; congr 1; omega
  rw [this]
  simp
theorem ib32 {x : Int} (h1 : -2147483648 ≤ x) (h2 : x < 2147483648) : x.bmod (2 ^ 32) = x := by
  show x.bmod 4294967296 = x
  rw [Int.bmod_def]
  split <;> omega
theorem i32_add {x y : Int32} (h1 : -2147483648 ≤ x.toInt + y.toInt) (h2 : x.toInt + y.toInt < 2147483648) : (x + y).toInt = x.toInt + y.toInt := by rw [Int32.toInt_add, ib32 h1 h2]
theorem i32_sub {x y : Int32} (h1 : -2147483648 ≤ x.toInt - y.toInt) (h2 : x.toInt - y.toInt < 2147483648) : (x - y).toInt = x.toInt - y.toInt := by rw [Int32.toInt_sub, ib32 h1 h2]
theorem i32_mul {x y : Int32} (h1 : -2147483648 ≤ x.toInt * y.toInt) (h2 : x.toInt * y.toInt < 2147483648) : (x * y).toInt = x.toInt * y.toInt := by rw [Int32.toInt_mul, ib32 h1 h2]
