/-! THE LAW: its loop, its entry, the claim (laid by gen990.py). -/
theorem Inv.up {S : GS} {t : Nat} (h : Inv S t) (ht : t < 48) : Inv S (t + 1) := by
  obtain ⟨n, E, P, lg, pl, oP, oM, dP, h⟩ := h
  exact ⟨n, E, P, lg, pl, oP, oM, dP, h.sc (Sc.rf S) h.2.1 (by omega) (by omega)⟩
set_option maxHeartbeats 4000000 in
set_option maxRecDepth 100000 in
theorem lc_loop {p : Program} {l : Launch} {e : Env} {s : State} {m : MethodId} {below : List Frame} {meth : Method} {c : Code} {b L : Nat} {xs : Nat → Int32} {D : va_G} {Y : Nat → ClassId} {za zv : Nat → Nat} (C : LC p l s m meth c b L xs D Y za zv) (hL : L ≤ 384) : ∀ r t : Nat, t + r = 48 → lcG p l e s m below meth c b D Y 28 t t := by
  obtain ⟨hx, hb, hr, hml, hown, hts, hX, hbl, hlocks, hK, hZ, hst⟩ := id C
  have hbA : ¬ (fun q : Nat => s.heap.size ≤ q) b := Nat.not_le.mpr hbl
  have v8 : (8 : Int32).toInt = 8 := by decide
  intro r
  induction r with
  | zero =>
    intro t ht S ad H locs ls hI hG hl
    have hl : lv_has ls 9 [(0, .ref b), (1, .ref (ad 0)), (2, .ref (ad 14)), (3, .ref (ad 37)), (4, .ref (ad 38)), (5, .int (nI (8 * t)))] := hl
    have vL : (Int32.ofNat L).toInt = (L : Int) := nj_int (k := L) (by omega)
    have vt : (nI (8 * t)).toInt = ((8 * t : Nat) : Int) := nj_int (by omega)
    have vs : (Int32.ofNat L - 8).toInt = (L : Int) - 8 := by rw [i32_sub (by rw [vL, v8]; omega) (by rw [vL, v8]; omega), vL, v8]
    refine lv_iload hx hb dL_law_28 (lv_at hl 5 rfl) ?_
    refine lv_aload_n hx hb dL_law_30 rfl (lv_at hl 0 rfl) ?_
    refine va_slen hx hb hX hbl hbA hG.2.2 dL_law_31 ?_
    refine lv_bipush (v := 8) hx hb dL_law_32 (by decide) ?_
    refine lv_isub hx hb dL_law_34 ?_
    refine lv_icmp_gt (tgt := 944) hx hb dL_law_35 (by decide) (fun c_1 => ?_) (fun c_1 => ?_)
    · refine lv_iconst (v := 1) hx hb dL_law_944 (by decide) ?_
      refine va_forget hG.2.2.2.2 ?_
      refine W.widen (k := 600096) (n := 7301386) (by omega) (by omega) ?_
      exact lw_ret hx hb hr hlocks dL_law_945
    · have ht8 : 8 * t + 8 ≤ L := by
        have h9 := le_32 (Int32.not_lt.mp c_1)
        rw [vs, vt] at h9
        omega
      exfalso; omega
  | succ r ih =>
    intro t ht S ad H locs ls hI hG hl
    have hl : lv_has ls 9 [(0, .ref b), (1, .ref (ad 0)), (2, .ref (ad 14)), (3, .ref (ad 37)), (4, .ref (ad 38)), (5, .int (nI (8 * t)))] := hl
    have vL : (Int32.ofNat L).toInt = (L : Int) := nj_int (k := L) (by omega)
    have vt : (nI (8 * t)).toInt = ((8 * t : Nat) : Int) := nj_int (by omega)
    have vs : (Int32.ofNat L - 8).toInt = (L : Int) - 8 := by rw [i32_sub (by rw [vL, v8]; omega) (by rw [vL, v8]; omega), vL, v8]
    refine lv_iload hx hb dL_law_28 (lv_at hl 5 rfl) ?_
    refine lv_aload_n hx hb dL_law_30 rfl (lv_at hl 0 rfl) ?_
    refine va_slen hx hb hX hbl hbA hG.2.2 dL_law_31 ?_
    refine lv_bipush (v := 8) hx hb dL_law_32 (by decide) ?_
    refine lv_isub hx hb dL_law_34 ?_
    refine lv_icmp_gt (tgt := 944) hx hb dL_law_35 (by decide) (fun c_1 => ?_) (fun c_1 => ?_)
    · refine lv_iconst (v := 1) hx hb dL_law_944 (by decide) ?_
      refine va_forget hG.2.2.2.2 ?_
      refine W.widen (k := 600096) (n := 7301386) (by omega) (by omega) ?_
      exact lw_ret hx hb hr hlocks dL_law_945
    · have ht8 : 8 * t + 8 ≤ L := by
        have h9 := le_32 (Int32.not_lt.mp c_1)
        rw [vs, vt] at h9
        omega
      have nx : lcG p l e s m below meth c b D Y 938 t (t + 1) := by
        intro S ad H locs ls hI hG hl
        have hl : lv_has ls 9 [(0, .ref b), (1, .ref (ad 0)), (2, .ref (ad 14)), (3, .ref (ad 37)), (4, .ref (ad 38)), (5, .int (nI (8 * t)))] := hl
        refine lv_iinc (v := nI (8 * t) + 8) (lv' := [(5, .int (nI (8 * t) + 8)), (0, .ref b), (1, .ref (ad 0)), (2, .ref (ad 14)), (3, .ref (ad 37)), (4, .ref (ad 38))]) hx hb dL_law_938 hl (k := 5) rfl rfl (by decide) rfl (fun ls hl => ?_)
        refine lv_goto (tgt := 28) hx hb dL_law_941 (by decide) ?_
        have e8 : nI (8 * t) + 8 = nI (8 * (t + 1)) := (nj_add (8 * t) 8).trans (congrArg nI (by omega))
        rw [e8] at hl
        exact ih (t + 1) (by omega) S ad H locs ls hI hG (lv_sub hl [1, 2, 3, 4, 5, 0] rfl)
      refine lv_aload_n hx hb dL_law_38 rfl (lv_at hl 0 rfl) ?_
      refine lv_iload hx hb dL_law_39 (lv_at hl 5 rfl) ?_
      refine va_sld hx hb hX hbl hbA hG.2.2 (i := nI (8 * t)) (nj_in (by omega) (by omega)) dL_law_41 ?_
      refine lv_bipush (v := 15) hx hb dL_law_42 (by decide) ?_
      refine lv_iand hx hb dL_law_44 ?_
      by_cases q0 : (xs (nI (8 * t)).toNatClampNeg &&& 15) = 0
      · refine lv_tableIn (tgt := 116) hx hb dL_law_45 (by rw [q0]; decide) (by rw [q0]; decide) (by rw [q0]; rfl) (by decide) ?_
        exact lc_0 C hL ht8 nx S ad H locs ls hI hG hl
      by_cases q1 : (xs (nI (8 * t)).toNatClampNeg &&& 15) = 1
      · refine lv_tableIn (tgt := 143) hx hb dL_law_45 (by rw [q1]; decide) (by rw [q1]; decide) (by rw [q1]; rfl) (by decide) ?_
        exact lc_1 C hL ht8 nx S ad H locs ls hI hG hl
      by_cases q2 : (xs (nI (8 * t)).toNatClampNeg &&& 15) = 2
      · refine lv_tableIn (tgt := 199) hx hb dL_law_45 (by rw [q2]; decide) (by rw [q2]; decide) (by rw [q2]; rfl) (by decide) ?_
        exact lc_2 C hL ht8 nx S ad H locs ls hI hG hl
      by_cases q3 : (xs (nI (8 * t)).toNatClampNeg &&& 15) = 3
      · refine lv_tableIn (tgt := 331) hx hb dL_law_45 (by rw [q3]; decide) (by rw [q3]; decide) (by rw [q3]; rfl) (by decide) ?_
        exact lc_3 C hL ht8 nx S ad H locs ls hI hG hl
      by_cases q4 : (xs (nI (8 * t)).toNatClampNeg &&& 15) = 4
      · refine lv_tableIn (tgt := 344) hx hb dL_law_45 (by rw [q4]; decide) (by rw [q4]; decide) (by rw [q4]; rfl) (by decide) ?_
        exact lc_4 C hL ht8 nx S ad H locs ls hI hG hl
      by_cases q5 : (xs (nI (8 * t)).toNatClampNeg &&& 15) = 5
      · refine lv_tableIn (tgt := 357) hx hb dL_law_45 (by rw [q5]; decide) (by rw [q5]; decide) (by rw [q5]; rfl) (by decide) ?_
        exact lc_5 C hL ht8 nx S ad H locs ls hI hG hl
      by_cases q6 : (xs (nI (8 * t)).toNatClampNeg &&& 15) = 6
      · refine lv_tableIn (tgt := 425) hx hb dL_law_45 (by rw [q6]; decide) (by rw [q6]; decide) (by rw [q6]; rfl) (by decide) ?_
        exact lc_6 C hL ht8 nx S ad H locs ls hI hG hl
      by_cases q7 : (xs (nI (8 * t)).toNatClampNeg &&& 15) = 7
      · refine lv_tableIn (tgt := 505) hx hb dL_law_45 (by rw [q7]; decide) (by rw [q7]; decide) (by rw [q7]; rfl) (by decide) ?_
        exact lc_7 C hL ht8 nx S ad H locs ls hI hG hl
      by_cases q8 : (xs (nI (8 * t)).toNatClampNeg &&& 15) = 8
      · refine lv_tableIn (tgt := 573) hx hb dL_law_45 (by rw [q8]; decide) (by rw [q8]; decide) (by rw [q8]; rfl) (by decide) ?_
        exact lc_8 C hL ht8 nx S ad H locs ls hI hG hl
      by_cases q9 : (xs (nI (8 * t)).toNatClampNeg &&& 15) = 9
      · refine lv_tableIn (tgt := 638) hx hb dL_law_45 (by rw [q9]; decide) (by rw [q9]; decide) (by rw [q9]; rfl) (by decide) ?_
        exact lc_9 C hL ht8 nx S ad H locs ls hI hG hl
      by_cases q10 : (xs (nI (8 * t)).toNatClampNeg &&& 15) = 10
      · refine lv_tableIn (tgt := 715) hx hb dL_law_45 (by rw [q10]; decide) (by rw [q10]; decide) (by rw [q10]; rfl) (by decide) ?_
        exact lc_10 C hL ht8 nx S ad H locs ls hI hG hl
      by_cases q11 : (xs (nI (8 * t)).toNatClampNeg &&& 15) = 11
      · refine lv_tableIn (tgt := 771) hx hb dL_law_45 (by rw [q11]; decide) (by rw [q11]; decide) (by rw [q11]; rfl) (by decide) ?_
        exact lc_11 C hL ht8 nx S ad H locs ls hI hG hl
      by_cases q12 : (xs (nI (8 * t)).toNatClampNeg &&& 15) = 12
      · refine lv_tableIn (tgt := 827) hx hb dL_law_45 (by rw [q12]; decide) (by rw [q12]; decide) (by rw [q12]; rfl) (by decide) ?_
        exact lc_12 C hL ht8 nx S ad H locs ls hI hG hl
      by_cases q13 : (xs (nI (8 * t)).toNatClampNeg &&& 15) = 13
      · refine lv_tableIn (tgt := 882) hx hb dL_law_45 (by rw [q13]; decide) (by rw [q13]; decide) (by rw [q13]; rfl) (by decide) ?_
        exact lc_13 C hL ht8 nx S ad H locs ls hI hG hl
      refine lv_tableOut (tgt := 938) hx hb dL_law_45 (tab0 (N := 13) (fun k hk => match k, hk with | 0, _ => q0 | 1, _ => q1 | 2, _ => q2 | 3, _ => q3 | 4, _ => q4 | 5, _ => q5 | 6, _ => q6 | 7, _ => q7 | 8, _ => q8 | 9, _ => q9 | 10, _ => q10 | 11, _ => q11 | 12, _ => q12 | 13, _ => q13 | k + 14, hk => absurd hk (by omega)) (by decide)) (by decide) ?_
      exact W.widen (k := 39 + 2 * (t + 1)) (n := 10000 + 18 * (t + 1)) (by omega) (by omega) (nx S ad H locs ls (hI.up (by omega)) hG hl)
