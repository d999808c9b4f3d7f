set_option maxRecDepth 20000 in
theorem gz_all {args : Array Value} {s : State} {A : Nat → Prop} (hN : narrow_1.before args s = true) (hA : ∀ a : Nat, a < s.heap.size → ¬ A a) : ∀ i, i < 52 → ∃ q : Nat × Nat, (Term.string (zOw i) (zIx i)).eval args s none [] s = some (.ref q.1) ∧ zStr q.1 q.2 (zT i) A s s.heap := fun i hi => match i, hi with
  | 0, _ => zs_0 hN hA
  | 1, _ => zs_1 hN hA
  | 2, _ => zs_2 hN hA
  | 3, _ => zs_3 hN hA
  | 4, _ => zs_4 hN hA
  | 5, _ => zs_5 hN hA
  | 6, _ => zs_6 hN hA
  | 7, _ => zs_7 hN hA
  | 8, _ => zs_8 hN hA
  | 9, _ => zs_9 hN hA
  | 10, _ => zs_10 hN hA
  | 11, _ => zs_11 hN hA
  | 12, _ => zs_12 hN hA
  | 13, _ => zs_13 hN hA
  | 14, _ => zs_14 hN hA
  | 15, _ => zs_15 hN hA
  | 16, _ => zs_16 hN hA
  | 17, _ => zs_17 hN hA
  | 18, _ => zs_18 hN hA
  | 19, _ => zs_19 hN hA
  | 20, _ => zs_20 hN hA
  | 21, _ => zs_21 hN hA
  | 22, _ => zs_22 hN hA
  | 23, _ => zs_23 hN hA
  | 24, _ => zs_24 hN hA
  | 25, _ => zs_25 hN hA
  | 26, _ => zs_26 hN hA
  | 27, _ => zs_27 hN hA
  | 28, _ => zs_28 hN hA
  | 29, _ => zs_29 hN hA
  | 30, _ => zs_30 hN hA
  | 31, _ => zs_31 hN hA
  | 32, _ => zs_32 hN hA
  | 33, _ => zs_33 hN hA
  | 34, _ => zs_34 hN hA
  | 35, _ => zs_35 hN hA
  | 36, _ => zs_36 hN hA
  | 37, _ => zs_37 hN hA
  | 38, _ => zs_38 hN hA
  | 39, _ => zs_39 hN hA
  | 40, _ => zs_40 hN hA
  | 41, _ => zs_41 hN hA
  | 42, _ => zs_42 hN hA
  | 43, _ => zs_43 hN hA
  | 44, _ => zs_44 hN hA
  | 45, _ => zs_45 hN hA
  | 46, _ => zs_46 hN hA
  | 47, _ => zs_47 hN hA
  | 48, _ => zs_48 hN hA
  | 49, _ => zs_49 hN hA
  | 50, _ => zs_50 hN hA
  | 51, _ => zs_51 hN hA
  | i + 52, hi => absurd hi (Nat.not_lt.mpr (Nat.le_add_left _ _))
set_option maxRecDepth 100000 in
theorem gz_ref : ∀ w ∈ (List.range 52).map (fun i => Cond.stringRef (zOw i) (zIx i) (zTx i)), w ∈ lw_tbl := wl_in _ [685, 729, 739, 815, 833, 858, 882, 897, 898, 906, 907, 923, 931, 945, 439, 440, 441, 450, 451, 452, 745, 761, 763, 764, 774, 775, 776, 782, 787, 789, 791, 792, 793, 773, 781, 327, 396, 397, 402, 414, 415, 431, 442, 453, 424, 425, 458, 413, 411, 412, 430, 395] (by decide +kernel)
theorem gz_nest : ∀ w ∈ zNest, w ∈ lw_tbl := wl_in _ [788, 790, 436, 447, 113, 229] (by decide +kernel)
theorem gz_bad : ∀ w ∈ zBad, w ∈ lw_tbl := wl_in _ [646, 875, 808, 648, 650, 652] (by decide +kernel)
/-- all of it -/
theorem gz0 {args : Array Value} {s : State} {A : Nat → Prop} (hN : narrow_1.before args s = true) (hts : ∀ w ∈ lw_tbl, w.before args s = true) (hA : ∀ a : Nat, a < s.heap.size → ¬ A a) : ∃ za zv : Nat → Nat, gZs za zv A s s.heap := by
  have h0 : ∀ i : Nat, ∃ q : Nat × Nat, i < 52 → (Term.string (zOw i) (zIx i)).eval args s none [] s = some (.ref q.1) ∧ zStr q.1 q.2 (zT i) A s s.heap := by
    intro i
    by_cases hi : i < 52
    · obtain ⟨q, h⟩ := gz_all hN hA i hi
      exact ⟨q, fun _ => h⟩
    · exact ⟨(0, 0), fun h => absurd h hi⟩
  obtain ⟨z, hz⟩ := Classical.axiomOfChoice h0
  refine ⟨fun i => (z i).1, fun i => (z i).2, fun i hi => (hz i hi).2, ?_, ?_, fun i hi => vk_R.of (hts _ (gz_ref _ (List.mem_map.mpr ⟨i, List.mem_range.mpr hi, rfl⟩))) (hz i hi).1, fun w hw => va_Nw.of (zNest_ot w hw) (hts w (gz_nest w hw)), ?_, ?_, fun w hw => va_Nw.of (zBad_ot w hw) (hts w (gz_bad w hw)), va_AO.of (hts (.arrayOver (.object "PauseLog$Event")) (List.mem_of_getElem? (i := 177) (by decide +kernel))), va_Nc.of (args := args) (pth_b [false, false, false, false, true, false, false, false, false] _ hN)⟩
  · exact va_Zof (hts (.laysStatic "java/lang/String" "COMPACT_STRINGS" "Z") (List.mem_of_getElem? (i := 341) (by decide +kernel))) (hts (.initialized "java/lang/String") (List.mem_of_getElem? (i := 79) (by decide +kernel))) (va_eqt (pth_b [false, false, false, false, false, false, false, true, false] _ hN)) hA
  · rcases va_Zqof (hts (.laysStatic "jdk/internal/util/Preconditions" "SIOOBE_FORMATTER" "Ljava/util/function/BiFunction;") (List.mem_of_getElem? (i := 361) (by decide +kernel))) (hts (.initialized "jdk/internal/util/Preconditions") (List.mem_of_getElem? (i := 81) (by decide +kernel))) (pth_b [false, false, false, false, false, false, false, true, true, false] _ hN) hA with h | ⟨t, h⟩
    · exact ⟨none, h⟩
    · exact ⟨some t, h⟩
  · exact vx_Zqof (hts (.laysStatic "java/lang/Throwable" "UNASSIGNED_STACK" "[Ljava/lang/StackTraceElement;") (List.mem_of_getElem? (i := 671) (by decide +kernel))) (hts (.initialized "java/lang/Throwable") (List.mem_of_getElem? (i := 74) (by decide +kernel))) (pth_b [false, false, false, false, false, false, true, true, false] _ hN) hA
  · exact vx_Zqof (hts (.laysStatic "java/lang/Throwable" "SUPPRESSED_SENTINEL" "Ljava/util/List;") (List.mem_of_getElem? (i := 673) (by decide +kernel))) (hts (.initialized "java/lang/Throwable") (List.mem_of_getElem? (i := 74) (by decide +kernel))) (pth_b [false, false, false, false, false, false, true, true, true, false] _ hN) hA
theorem arr_known {args : Array Value} {s : State} {ty : FieldType} (h : (Cond.arrayClass ty).before args s = true) : ∃ cA, ArrOfT s cA ty ∧ s.vm.findClass ("[" ++ ty.toString) = some cA := by
  obtain ⟨c, k, comp, h1, h2, h3⟩ := Cond.arrayClass_spec (args := args) (first := s) (o := none) (s := s) (idx := []) h
  exact ⟨c, fun n z => ⟨fun k h => (by cases h), k, h2, comp, h3⟩, h1⟩
theorem arr_knownO {args : Array Value} {s : State} {C : String} (h : (Cond.arrayOver (.object C)).before args s = true) : ∃ cA, ArrOfT s cA (.object C) ∧ va_RA s cA (.object C) := by
  obtain ⟨comp, c, k, h1, -, h2, h3, h4⟩ := Cond.arrayOver_spec (args := args) (first := s) (o := none) (s := s) (idx := []) h
  exact ⟨c, fun n z => ⟨fun k h => (by cases h), k, h2, comp, h3⟩, k, comp, h2, h3, h1, h4⟩
theorem gk0 {args : Array Value} {s : State} (hts : ∀ w ∈ lw_tbl, w.before args s = true) : ∃ (D : va_G) (Y : Nat → ClassId), va_K D vwCl (tyl Y) s := by
  obtain ⟨c0, s0, k0⟩ := u_known (C := RX0) (T := TX0) (N := 5) (n := 5) hts (fun w h => (gi_wsX00 w h).1) (hts (.instantiable RX0 5) (List.mem_of_getElem? (i := 187) (by decide +kernel)))
  obtain ⟨c1, s1, k1⟩ := u_known (C := RX1) (T := TX1) (N := 9) (n := 9) hts (fun w h => (gi_wsX10 w h).1) (hts (.instantiable RX1 9) (List.mem_of_getElem? (i := 112) (by decide +kernel)))
  obtain ⟨c2, s2, k2⟩ := u_known (C := RX2) (T := TX2) (N := 15) (n := 15) hts (fun w h => (gi_wsX20 w h).1) (hts (.instantiable RX2 15) (List.mem_of_getElem? (i := 484) (by decide +kernel)))
  obtain ⟨c3, s3, k3⟩ := u_known (C := RX3) (T := TX3) (N := 2) (n := 2) hts (fun w h => (gi_wsX30 w h).1) (hts (.instantiable RX3 2) (List.mem_of_getElem? (i := 171) (by decide +kernel)))
  obtain ⟨c4, s4, k4⟩ := u_known (C := RX4) (T := TX4) (N := 3) (n := 3) hts (fun w h => (gi_wsX40 w h).1) (hts (.instantiable RX4 3) (List.mem_of_getElem? (i := 307) (by decide +kernel)))
  obtain ⟨c5, s5, k5⟩ := u_known (C := RX5) (T := TX5) (N := 6) (n := 6) hts (fun w h => (gi_wsX50 w h).1) (hts (.instantiable RX5 6) (List.mem_of_getElem? (i := 228) (by decide +kernel)))
  obtain ⟨c6, s6, k6⟩ := u_known (C := RX6) (T := TX6) (N := 2) (n := 2) hts (fun w h => (gi_wsX60 w h).1) (hts (.instantiable RX6 2) (List.mem_of_getElem? (i := 96) (by decide +kernel)))
  obtain ⟨c7, s7, k7⟩ := u_known (C := RX7) (T := TX7) (N := 3) (n := 3) hts (fun w h => (gi_wsX70 w h).1) (hts (.instantiable RX7 3) (List.mem_of_getElem? (i := 212) (by decide +kernel)))
  obtain ⟨c8, s8, k8⟩ := u_known (C := RX8) (T := TX8) (N := 12) (n := 12) hts (fun w h => (gi_wsX80 w h).1) (hts (.instantiable RX8 12) (List.mem_of_getElem? (i := 88) (by decide +kernel)))
  obtain ⟨c9, s9, k9⟩ := u_known (C := RX9) (T := TX9) (N := 36) (n := 36) hts (fun w h => (gi_wsX90 w h).1) (hts (.instantiable RX9 36) (List.mem_of_getElem? (i := 947) (by decide +kernel)))
  obtain ⟨a0, h0, r0⟩ := arr_known (hts (.arrayClass .char) (List.mem_of_getElem? (i := 110) (by decide +kernel)))
  obtain ⟨a1, h1, r1⟩ := arr_known (hts (.arrayClass .int) (List.mem_of_getElem? (i := 210) (by decide +kernel)))
  obtain ⟨a2, h2, r2⟩ := arr_known (hts (.arrayClass .boolean) (List.mem_of_getElem? (i := 1061) (by decide +kernel)))
  obtain ⟨a3, h3, r3⟩ := arr_knownO (hts (.arrayOver (.object "PauseLog$Event")) (List.mem_of_getElem? (i := 177) (by decide +kernel)))
  obtain ⟨a4, h4, r4⟩ := arr_known (hts (.arrayClass .long) (List.mem_of_getElem? (i := 1317) (by decide +kernel)))
  obtain ⟨a5, h5, r5⟩ := arr_known (hts (.arrayClass .double) (List.mem_of_getElem? (i := 1318) (by decide +kernel)))
  refine ⟨(fun k => if k = 0 then c0 else if k = 1 then c1 else if k = 2 then c2 else if k = 3 then c3 else if k = 4 then c4 else if k = 5 then c5 else if k = 6 then c6 else if k = 7 then c7 else if k = 8 then c8 else c9, fun k => if k = 0 then s0 else if k = 1 then s1 else if k = 2 then s2 else if k = 3 then s3 else if k = 4 then s4 else if k = 5 then s5 else if k = 6 then s6 else if k = 7 then s7 else if k = 8 then s8 else s9), fun k => if k = 0 then a0 else if k = 1 then a1 else if k = 2 then a2 else if k = 3 then a3 else if k = 4 then a4 else a5, fun k q hq => ?_, fun k q hq => ?_⟩
  · match k, hq with
    | 0, hq => cases hq; exact k0
    | 1, hq => cases hq; exact k1
    | 2, hq => cases hq; exact k2
    | 3, hq => cases hq; exact k3
    | 4, hq => cases hq; exact k4
    | 5, hq => cases hq; exact k5
    | 6, hq => cases hq; exact k6
    | 7, hq => cases hq; exact k7
    | 8, hq => cases hq; exact k8
    | 9, hq => cases hq; exact k9
    | k + 10, hq => simp [vwCl] at hq
  · match k, hq with
    | 0, hq => cases hq; exact ⟨h0, r0⟩
    | 1, hq => cases hq; exact ⟨h1, r1⟩
    | 2, hq => cases hq; exact ⟨h2, r2⟩
    | 3, hq => cases hq; exact ⟨h3, r3⟩
    | 4, hq => cases hq; exact ⟨h4, r4⟩
    | 5, hq => cases hq; exact ⟨h5, r5⟩
    | k + 6, hq => simp [tyl] at hq
