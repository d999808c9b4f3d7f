/-! STRING CONSTANTS by number: class, place in its pool, text, bytes -/
def zSites : List (String × Nat × String × List Int32) := [("PauseLog", 64, "less than no characters", [108, 101, 115, 115, 32, 116, 104, 97, 110, 32, 110, 111, 32, 99, 104, 97, 114, 97, 99, 116, 101, 114, 115]), ("PauseLog", 77, "no such shape", [110, 111, 32, 115, 117, 99, 104, 32, 115, 104, 97, 112, 101]), ("PauseLog", 101, "a number has no text", [97, 32, 110, 117, 109, 98, 101, 114, 32, 104, 97, 115, 32, 110, 111, 32, 116, 101, 120, 116]), ("PauseLog", 161, "no such event or place", [110, 111, 32, 115, 117, 99, 104, 32, 101, 118, 101, 110, 116, 32, 111, 114, 32, 112, 108, 97, 99, 101]), ("PauseLog", 170, "no such event, line or character", [110, 111, 32, 115, 117, 99, 104, 32, 101, 118, 101, 110, 116, 44, 32, 108, 105, 110, 101, 32, 111, 114, 32, 99, 104, 97, 114, 97, 99, 116, 101, 114]), ("PauseLog", 181, "no such diagnostic or place", [110, 111, 32, 115, 117, 99, 104, 32, 100, 105, 97, 103, 110, 111, 115, 116, 105, 99, 32, 111, 114, 32, 112, 108, 97, 99, 101]), ("PauseLog", 192, "the span is 0", [116, 104, 101, 32, 115, 112, 97, 110, 32, 105, 115, 32, 48]), ("PauseLog", 200, "no such rate", [110, 111, 32, 115, 117, 99, 104, 32, 114, 97, 116, 101]), ("PauseLog", 211, "no time to divide by", [110, 111, 32, 116, 105, 109, 101, 32, 116, 111, 32, 100, 105, 118, 105, 100, 101, 32, 98, 121]), ("PauseLog", 213, "not 1 to 100", [110, 111, 116, 32, 49, 32, 116, 111, 32, 49, 48, 48]), ("PauseLog", 218, "no pauses", [110, 111, 32, 112, 97, 117, 115, 101, 115]), ("PauseLog", 231, "no such bucket", [110, 111, 32, 115, 117, 99, 104, 32, 98, 117, 99, 107, 101, 116]), ("PauseLog", 233, "no such cause", [110, 111, 32, 115, 117, 99, 104, 32, 99, 97, 117, 115, 101]), ("PauseLog", 251, "nothing of this number is counted", [110, 111, 116, 104, 105, 110, 103, 32, 111, 102, 32, 116, 104, 105, 115, 32, 110, 117, 109, 98, 101, 114, 32, 105, 115, 32, 99, 111, 117, 110, 116, 101, 100]), ("PauseLog", 312, "Mixed", [77, 105, 120, 101, 100]), ("PauseLog", 314, "Full", [70, 117, 108, 108]), ("PauseLog", 316, "Young", [89, 111, 117, 110, 103]), ("PauseLog", 318, "Meta", [77, 101, 116, 97]), ("PauseLog", 320, "User", [85, 115, 101, 114]), ("PauseLog", 322, "Alloc", [65, 108, 108, 111, 99]), ("PauseLog$Entry", 50, "[", [91]), ("PauseLog$Entry", 60, "s]GC(", [115, 93, 71, 67, 40]), ("PauseLog$Entry", 65, ") ", [41, 32]), ("PauseLog$Entry", 67, "Eden ", [69, 100, 101, 110, 32]), ("PauseLog$Entry", 73, "Old ", [79, 108, 100, 32]), ("PauseLog$Entry", 75, "Mark", [77, 97, 114, 107]), ("PauseLog$Entry", 77, "Mark ", [77, 97, 114, 107, 32]), ("PauseLog$Entry", 82, "Mark Abort", [77, 97, 114, 107, 32, 65, 98, 111, 114, 116]), ("PauseLog$Entry", 87, "Pause ", [80, 97, 117, 115, 101, 32]), ("PauseLog$Entry", 93, " (", [32, 40]), ("PauseLog$Entry", 98, ")", [41]), ("PauseLog$Entry", 100, " ", [32]), ("PauseLog$Entry", 102, "(", [40]), ("PauseLog$Entry", 107, "->", [45, 62]), ("PauseLog$Entry", 109, "ms", [109, 115]), ("PauseLog$Reader", 15, "[", [91]), ("PauseLog$Reader", 31, "s]GC(", [115, 93, 71, 67, 40]), ("PauseLog$Reader", 39, ") ", [41, 32]), ("PauseLog$Reader", 49, "Eden ", [69, 100, 101, 110, 32]), ("PauseLog$Reader", 58, "Old ", [79, 108, 100, 32]), ("PauseLog$Reader", 60, "Mark", [77, 97, 114, 107]), ("PauseLog$Reader", 65, "Pause ", [80, 97, 117, 115, 101, 32]), ("PauseLog$Reader", 73, " (", [32, 40]), ("PauseLog$Reader", 80, ")", [41]), ("PauseLog$Reader", 89, " ", [32]), ("PauseLog$Reader", 91, "Abort", [65, 98, 111, 114, 116]), ("PauseLog$Reader", 98, "(", [40]), ("PauseLog$Reader", 109, "->", [45, 62]), ("PauseLog$Reader", 121, "M", [77]), ("PauseLog$Reader", 123, "K", [75]), ("PauseLog$Reader", 125, "ms", [109, 115]), ("PauseLog$Reader", 127, ".", [46])]
def zOw (i : Nat) : String := (zSites.getD i ("", 0, "", [])).1
def zIx (i : Nat) : Nat := (zSites.getD i ("", 0, "", [])).2.1
def zTx (i : Nat) : String := (zSites.getD i ("", 0, "", [])).2.2.1
def zT (i : Nat) : List Int32 := (zSites.getD i ("", 0, "", [])).2.2.2
theorem zT_len : ∀ i, i < 52 → (zT i).length < 64 := by decide +kernel
theorem zT_ok : ∀ i, i < 52 → ∀ b ∈ zT i, 0 ≤ b ∧ b < 128 := by decide +kernel
def zStr (q v : Nat) (bs : List Int32) (A : Nat → Prop) (U : State) (H : Heap) : Prop := va_O "java/lang/String" q A U H ∧ va_OF "java/lang/String" "coder" "B" (.int 0) q A U H ∧ va_OF "java/lang/String" "value" "[B" (.ref v) q A U H ∧ va_T .byte v bs.length (fun j => .int (bs.getD j 0)) A U H
/-- the links of private members of nest mates -/
def zNest : List Cond := [.methodLinkNest RX1 89 yX8_kindWord "PauseLog", .methodLinkNest RX1 95 yX8_causeWord "PauseLog", .methodLinkNest RX4 114 yX8_kindWord "PauseLog", .methodLinkNest RX4 118 yX8_causeWord "PauseLog", .methodLinkNest RX8 21 yX1_init "PauseLog", .methodLinkNest RX8 49 yX5_init "PauseLog"]
/-- words that aren't kept by themselves -/
def zBad : List Cond := [.castable "java/lang/IllegalArgumentException" "java/lang/IllegalArgumentException", .castable "java/lang/IllegalStateException" "java/lang/IllegalStateException", .castable "java/lang/IndexOutOfBoundsException" "java/lang/IndexOutOfBoundsException", .declares (Bundle.initS "java/lang/RuntimeException"), .declares (Bundle.initS "java/lang/Exception"), .declares (Bundle.initS "java/lang/Throwable")]
/-- what is known of the String constants and of two statics -/
def gZs (za zv : Nat → Nat) (A : Nat → Prop) (U : State) (H : Heap) : Prop := (∀ i, i < 52 → zStr (za i) (zv i) (zT i) A U H) ∧ va_Z "java/lang/String" "COMPACT_STRINGS" "Z" (.int 1) A U H ∧ (∃ fv : Option Nat, va_Z "jdk/internal/util/Preconditions" "SIOOBE_FORMATTER" "Ljava/util/function/BiFunction;" (va_rf fv) A U H) ∧ (∀ i, i < 52 → vk_R (zOw i) (zIx i) (zTx i) (za i) U) ∧ (∀ w ∈ zNest, va_Nw w U) ∧ vx_Zq Bundle.tN "UNASSIGNED_STACK" Bundle.steD A U H ∧ vx_Zq Bundle.tN "SUPPRESSED_SENTINEL" Bundle.listD A U H ∧ (∀ w ∈ zBad, va_Nw w U) ∧ va_AO "PauseLog$Event" U ∧ va_Nc "java/lang/IllegalStateException" "java/lang/IllegalArgumentException" U
theorem zBad_warm {s U : State} (hW : s.WarmedH U.vm) {w : Cond} (hw : w ∈ zBad) (h : va_Nw w s) : va_Nw w U := by
  simp only [zBad, List.mem_cons, List.not_mem_nil, or_false] at hw
  rcases hw with rfl | rfl | rfl | rfl | rfl | rfl
  · exact va_Nw.warmC hW h
  · exact va_Nw.warmC hW h
  · exact va_Nw.warmC hW h
  · exact va_Nw.warmD hW h
  · exact va_Nw.warmD hW h
  · exact va_Nw.warmD hW h
theorem zBad_ot : ∀ w ∈ zBad, w.onTables = true := by decide +kernel
theorem zNest_warm {s U : State} (hW : s.WarmedH U.vm) {w : Cond} (hw : w ∈ zNest) (h : va_Nw w s) : va_Nw w U := by
  simp only [zNest, List.mem_cons, List.not_mem_nil, or_false] at hw
  rcases hw with rfl | rfl | rfl | rfl | rfl | rfl <;> exact va_Nw.warmM hW h
theorem zNest_ot : ∀ w ∈ zNest, w.onTables = true := by decide +kernel
theorem gZs.call {za zv : Nat → Nat} {A B : Nat → Prop} {s U : State} {H : Heap} (h : gZs za zv A s s.heap) (hW : s.WarmedH U.vm) (hq : ∀ a : Nat, a < s.heap.size → ¬ A a → H[a]? = s.heap[a]?) (hAB : ∀ q, B q → A q) (hU : U.heap = H) : gZs za zv B U U.heap := by
  obtain ⟨h1, h2, ⟨fv, h3⟩, h4, h5, h6, h7, h8, h9, h10⟩ := h
  rw [hU]
  refine ⟨fun i hi => ?_, ((h2.kept hq).narrow hAB).moved hW.alike, ⟨fv, ((h3.kept hq).narrow hAB).moved hW.alike⟩, fun i hi => vk_R.warm hW (h4 i hi), fun w hw => zNest_warm hW hw (h5 w hw), ((h6.kept hq).narrow hAB).moved hW.alike, ((h7.kept hq).narrow hAB).moved hW.alike, fun w hw => zBad_warm hW hw (h8 w hw), h9.moved hW.alike, h10.moved hW.alike⟩
  obtain ⟨a1, a2, a3, a4⟩ := h1 i hi
  exact ⟨((a1.kept hq).narrow hAB).moved hW.alike, ((a2.kept hq).narrow hAB).moved hW.alike, ((a3.kept hq).narrow hAB).moved hW.alike, ((a4.kept hq).narrow hAB).moved hW.alike⟩
def gPreZ (D : va_G) (Y : Nat → ClassId) (za zv ad : Nat → Nat) (n : Nat) (σ : Nat → va_E) (sz : Nat) (U : State) : Prop := gPre D Y ad n σ sz U ∧ gZs za zv (va_A (wl ad n σ) sz) U U.heap
theorem gPreZ_blind {D : va_G} {Y : Nat → ClassId} {za zv ad : Nat → Nat} {n : Nat} {σ : Nat → va_E} {sz : Nat} {As : List Value} : FrameBlind (va_Pc As (gPreZ D Y za zv ad n σ sz)) := fun a U g mk q => by
  obtain ⟨q0, q1, q2⟩ := q
  refine ⟨q0, (gPre_blind (As := As) a U g mk ⟨q0, q1⟩).2, ?_⟩
  obtain ⟨h1, h2, ⟨fv, h3⟩, h4, h5, h6, h7, h8, h9, h10⟩ := q2
  have hv : U.vm.Alike (U.calling g mk a).vm := Vm.Alike.refl U.vm
  refine ⟨fun i hi => ?_, h2.moved hv, ⟨fv, h3.moved hv⟩, fun i hi => vk_R.same (u := U) rfl (h4 i hi), fun w hw => va_Nw.same (zNest_ot w hw) (u := U) rfl (h5 w hw), h6.moved hv, h7.moved hv, fun w hw => va_Nw.same (zBad_ot w hw) (u := U) rfl (h8 w hw), h9.moved hv, h10.moved hv⟩
  obtain ⟨a1, a2, a3, a4⟩ := h1 i hi
  exact ⟨a1.moved hv, a2.moved hv, a3.moved hv, a4.moved hv⟩
/-- a method that makes nothing, and may use String constants -/
def CZ (l : Launch) (y : MethodName) (ws : List Cond) (d : Nat) (S : GS) (As : (Nat → Nat) → (Nat → Nat) → (Nat → Nat) → List Value) (post : Option GV → GS → Prop) : Prop :=
  ∀ (D : va_G) (Y : Nat → ClassId) (za zv ad : Nat → Nat) (sz : Nat), Met l y ws (rmD d) (va_Pc (As za zv ad) (gPreZ D Y za zv ad (gN S) (gCell Y ad S) sz)) (gPost D ad (gN S) (gCell Y ad S) sz (gQ Y za ad S post)) 0 0 (va_A (wl ad (gN S) (gCell Y ad S)) sz)
abbrev gA (As : List GV) : (Nat → Nat) → (Nat → Nat) → (Nat → Nat) → List Value := fun za _ ad => As.map (vv za ad)
section GZ
variable {p : Program} {l : Launch} {e : Env} {R : Room} {s : State} {m : MethodId} {args : Array Value} {below : List Frame} {meth : Method} {c : Code} {H : Heap} {locs : List Loc} {cells slots : Nat} {Q : State → Prop}
variable {cc : ByteArray} {pc : Nat} {ls : Array Slot} {rest st0 : List Value} {D : va_G} {Y : Nat → ClassId} {A : Nat → Prop} {za zv ad : Nat → Nat} {S : GS}
theorem z_pre (hK : va_K D vwCl (tyl Y) s) (hZ : gZs za zv A s s.heap) (hG : gS D Y ad A s.heap S H locs) (hA : ∀ q, s.heap.size ≤ q → A q) {As : List Value} (U : State) (hU : U.heap = H) (hW : s.WarmedH U.vm) : va_Pc As (gPreZ D Y za zv ad (gN S) (gCell Y ad S) H.size) As.toArray U :=
  ⟨rfl, (g_pre (As := As) hK hG U hU hW).2, hZ.call hW (fun a h1 h2 => hG.2.2.2.1 a h1 h2) (g_free hG hA) hU⟩
theorem z_callV {y : MethodName} {ws Ts : List Cond} {d b maxL na nL index : Nat} {own C : String} {bytes : ByteArray} {ret : Option FieldType} {As : List Value} {As0 : (Nat → Nat) → (Nat → Nat) → (Nat → Nat) → List Value} {post : Option GV → GS → Prop}
    (hM : CZ l y ws d S As0 post) (hAs : As0 za zv ad = .ref b :: As) (S0 : CallFix p m c cc nL s args Ts own) (cw : CallW R s args own C index y bytes maxL ret ws (rmD d) 0 0 na) (hK : va_K D vwCl (tyl Y) s) (hZ : gZs za zv A s s.heap) (hG : gS D Y ad A s.heap S H locs) (hA : ∀ q, s.heap.size ≤ q → A q) (hrec : ∃ cell : Cell, H[b]? = some cell ∧ cell.vm.isStatics = false ∧ s.vm.findClass C = some cell.cls)
    (hn : As.length = na) (hsize : ls.size = nL) (hstack : st0 = As.reverse ++ .ref b :: rest) (hW : (rest.map fun v => v.category).sum ≤ 8) (hf : cells ≤ R.cells ∧ slots ≤ R.slots) (hdg : decode cc pc = .ok (.invokevirtual index, 3))
    (kk : ∀ (r : Option GV) (S' : GS) (H1 : Heap) (locs1 : List Loc), post r S' → gSh S' S → gS D Y ad A s.heap S' H1 locs1 → W p l e R s m args below meth c H1 locs1 cells slots Q (F0 m (pc + 3) ls ((r.map (vv za ad)).toList ++ rest))) : W p l e R s m args below meth c H locs cells slots Q (F0 m pc ls st0) := by
  have hM1 := hM D Y za zv ad H.size
  rw [hAs] at hM1
  refine g_call (va_runV (As := As) (rest := rest) S0 hM1 cw ⟨gPreZ_blind, hrec, fun U hU hW => z_pre hK hZ hG hA U hU hW⟩ rfl hn hsize hstack (by simpa [JFrame.monitorRoom] using hW) hdg hf) hG hA (fun r σ' H1 locs1 hp hH1 => ?_)
  obtain ⟨q, S', rfl, h1, h2, rfl⟩ := hp
  exact kk q S' H1 locs1 h1 h2 (by show gH D ad (gN S') A s.heap (gCell Y ad S') H1 locs1; rw [h2.1]; exact hH1)
theorem z_callS {y : MethodName} {ws Ts : List Cond} {d maxL na nL index : Nat} {own : String} {bytes : ByteArray} {ret : Option FieldType} {As : List Value} {As0 : (Nat → Nat) → (Nat → Nat) → (Nat → Nat) → List Value} {post : Option GV → GS → Prop}
    (hM : CZ l y ws d S As0 post) (hAs : As0 za zv ad = As) (S0 : CallFix p m c cc nL s args Ts own) (cw : CallB R s args own index y bytes maxL ret ws (rmD d) 0 0 na ∧ (Cond.static y).before args s = true) (hK : va_K D vwCl (tyl Y) s) (hZ : gZs za zv A s s.heap) (hG : gS D Y ad A s.heap S H locs) (hA : ∀ q, s.heap.size ≤ q → A q)
    (hn : As.length = na) (hsize : ls.size = nL) (hstack : st0 = As.reverse ++ rest) (hW : (rest.map fun v => v.category).sum ≤ 8) (hf : cells ≤ R.cells ∧ slots ≤ R.slots) (hdg : decode cc pc = .ok (.invokestatic index, 3))
    (kk : ∀ (r : Option GV) (S' : GS) (H1 : Heap) (locs1 : List Loc), post r S' → gSh S' S → gS D Y ad A s.heap S' H1 locs1 → W p l e R s m args below meth c H1 locs1 cells slots Q (F0 m (pc + 3) ls ((r.map (vv za ad)).toList ++ rest))) : W p l e R s m args below meth c H locs cells slots Q (F0 m pc ls st0) := by
  have hM1 := hM D Y za zv ad H.size
  rw [hAs] at hM1
  refine g_call (va_runS (As := As) (rest := rest) S0 hM1 cw ⟨gPreZ_blind, fun U hU hW => z_pre hK hZ hG hA U hU hW⟩ rfl hn hsize hstack (by simpa [JFrame.monitorRoom] using hW) hdg hf) hG hA (fun r σ' H1 locs1 hp hH1 => ?_)
  obtain ⟨q, S', rfl, h1, h2, rfl⟩ := hp
  exact kk q S' H1 locs1 h1 h2 (by show gH D ad (gN S') A s.heap (gCell Y ad S') H1 locs1; rw [h2.1]; exact hH1)
/-- a static private method of the nest's host -/
theorem z_callSN {y : MethodName} {ws Ts : List Cond} {d maxL na nL index : Nat} {own host : String} {bytes : ByteArray} {ret : Option FieldType} {As : List Value} {As0 : (Nat → Nat) → (Nat → Nat) → (Nat → Nat) → List Value} {post : Option GV → GS → Prop}
    (hM : CZ l y ws d S As0 post) (hAs : As0 za zv ad = As) (S0 : CallFix p m c cc nL s args Ts own) (cw : va_CN R s args own index y host bytes maxL ret ws (rmD d) 0 0 na ∧ (Cond.static y).before args s = true ∧ True) (hK : va_K D vwCl (tyl Y) s) (hZ : gZs za zv A s s.heap) (hG : gS D Y ad A s.heap S H locs) (hA : ∀ q, s.heap.size ≤ q → A q)
    (hn : As.length = na) (hsize : ls.size = nL) (hstack : st0 = As.reverse ++ rest) (hW : (rest.map fun v => v.category).sum ≤ 8) (hf : cells ≤ R.cells ∧ slots ≤ R.slots) (hdg : decode cc pc = .ok (.invokestatic index, 3))
    (kk : ∀ (r : Option GV) (S' : GS) (H1 : Heap) (locs1 : List Loc), post r S' → gSh S' S → gS D Y ad A s.heap S' H1 locs1 → W p l e R s m args below meth c H1 locs1 cells slots Q (F0 m (pc + 3) ls ((r.map (vv za ad)).toList ++ rest))) : W p l e R s m args below meth c H locs cells slots Q (F0 m pc ls st0) := by
  have hM1 := hM D Y za zv ad H.size
  rw [hAs] at hM1
  refine g_call (va_runSN (As := As) (rest := rest) S0 hM1 cw ⟨gPreZ_blind, fun U hU hW => z_pre hK hZ hG hA U hU hW⟩ rfl hn hsize hstack (by simpa [JFrame.monitorRoom] using hW) hdg hf) hG hA (fun r σ' H1 locs1 hp hH1 => ?_)
  obtain ⟨q, S', rfl, h1, h2, rfl⟩ := hp
  exact kk q S' H1 locs1 h1 h2 (by show gH D ad (gN S') A s.heap (gCell Y ad S') H1 locs1; rw [h2.1]; exact hH1)
theorem z_rec (hZ : gZs za zv A s s.heap) (hG : gS D Y ad A s.heap S H locs) {i : Nat} (hi : i < 52) : ∃ cell : Cell, H[za i]? = some cell ∧ cell.vm.isStatics = false ∧ s.vm.findClass "java/lang/String" = some cell.cls := by
  obtain ⟨cell, h1, h2, h3, -⟩ := (hZ.1 i hi).1.kept (fun a h1 h2 => hG.2.2.2.1 a h1 h2)
  exact ⟨cell, h1, h2, h3⟩
end GZ
theorem CZ.ofW {l : Launch} {y : MethodName} {cc : ByteArray} {maxL : Nat} {ret : Option FieldType} {ws ws' : List Cond} {d : Nat} {S : GS} {As : (Nat → Nat) → (Nat → Nat) → (Nat → Nat) → List Value} {post : Option GV → GS → Prop} (own : String) (hy : plainName y.cls = true) (hc : y.cls = own) (hw : ws = Cond.code y cc maxL ret :: ws') (hAs : ∀ za zv ad, (lg_sl (As za zv ad)).length ≤ maxL)
    (body : ∀ (p : Program) (e : Env) (s : State) (m : MethodId) (args : Array Value) (below : List Frame) (meth : Method) (c : Code) (D : va_G) (Y : Nat → ClassId) (za zv ad : Nat → Nat) (A : Nat → Prop) (ls : Array Slot), A = va_A (wl ad (gN S) (gCell Y ad S)) s.heap.size →
      p.tables.exec = Jvm.exec → c.code = cc → meth.sig.returnType = ret → c.maxLocals = maxL → (∀ w ∈ ws, w.before args s = true) → s.vm.findClass own = some m.cls → meth.locks = false → va_K D vwCl (tyl Y) s → gZs za zv A s s.heap → (∀ q, s.heap.size ≤ q → A q) → gS D Y ad A s.heap S s.heap [] → lv_has ls maxL (lv_args 0 (As za zv ad)) →
      W p l e (rmD d) s m args below meth c s.heap [] 0 0 (MQ below (gE D Y za ad S s.heap.size post) args s 0 0 A) (F0 m 0 ls [])) : CZ l y ws d S As post := by
  intro D Y za zv ad sz
  refine Met.ofW (cc := cc) (maxL := maxL) (ret := ret) hy hw ?_
  intro p e s m args below meth c s₁ Bd hml hv
  obtain ⟨rfl, ⟨hsz, hP, hK, hD0⟩, hZ⟩ := hv
  subst hsz
  have hts := atoms_spec (ws := ws) Bd.pre
  have hown : s.vm.findClass y.cls = some m.cls := findClass_of_methodNamed Bd.named
  rw [hc] at hown
  have hl := lv_entry (As za zv ad) (n := maxL) (hAs za zv ad)
  rw [lg_entry_eq]
  exact body p e s m _ below meth c D Y za zv ad _ _ rfl Bd.exec Bd.bytes Bd.returns hml hts hown Bd.notSynchronized hK hZ (fun q h => Or.inr h) ⟨hP, hD0.self (sz := s.heap.size), va_S.rf⟩ hl
section GZ2
variable {p : Program} {l : Launch} {e : Env} {R : Room} {s : State} {m : MethodId} {args : Array Value} {below : List Frame} {meth : Method} {c : Code} {T : State} {H : Heap} {locs : List Loc} {cells slots : Nat} {Q : State → Prop} {cc : ByteArray} {pc : Nat} {ls : Array Slot} {rest : List Value}
theorem r_ldcwS0 (X : Stand p l e R s m args below meth c T locs cells slots) (hexec : p.tables.exec = Jvm.exec) {own text : String} {index : Nat} {a : Addr} (hown : s.vm.findClass own = some m.cls)
    (hconst : (Cond.stringRef own index text).before args s = true) (hev : (Term.string own index).eval args s none [] s = some (.ref a)) {g : JFrame} (hg : g.method = m) (hdg : decode c.code g.pc = .ok (.ldc_w index, 3)) :
    ∀ target, Steps p.tables e below (T.setTop { g with pc := g.pc + 3, stack := .ref a :: g.stack }) target → Steps p.tables e below (T.setTop g) target := by
  obtain ⟨k, cf, i, a', hk, hcf, hcp, -, hr, hev'⟩ := Cond.stringRef_spec hown hconst
  cases hev.symm.trans hev'
  obtain ⟨k', hk', he⟩ := X.warmed.alike.2.2 _ _ hk
  have hr' : k'.resolved[index]? = some (some (.string a)) := by
    rcases X.warmed.entry hk hk' index with h | ⟨h, -⟩
    · rw [h]; exact hr
    · rw [hr] at h; cases h
  intro target hrest
  subst hg
  jvm_step X.here [hexec, hdg, ldc_w.wp_string (e := e) (s := T) (f := g) X.here.top hk' (by rw [he]; exact hcf) hcp hr']
  exact hrest
theorem r_ldcwS (hexec : p.tables.exec = Jvm.exec) (hb : c.code = cc) {own tx : String} {index q : Nat} (hown : s.vm.findClass own = some m.cls) (hZ : vk_R own index tx q s) (hdg : decode cc pc = .ok (.ldc_w index, 3))
    (k : W p l e R s m args below meth c H locs cells slots Q (F0 m (pc + 3) ls (.ref q :: rest))) : W p l e R s m args below meth c H locs cells slots Q (F0 m pc ls rest) := by
  intro T hT X
  obtain ⟨t, a1, b1⟩ := k T hT X
  exact ⟨t, r_ldcwS0 X hexec hown (text := tx) (a := q) hZ.1 hZ.2 (g := F0 m pc ls rest) rfl (by rw [hb]; exact hdg) t a1, b1⟩
end GZ2
/-- a contract that asks no String constants is one that may -/
theorem CS.toCZ {l : Launch} {y : MethodName} {ws : List Cond} {d : Nat} {S : GS} {As : List GV} {post : Option GV → GS → Prop} (h : CS l y ws d S As post) : CZ l y ws d S (gA As) post := by
  intro D Y za zv ad sz
  have h1 := h D Y za ad sz
  intro p e ha hc hk s m args below hf happ hP hT
  exact h1 p e ha hc hk s m args below hf happ ⟨hP.1, hP.2.1⟩ hT
set_option maxHeartbeats 4000000 in
set_option maxRecDepth 100000 in
theorem zJ0_coder (l : Launch) (S : GS) (i : Nat) (hi : i < 52) : CZ l yJ0_coder_7d493 wsJ0_coder_7d493 0 S (gA [vS i]) (fun r S' => r = some (vI 0) ∧ S = S') := by
  refine CZ.ofW (cc := cJ0_coder_7d493) (maxL := 1) (ret := some .byte) RJ0 (by decide) rfl rfl (fun _ _ _ => Nat.le_of_ble_eq_true rfl) ?_
  intro p e s m args below meth c D Y za zv ad A ls hAe hx hb hr hml hts hown hlocks hK hZ hA hG hl
  have hl : lv_has ls 1 [(0, .ref (za i))] := hl
  refine va_gets hx hb hZ.2.1 hG.2.2 hown (hts (.fieldLink RJ0 38 "java/lang/String" "COMPACT_STRINGS" "Z") (by decide +kernel)) (fun _ h => h) dJ0_coder_7d493_0 ?_
  refine lv_if_eq (tgt := 13) hx hb dJ0_coder_7d493_3 (by decide) (fun q => absurd q (by decide)) (fun _ => ?_)
  refine lv_aload_n hx hb dJ0_coder_7d493_6 rfl (lv_at hl 0 rfl) ?_
  refine vk_getf hx hb (hZ.1 i hi).2.1 hG.2.2 hown (hts (.fieldLink RJ0 15 "java/lang/String" "coder" "B") (by decide +kernel)) (fun _ h => h) dJ0_coder_7d493_7 ?_
  refine lv_goto (tgt := 14) hx hb dJ0_coder_7d493_10 (by decide) ?_
  exact W.zret (v := 0) hx hb hr rfl (fun t ht hW => r_end (r := some (vI 0)) hAe hG (gSh.rf S) ⟨rfl, rfl⟩ rfl ht) hG.2.2.2.2 dJ0_coder_7d493_14
set_option maxHeartbeats 4000000 in
set_option maxRecDepth 100000 in
theorem zJ0_length (l : Launch) (S : GS) (i : Nat) (hi : i < 52) : CZ l yJ0_length_8abf5 wsJ0_length_8abf5 1 S (gA [vS i]) (fun r S' => r = some (vI (nI (zT i).length)) ∧ S = S') := by
  refine CZ.ofW (cc := cJ0_length_8abf5) (maxL := 1) (ret := some .int) RJ0 (by decide) rfl rfl (fun _ _ _ => Nat.le_of_ble_eq_true rfl) ?_
  intro p e s m args below meth c D Y za zv ad A ls hAe hx hb hr hml hts hown hlocks hK hZ hA hG hl
  have hl : lv_has ls 1 [(0, .ref (za i))] := hl
  refine lv_aload_n hx hb dJ0_length_8abf5_0 rfl (lv_at hl 0 rfl) ?_
  refine vk_getf hx hb (hZ.1 i hi).2.2.1 hG.2.2 hown (hts (.fieldLink RJ0 9 "java/lang/String" "value" "[B") (by decide +kernel)) (fun _ h => h) dJ0_length_8abf5_1 ?_
  refine va_tlen hx hb (hZ.1 i hi).2.2.2 hG.2.2 rfl dJ0_length_8abf5_4 ?_
  refine lv_aload_n hx hb dJ0_length_8abf5_5 rfl (lv_at hl 0 rfl) ?_
  refine z_callV (As := []) (rest := [.int (nI (zT i).length)]) (zJ0_coder l S i hi) rfl ⟨hx, hb, hml, hown, hts⟩ (cwV 0 hts gJ0_length_8abf5_J0_coder_7d493 rfl rfl rfl (by decide +kernel) ⟨by decide, by decide⟩) hK hZ hG hA (z_rec hZ hG hi) rfl hl.1 rfl (Nat.le_of_ble_eq_true rfl) ⟨Nat.le_refl _, Nat.le_refl _⟩ dJ0_length_8abf5_6 (fun r_9 S9 H locs hp hs hG => ?_)
  obtain ⟨rfl, rfl⟩ := hp
  refine W.eq (g2 := F0 m 9 ls [.int 0, .int (nI (zT i).length)]) rfl ?_
  refine lv_ishr hx hb dJ0_length_8abf5_9 ?_
  refine W.eq (g2 := F0 m 10 ls [.int (nI (zT i).length)]) (by rw [sc_shr0 (Nat.lt_trans (zT_len i hi) (by decide))]) ?_
  exact W.iret hx hb hr (fun t ht hW => r_end (r := some (vI (nI (zT i).length))) hAe hG (gSh.rf _) ⟨rfl, rfl⟩ rfl ht) hG.2.2.2.2 dJ0_length_8abf5_10
set_option maxHeartbeats 4000000 in
set_option maxRecDepth 100000 in
theorem zJ0_isLatin1 (l : Launch) (S : GS) (i : Nat) (hi : i < 52) : CZ l yJ0_isLatin1_aae02 wsJ0_isLatin1_aae02 0 S (gA [vS i]) (fun r S' => r = some (vI 1) ∧ S = S') := by
  refine CZ.ofW (cc := cJ0_isLatin1_aae02) (maxL := 1) (ret := some .boolean) RJ0 (by decide) rfl rfl (fun _ _ _ => Nat.le_of_ble_eq_true rfl) ?_
  intro p e s m args below meth c D Y za zv ad A ls hAe hx hb hr hml hts hown hlocks hK hZ hA hG hl
  have hl : lv_has ls 1 [(0, .ref (za i))] := hl
  refine va_gets hx hb hZ.2.1 hG.2.2 hown (hts (.fieldLink RJ0 38 "java/lang/String" "COMPACT_STRINGS" "Z") (by decide +kernel)) (fun _ h => h) dJ0_isLatin1_aae02_0 ?_
  refine lv_if_eq (tgt := 17) hx hb dJ0_isLatin1_aae02_3 (by decide) (fun q => absurd q (by decide)) (fun _ => ?_)
  refine lv_aload_n hx hb dJ0_isLatin1_aae02_6 rfl (lv_at hl 0 rfl) ?_
  refine vk_getf hx hb (hZ.1 i hi).2.1 hG.2.2 hown (hts (.fieldLink RJ0 15 "java/lang/String" "coder" "B") (by decide +kernel)) (fun _ h => h) dJ0_isLatin1_aae02_7 ?_
  refine lv_if_ne (tgt := 17) hx hb dJ0_isLatin1_aae02_10 (by decide) (fun q => absurd q (by decide)) (fun _ => ?_)
  refine lv_iconst (v := 1) hx hb dJ0_isLatin1_aae02_13 (by decide) ?_
  refine lv_goto (tgt := 18) hx hb dJ0_isLatin1_aae02_14 (by decide) ?_
  exact W.zret (v := 1) hx hb hr rfl (fun t ht hW => r_end (r := some (vI 1)) hAe hG (gSh.rf S) ⟨rfl, rfl⟩ rfl ht) hG.2.2.2.2 dJ0_isLatin1_aae02_18
set_option maxHeartbeats 4000000 in
set_option maxRecDepth 100000 in
theorem zJ3_check (l : Launch) (S : GS) (x y : Int32) (fv : Option Nat) (h1 : ¬ x < 0) (h2 : x < y) : CZ l yJ3_checkIndex_8e157 wsJ3_checkIndex_8e157 0 S (fun _ _ _ => [.int x, .int y, va_rf fv]) (fun r S' => r = some (vI x) ∧ S = S') := by
  refine CZ.ofW (cc := cJ3_checkIndex_8e157) (maxL := 3) (ret := some .int) RJ3 (by decide) rfl rfl (fun _ _ _ => by cases fv <;> exact Nat.le_of_ble_eq_true rfl) ?_
  intro p e s m args below meth c D Y za zv ad A ls hAe hx hb hr hml hts hown hlocks hK hZ hA hG hl
  have hl : lv_has ls 3 [(0, .int x), (1, .int y), (2, va_rf fv)] := hl
  refine lv_iload_n hx hb dJ3_checkIndex_8e157_0 rfl (lv_at hl 0 rfl) ?_
  refine lv_if_lt (tgt := 9) hx hb dJ3_checkIndex_8e157_1 (by decide) (fun q => absurd q h1) (fun _ => ?_)
  refine lv_iload_n hx hb dJ3_checkIndex_8e157_4 rfl (lv_at hl 0 rfl) ?_
  refine lv_iload_n hx hb dJ3_checkIndex_8e157_5 rfl (lv_at hl 1 rfl) ?_
  refine lv_icmp_lt (tgt := 16) hx hb dJ3_checkIndex_8e157_6 (by decide) (fun _ => ?_) (fun q => absurd h2 q)
  refine lv_iload_n hx hb dJ3_checkIndex_8e157_16 rfl (lv_at hl 0 rfl) ?_
  exact W.iret (v := x) hx hb hr (fun t ht hW => r_end (r := some (vI x)) hAe hG (gSh.rf S) ⟨rfl, rfl⟩ rfl ht) hG.2.2.2.2 dJ3_checkIndex_8e157_17
set_option maxHeartbeats 4000000 in
set_option maxRecDepth 100000 in
theorem zJ0_check (l : Launch) (S : GS) (x y : Int32) (h1 : ¬ x < 0) (h2 : x < y) : CZ l yJ0_checkIndex_df160 wsJ0_checkIndex_df160 1 S (fun _ _ _ => [.int x, .int y]) (fun r S' => r = none ∧ S = S') := by
  refine CZ.ofW (cc := cJ0_checkIndex_df160) (maxL := 2) (ret := none) RJ0 (by decide) rfl rfl (fun _ _ _ => Nat.le_of_ble_eq_true rfl) ?_
  intro p e s m args below meth c D Y za zv ad A ls hAe hx hb hr hml hts hown hlocks hK hZ hA hG hl
  have hl : lv_has ls 2 [(0, .int x), (1, .int y)] := hl
  obtain ⟨fv, hfv⟩ := hZ.2.2.1
  refine lv_iload_n hx hb dJ0_checkIndex_df160_0 rfl (lv_at hl 0 rfl) ?_
  refine lv_iload_n hx hb dJ0_checkIndex_df160_1 rfl (lv_at hl 1 rfl) ?_
  refine va_gets hx hb hfv hG.2.2 hown (hts (.fieldLink RJ0 1053 "jdk/internal/util/Preconditions" "SIOOBE_FORMATTER" "Ljava/util/function/BiFunction;") (by decide +kernel)) (fun _ h => h) dJ0_checkIndex_df160_2 ?_
  refine z_callS (As := [.int x, .int y, va_rf fv]) (rest := []) (zJ3_check l S x y fv h1 h2) rfl ⟨hx, hb, hml, hown, hts⟩ (va_cwS 3 hts gJ0_checkIndex_df160_J3_checkIndex_8e157 rfl rfl rfl (by decide +kernel) ⟨by decide, by decide⟩) hK hZ hG hA rfl hl.1 rfl (Nat.le_of_ble_eq_true rfl) ⟨Nat.le_refl _, Nat.le_refl _⟩ dJ0_checkIndex_df160_5 (fun r_9 S9 H locs hp hs hG => ?_)
  obtain ⟨rfl, rfl⟩ := hp
  refine W.eq (g2 := F0 m 8 ls [.int x]) rfl ?_
  refine lv_pop hx hb dJ0_checkIndex_df160_8 rfl ?_
  exact W.vret hx hb hr (fun t ht hW => r_end (r := none) hAe hG (gSh.rf S) ⟨rfl, rfl⟩ rfl ht) hG.2.2.2.2 dJ0_checkIndex_df160_9
theorem tabL {x : Int32} {lo N : Nat} (h : ∀ k, lo ≤ k → k ≤ N → x ≠ nI k) (hN : N < 2 ^ 31) : x.toInt < (lo : Int) ∨ (N : Int) < x.toInt := by
  rcases Int.lt_or_le x.toInt lo with q | q
  · exact Or.inl q
  · rcases Int.lt_or_le (N : Int) x.toInt with q2 | q2
    · exact Or.inr q2
    · have e : x = nI x.toInt.toNat := by
        apply Int32.toInt_inj.mp
        rw [nI_toInt (by omega)]
        omega
      exact absurd e (h _ (by omega) (by omega))
/-- the char at k of constant i -/
def zCh (i k : Nat) : Int32 := (zT i).getD k 0
theorem zCh_eq : ∀ i, i < 52 → ∀ k, k < (zT i).length → (((zT i).getD k 0 &&& 255).toUInt32 % 65536).toInt32 = zCh i k := by decide +kernel
set_option maxHeartbeats 4000000 in
set_option maxRecDepth 100000 in
theorem zJ1_charAt (l : Launch) (S : GS) (i k9 : Nat) (hi : i < 52) (hk : k9 < (zT i).length) : CZ l yJ1_charAt_3b067 wsJ1_charAt_3b067 2 S (fun _ zv _ => [.ref (zv i), .int (nI k9)]) (fun r S' => r = some (vI (zCh i k9)) ∧ S = S') := by
  refine CZ.ofW (cc := cJ1_charAt_3b067) (maxL := 2) (ret := some .char) RJ1 (by decide) rfl rfl (fun _ _ _ => Nat.le_of_ble_eq_true rfl) ?_
  intro p e s m args below meth c D Y za zv ad A ls hAe hx hb hr hml hts hown hlocks hK hZ hA hG hl
  have hl : lv_has ls 2 [(0, .ref (zv i)), (1, .int (nI k9))] := hl
  have hL := zT_len i hi
  refine lv_iload_n hx hb dJ1_charAt_3b067_0 rfl (lv_at hl 1 rfl) ?_
  refine lv_aload_n hx hb dJ1_charAt_3b067_1 rfl (lv_at hl 0 rfl) ?_
  refine va_tlen hx hb (hZ.1 i hi).2.2.2 hG.2.2 rfl dJ1_charAt_3b067_2 ?_
  refine z_callS (As := [.int (nI k9), .int (nI (zT i).length)]) (rest := []) (zJ0_check l S (nI k9) (nI (zT i).length) (nI_pos (by omega)) (nI_lt hk (by omega))) rfl ⟨hx, hb, hml, hown, hts⟩ (va_cwS 2 hts gJ1_charAt_3b067_J0_checkIndex_df160 rfl rfl rfl (by decide +kernel) ⟨by decide, by decide⟩) hK hZ hG hA rfl hl.1 rfl (Nat.le_of_ble_eq_true rfl) ⟨Nat.le_refl _, Nat.le_refl _⟩ dJ1_charAt_3b067_3 (fun r_9 S9 H locs hp hs hG => ?_)
  obtain ⟨rfl, rfl⟩ := hp
  refine W.eq (g2 := F0 m 6 ls []) rfl ?_
  refine lv_aload_n hx hb dJ1_charAt_3b067_6 rfl (lv_at hl 0 rfl) ?_
  refine lv_iload_n hx hb dJ1_charAt_3b067_7 rfl (lv_at hl 1 rfl) ?_
  refine va_tb hx hb (hZ.1 i hi).2.2.2 hG.2.2 (vp_in_nI hk (by omega)) (v := .int ((zT i).getD k9 0)) (by rw [nI_clamp (by omega)]) dJ1_charAt_3b067_8 ?_
  refine lv_sipush (v := 255) hx hb dJ1_charAt_3b067_9 (by decide) ?_
  refine lv_iand hx hb dJ1_charAt_3b067_12 ?_
  refine lv_i2c hx hb dJ1_charAt_3b067_13 rfl ?_
  exact W.zret hx hb hr (pk_nc _) (fun t ht hW => r_end (r := some (vI (((zT i).getD k9 0 &&& 255).toUInt32 % 65536).toInt32)) hAe hG (gSh.rf S) ⟨by rw [zCh_eq i hi k9 hk], rfl⟩ rfl ht) hG.2.2.2.2 dJ1_charAt_3b067_14
set_option maxHeartbeats 4000000 in
set_option maxRecDepth 100000 in
theorem zJ0_charAt (l : Launch) (S : GS) (i k9 : Nat) (hi : i < 52) (hk : k9 < (zT i).length) : CZ l yJ0_charAt_5068e wsJ0_charAt_5068e 3 S (gA [vS i, vI (nI k9)]) (fun r S' => r = some (vI (zCh i k9)) ∧ S = S') := by
  refine CZ.ofW (cc := cJ0_charAt_5068e) (maxL := 2) (ret := some .char) RJ0 (by decide) rfl rfl (fun _ _ _ => Nat.le_of_ble_eq_true rfl) ?_
  intro p e s m args below meth c D Y za zv ad A ls hAe hx hb hr hml hts hown hlocks hK hZ hA hG hl
  have hl : lv_has ls 2 [(0, .ref (za i)), (1, .int (nI k9))] := hl
  refine lv_aload_n hx hb dJ0_charAt_5068e_0 rfl (lv_at hl 0 rfl) ?_
  refine z_callV (As := []) (rest := []) (zJ0_isLatin1 l S i hi) rfl ⟨hx, hb, hml, hown, hts⟩ (cwV 0 hts gJ0_charAt_5068e_J0_isLatin1_aae02 rfl rfl rfl (by decide +kernel) ⟨by decide, by decide⟩) hK hZ hG hA (z_rec hZ hG hi) rfl hl.1 rfl (Nat.le_of_ble_eq_true rfl) ⟨Nat.le_refl _, Nat.le_refl _⟩ dJ0_charAt_5068e_1 (fun r_9 S9 H locs hp hs hG => ?_)
  obtain ⟨rfl, rfl⟩ := hp
  refine W.eq (g2 := F0 m 4 ls [.int 1]) rfl ?_
  refine lv_if_eq (tgt := 16) hx hb dJ0_charAt_5068e_4 (by decide) (fun q => absurd q (by decide)) (fun _ => ?_)
  refine lv_aload_n hx hb dJ0_charAt_5068e_7 rfl (lv_at hl 0 rfl) ?_
  refine vk_getf hx hb (hZ.1 i hi).2.2.1 hG.2.2 hown (hts (.fieldLink RJ0 9 "java/lang/String" "value" "[B") (by decide +kernel)) (fun _ h => h) dJ0_charAt_5068e_8 ?_
  refine lv_iload_n hx hb dJ0_charAt_5068e_11 rfl (lv_at hl 1 rfl) ?_
  refine z_callS (As := [.ref (zv i), .int (nI k9)]) (rest := []) (zJ1_charAt l S i k9 hi hk) rfl ⟨hx, hb, hml, hown, hts⟩ (va_cwS 2 hts gJ0_charAt_5068e_J1_charAt_3b067 rfl rfl rfl (by decide +kernel) ⟨by decide, by decide⟩) hK hZ hG hA rfl hl.1 rfl (Nat.le_of_ble_eq_true rfl) ⟨Nat.le_refl _, Nat.le_refl _⟩ dJ0_charAt_5068e_12 (fun r_9 S9 H locs hp hs hG => ?_)
  obtain ⟨rfl, rfl⟩ := hp
  refine W.eq (g2 := F0 m 15 ls [.int (zCh i k9)]) rfl ?_
  exact W.zret hx hb hr (by rw [← zCh_eq i hi k9 hk]; exact pk_nc _) (fun t ht hW => r_end (r := some (vI (zCh i k9))) hAe hG (gSh.rf S) ⟨rfl, rfl⟩ rfl ht) hG.2.2.2.2 dJ0_charAt_5068e_15
