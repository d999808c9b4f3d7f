/-! THE LAW'S HELPERS: they call what may throw, and catch it. -/
def CH (l : Launch) (y : MethodName) (ws : List Cond) (d : Nat) (S : GS) (As : (Nat → Nat) → (Nat → Nat) → (Nat → Nat) → List Value) (post : Option GV → GS → Prop) : Prop :=
  ∀ (D : va_G) (Y : Nat → ClassId) (za zv ad : Nat → Nat) (sz : Nat), Met l y ws (rmX d) (va_Pc (As za zv ad) (gPreZ D Y za zv ad (gN S) (gCell Y ad S) sz)) (gPost D ad (gN S) (gCell Y ad S) sz (gQ Y za ad S post)) 1 6 (va_A (wl ad (gN S) (gCell Y ad S)) sz)
theorem CH.ofW {l : Launch} {y : MethodName} {cc : ByteArray} {maxL : Nat} {ret : Option FieldType} {hh : List (Nat × Nat × Nat × Nat)} {ws ws' : List Cond} {d : Nat} {S : GS} {As : (Nat → Nat) → (Nat → Nat) → (Nat → Nat) → List Value} {post : Option GV → GS → Prop} (own : String) (hy : plainName y.cls = true) (hc : y.cls = own) (hw : ws = Cond.codeWith y cc maxL ret hh :: ws') (hAs : ∀ za zv ad, (lg_sl (As za zv ad)).length ≤ maxL)
    (body : ∀ (p : Program) (e : Env) (s : State) (m : MethodId) (args : Array Value) (below : List Frame) (meth : Method) (c : Code) (D : va_G) (Y : Nat → ClassId) (za zv ad : Nat → Nat) (A : Nat → Prop) (ls : Array Slot), A = va_A (wl ad (gN S) (gCell Y ad S)) s.heap.size →
      p.tables.exec = Jvm.exec → c.code = cc → meth.sig.returnType = ret → c.maxLocals = maxL → c.exceptionTable.toList = tableOf hh → (∀ w ∈ ws, w.before args s = true) → s.vm.findClass own = some m.cls → meth.locks = false → va_K D vwCl (tyl Y) s → gZs za zv A s s.heap → (∀ q, s.heap.size ≤ q → A q) → gS D Y ad A s.heap S s.heap [] → lv_has ls maxL (lv_args 0 (As za zv ad)) →
      W p l e (rmX d) s m args below meth c s.heap [] 0 0 (MQ below (gE D Y za ad S s.heap.size post) args s 1 6 A) (F0 m 0 ls [])) : CH l y ws d S As post := by
  intro D Y za zv ad sz
  refine va_MetW (cc := cc) (maxL := maxL) (ret := ret) (hh := hh) hy hw ?_
  intro p e s m args below meth c s₁ Bd hml hv
  obtain ⟨rfl, ⟨hsz, hP, hK, hD0⟩, hZ⟩ := hv
  subst hsz
  have hts := atoms_spec (ws := ws) Bd.pre
  have htab : c.exceptionTable.toList = tableOf hh := vx_table (x := y) Bd (hts (Cond.codeWith y cc maxL ret hh) (by rw [hw]; exact List.mem_cons_self))
  have hown : s.vm.findClass y.cls = some m.cls := findClass_of_methodNamed Bd.named
  rw [hc] at hown
  have hl := lv_entry (As za zv ad) (n := maxL) (hAs za zv ad)
  rw [lg_entry_eq]
  exact body p e s m _ below meth c D Y za zv ad _ _ rfl Bd.exec Bd.bytes Bd.returns hml htab hts hown Bd.notSynchronized hK hZ (fun q h => Or.inr h) ⟨hP, hD0.self (sz := s.heap.size), va_S.rf⟩ hl
section GX
variable {p : Program} {l : Launch} {e : Env} {R : Room} {s : State} {m : MethodId} {args : Array Value} {below : List Frame} {meth : Method} {c : Code} {H : Heap} {locs : List Loc} {cells slots : Nat} {Q : State → Prop}
variable {cc : ByteArray} {pc : Nat} {ls : Array Slot} {rest st0 : List Value} {D : va_G} {Y : Nat → ClassId} {A : Nat → Prop} {za zv ad : Nat → Nat} {S : GS}
/-- a call that returns or throws -/
theorem x_callV {y : MethodName} {ws Ts : List Cond} {d b maxL na nL index : Nat} {own C : String} {bytes : ByteArray} {ret : Option FieldType} {As : List Value} {As0 : (Nat → Nat) → (Nat → Nat) → (Nat → Nat) → List Value} {post : Option GV → GS → Prop} {X : String → GS → Prop}
    (hM : CT l y ws d S As0 post X) (hAs : As0 za zv ad = .ref b :: As) (S0 : CallFix p m c cc nL s args Ts own) (cw : CallW R s args own C index y bytes maxL ret ws (rmX d) 1 6 na) (hK : va_K D vwCl (tyl Y) s) (hZ : gZs za zv A s s.heap) (hG : gS D Y ad A s.heap S H locs) (hA : ∀ q, s.heap.size ≤ q → A q) (hrec : ∃ cell : Cell, H[b]? = some cell ∧ cell.vm.isStatics = false ∧ s.vm.findClass C = some cell.cls)
    (hn : As.length = na) (hsize : ls.size = nL) (hstack : st0 = As.reverse ++ .ref b :: rest) (hW : (rest.map fun v => v.category).sum ≤ 8) (hf : cells + 1 ≤ R.cells ∧ slots + 6 ≤ R.slots) (hdg : decode cc pc = .ok (.invokevirtual index, 3))
    (kx : ∀ (E : String) (ce : Cell) (q9 : Addr) (S' : GS) (H1 : Heap) (locs1 : List Loc), X E S' → gSh S' S → gS D Y ad A s.heap S' H1 locs1 → H1[q9]? = some ce → ce.vm = .none → s.vm.findClass E = some ce.cls → vx_W p l e R s m args below meth c H1 locs1 (cells + 1) (slots + 6) Q (F0 m pc ls rest) q9)
    (kk : ∀ (r : Option GV) (S' : GS) (H1 : Heap) (locs1 : List Loc), post r S' → gSh S' S → gS D Y ad A s.heap S' H1 locs1 → W p l e R s m args below meth c H1 locs1 (cells + 1) (slots + 6) Q (F0 m (pc + 3) ls ((r.map (vv za ad)).toList ++ rest))) : W p l e R s m args below meth c H locs cells slots Q (F0 m pc ls st0) := by
  have hM1 := hM D Y za zv ad H.size
  rw [hAs] at hM1
  have hr := vx_runV (p := p) (e := e) (below := below) (meth := meth) (locs := locs) (cells := cells) (slots := slots) (g := F0 m pc ls st0) (As := As) (rest := rest) S0 hM1 cw ⟨gPreZ_blind, hrec, fun U hU hW => z_pre hK hZ hG hA U hU hW⟩ rfl hn hsize hstack (by simpa [JFrame.monitorRoom] using hW) hdg hf
  have hF := g_free hG hA
  obtain ⟨hP, hD, hS⟩ := hG
  intro T hT XX
  rcases hr T hT XX with ⟨v, st₀, t, T', L, h0, X', hL, e1, e2, ⟨⟨r, σ', hv, hp, hb⟩, hz, hk⟩, st⟩ | ⟨q, st₀, t, T', L, E, ce, h0, X', hL, e1, e2, ⟨⟨S', hxE, hsh, hb⟩, hz, hk⟩, hce, hcv, hcl, st⟩
  · cases hv
    rw [h0] at hz hk
    obtain ⟨r', S', rfl, h1, h2, rfl⟩ := hp
    obtain ⟨t2, a1, b1⟩ := kk r' S' T'.heap (locs ++ L) h1 h2 (by
      show gH D ad (gN S') A s.heap (gCell Y ad S') T'.heap (locs ++ L)
      rw [h2.1]
      exact ⟨by rw [e1]; exact hb, wl_D hD _,
        ⟨Nat.le_trans hS.1 (by rw [e1]; exact hz), fun q h1 h2 => by rw [e1, hk q (Nat.lt_of_lt_of_le h1 hS.1) (fun z => h2 (hF q z))]; exact hS.2.1 q h1 h2, fun q hq => by
          rcases List.mem_append.mp hq with h | h
          · exact hS.2.2 q h
          · exact hF _ (hL q h)⟩⟩) T' rfl X'
    exact ⟨t2, st t2 a1, b1⟩
  · rw [h0] at hz hk
    obtain ⟨t2, a1, b1⟩ := kx E ce q S' T'.heap (locs ++ L) hxE hsh (by
      show gH D ad (gN S') A s.heap (gCell Y ad S') T'.heap (locs ++ L)
      rw [hsh.1]
      exact ⟨by rw [e1]; exact hb, wl_D hD _,
        ⟨Nat.le_trans hS.1 (by rw [e1]; exact hz), fun q h1 h2 => by rw [e1, hk q (Nat.lt_of_lt_of_le h1 hS.1) (fun z => h2 (hF q z))]; exact hS.2.1 q h1 h2, fun q hq => by
          rcases List.mem_append.mp hq with h | h
          · exact hS.2.2 q h
          · exact hF _ (hL q h)⟩⟩) (by rw [e1]; exact hce) hcv hcl T' rfl X'
    exact ⟨t2, st.trans a1, b1⟩
/-- behind a call that may make one cell that nobody keeps -/
theorem g_call1 {post : Option Value → (Nat → va_E) → Prop} {a : Array Value} (hr : va_Run p l e R s m args below meth c H locs cells slots 1 6 (F0 m pc ls st0) rest (gPost D ad (gN S) (gCell Y ad S) H.size post a) (va_A (wl ad (gN S) (gCell Y ad S)) H.size)) (hG : gS D Y ad A s.heap S H locs) (hA : ∀ q, s.heap.size ≤ q → A q)
    (kk : ∀ (r : Option Value) (σ' : Nat → va_E) (H1 : Heap) (locs1 : List Loc), post r σ' → gH D ad (gN S) A s.heap σ' H1 locs1 → W p l e R s m args below meth c H1 locs1 (cells + 1) (slots + 6) Q (F0 m (pc + 3) ls (r.toList ++ rest))) : W p l e R s m args below meth c H locs cells slots Q (F0 m pc ls st0) := by
  have hF := g_free hG hA
  obtain ⟨hP, hD, hS⟩ := hG
  intro T hT X
  obtain ⟨v, st₀, t, T', L, h0, X', hL, e1, e2, ⟨⟨r, σ', hv, hp, hb⟩, hz, hk⟩, st⟩ := hr T hT X
  cases hv
  rw [h0] at hz hk
  obtain ⟨t2, a1, b1⟩ := kk v σ' T'.heap (locs ++ L) hp ⟨by rw [e1]; exact hb, wl_D hD σ',
    ⟨Nat.le_trans hS.1 (by rw [e1]; exact hz), fun q h1 h2 => by rw [e1, hk q (Nat.lt_of_lt_of_le h1 hS.1) (fun z => h2 (hF q z))]; exact hS.2.1 q h1 h2, fun q hq => by
      rcases List.mem_append.mp hq with h | h
      · exact hS.2.2 q h
      · exact hF _ (hL q h)⟩⟩ T' rfl X'
  exact ⟨t2, st t2 a1, b1⟩
/-- the law's call of a helper -/
theorem h_callS {y : MethodName} {ws Ts : List Cond} {d maxL na nL index : Nat} {own : String} {bytes : ByteArray} {ret : Option FieldType} {hh : List (Nat × Nat × Nat × Nat)} {As : List Value} {As0 : (Nat → Nat) → (Nat → Nat) → (Nat → Nat) → List Value} {post : Option GV → GS → Prop}
    (hM : CH l y ws d S As0 post) (hAs : As0 za zv ad = As) (S0 : CallFix p m c cc nL s args Ts own) (cw : vx_CSW R s args own index y bytes maxL ret hh ws (rmX d) 1 6 na) (hK : va_K D vwCl (tyl Y) s) (hZ : gZs za zv A s s.heap) (hG : gS D Y ad A s.heap S H locs) (hA : ∀ q, s.heap.size ≤ q → A q)
    (hn : As.length = na) (hsize : ls.size = nL) (hstack : st0 = As.reverse ++ rest) (hW : (rest.map fun v => v.category).sum ≤ 8) (hf : cells + 1 ≤ R.cells ∧ slots + 6 ≤ R.slots) (hdg : decode cc pc = .ok (.invokestatic index, 3))
    (kk : ∀ (r : Option GV) (S' : GS) (H1 : Heap) (locs1 : List Loc), post r S' → gSh S' S → gS D Y ad A s.heap S' H1 locs1 → W p l e R s m args below meth c H1 locs1 (cells + 1) (slots + 6) Q (F0 m (pc + 3) ls ((r.map (vv za ad)).toList ++ rest))) : W p l e R s m args below meth c H locs cells slots Q (F0 m pc ls st0) := by
  have hM1 := hM D Y za zv ad H.size
  rw [hAs] at hM1
  refine g_call1 (vx_runSW (As := As) (rest := rest) S0 hM1 cw ⟨gPreZ_blind, fun U hU hW => z_pre hK hZ hG hA U hU hW⟩ rfl hn hsize hstack (by simpa [JFrame.monitorRoom] using hW) hdg hf) hG hA (fun r σ' H1 locs1 hp hH1 => ?_)
  obtain ⟨q, S', rfl, h1, h2, rfl⟩ := hp
  exact kk q S' H1 locs1 h1 h2 (by show gH D ad (gN S') A s.heap (gCell Y ad S') H1 locs1; rw [h2.1]; exact hH1)
end GX
/-- what a helper answers: 0 and what was kept; 1 or 2, what was thrown -/
def hP {α : Type} (S : GS) (kp : GS → α → GS) (Q8 : α → GS → Prop) (X8 : String → GS → Prop) (E1 E2 : String) : Option GV → GS → Prop := fun r S9 => (r = some (vI 0) ∧ ∃ v S1, Q8 v S1 ∧ gSh S1 S ∧ S9 = kp S1 v) ∨ (r = some (vI 1) ∧ X8 E1 S9) ∨ (r = some (vI 2) ∧ X8 E2 S9)
def kpI (S : GS) (v : Int32) : GS := sZ S 37 0 (Int32.toInt64 v)
def kpL (S : GS) (v : Int64) : GS := sZ S 37 0 v
def kpD (S : GS) (v : UInt64) : GS := sF S 38 0 v
