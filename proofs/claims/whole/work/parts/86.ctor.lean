/-! constructors that make nothing -/
theorem CS.ofWI {l : Launch} {y : MethodName} {cc : ByteArray} {maxL : Nat} {ret : Option FieldType} {ws ws' : List Cond} {d : Nat} {S : GS} {As : List GV} {post : Option GV → GS → Prop} (own : String) (hy : plainName y.cls = true) (hc : y.cls = own) (hw : ws = Cond.code y cc maxL ret :: ws') (hAs : ∀ za ad, (lg_sl (As.map (vv za ad))).length ≤ maxL)
    (body : ∀ (p : Program) (e : Env) (s : State) (m : MethodId) (args : Array Value) (below : List Frame) (meth : Method) (c : Code) (D : va_G) (Y : Nat → ClassId) (za ad : Nat → Nat) (A : Nat → Prop) (ls : Array Slot), A = va_A (wl ad (gN S) (gCell Y ad S)) s.heap.size → meth.name = y.name →
      p.tables.exec = Jvm.exec → c.code = cc → meth.sig.returnType = ret → c.maxLocals = maxL → (∀ w ∈ ws, w.before args s = true) → s.vm.findClass own = some m.cls → meth.locks = false → va_K D vwCl (tyl Y) s → (∀ q, s.heap.size ≤ q → A q) → gS D Y ad A s.heap S s.heap [] → lv_has ls maxL (lv_args 0 (As.map (vv za ad))) →
      W p l e (rmD d) s m args below meth c s.heap [] 0 0 (MQ below (gE D Y za ad S s.heap.size post) args s 0 0 A) (F0 m 0 ls [])) : CS l y ws d S As post := by
  intro D Y za ad sz
  refine Met.ofW (cc := cc) (maxL := maxL) (ret := ret) hy hw ?_
  intro p e s m args below meth c s₁ Bd hml hv
  obtain ⟨rfl, hsz, hP, hK, hD0⟩ := hv
  subst hsz
  have hts := atoms_spec (ws := ws) Bd.pre
  have hown : s.vm.findClass y.cls = some m.cls := findClass_of_methodNamed Bd.named
  have hmn : meth.name = y.name := (name_of_methodNamed Bd.named Bd.method).1
  rw [hc] at hown
  have hl := lv_entry (As.map (vv za ad)) (n := maxL) (hAs za ad)
  rw [lg_entry_eq]
  exact body p e s m _ below meth c D Y za ad _ _ rfl hmn Bd.exec Bd.bytes Bd.returns hml hts hown Bd.notSynchronized hK (fun q h => Or.inr h) ⟨hP, hD0.self (sz := s.heap.size), va_S.rf⟩ hl
section GI
variable {p : Program} {l : Launch} {e : Env} {R : Room} {s : State} {m : MethodId} {args : Array Value} {below : List Frame} {meth : Method} {c : Code} {H : Heap} {locs : List Loc} {cells slots : Nat} {Q : State → Prop}
variable {cc : ByteArray} {pc : Nat} {ls : Array Slot} {rest st0 : List Value} {D : va_G} {Y : Nat → ClassId} {A : Nat → Prop} {H0 : Heap} {za ad : Nat → Nat} {S : GS}
theorem r_callI {y : MethodName} {ws Ts : List Cond} {d k maxL na nL index : Nat} {own : String} {bytes : ByteArray} {As : List GV} {post : Option GV → GS → Prop}
    (hM : CS l y ws d S (vR (some k) :: As) post) (S0 : CallFix p m c cc nL s args Ts own) (cw : CallB R s args own index y bytes maxL none ws (rmD d) 0 0 na ∧ y.name = "<init>" ∧ (Cond.instanceMethod y).before args s = true) (hK : va_K D vwCl (tyl Y) s) (hG : gS D Y ad A H0 S H locs) (hA : ∀ q, H0.size ≤ q → A q)
    (hn : (As.map (vv za ad)).length = na) (hsize : ls.size = nL) (hstack : st0 = (As.map (vv za ad)).reverse ++ .ref (ad k) :: rest) (hW : (rest.map fun v => v.category).sum ≤ 8) (hf : cells ≤ R.cells ∧ slots ≤ R.slots) (hdg : decode cc pc = .ok (.invokespecial index, 3))
    (kk : ∀ (r : Option GV) (S' : GS) (H1 : Heap) (locs1 : List Loc), post r S' → gSh S' S → gS D Y ad A H0 S' H1 locs1 → W p l e R s m args below meth c H1 locs1 cells slots Q (F0 m (pc + 3) ls ((r.map (vv za ad)).toList ++ rest))) : W p l e R s m args below meth c H locs cells slots Q (F0 m pc ls st0) := by
  refine g_call (va_runI (As := As.map (vv za ad)) (rest := rest) S0 (hM D Y za ad H.size) cw ⟨gPre_blind, fun U hU hW => g_pre hK hG U hU hW⟩ rfl hn hsize hstack (by simpa [JFrame.monitorRoom] using hW) hdg hf) hG hA (fun r σ' H1 locs1 hp hH1 => ?_)
  obtain ⟨q, S', rfl, h1, h2, rfl⟩ := hp
  exact kk q S' H1 locs1 h1 h2 (by show gH D ad (gN S') A H0 (gCell Y ad S') H1 locs1; rw [h2.1]; exact hH1)
theorem r_callIN {y : MethodName} {ws Ts : List Cond} {d k maxL na nL index : Nat} {own host : String} {bytes : ByteArray} {As : List GV} {post : Option GV → GS → Prop}
    (hM : CS l y ws d S (vR (some k) :: As) post) (S0 : CallFix p m c cc nL s args Ts own) (cw : va_CN R s args own index y host bytes maxL none ws (rmD d) 0 0 na ∧ y.name = "<init>" ∧ (Cond.instanceMethod y).before args s = true) (hK : va_K D vwCl (tyl Y) s) (hG : gS D Y ad A H0 S H locs) (hA : ∀ q, H0.size ≤ q → A q)
    (hn : (As.map (vv za ad)).length = na) (hsize : ls.size = nL) (hstack : st0 = (As.map (vv za ad)).reverse ++ .ref (ad k) :: rest) (hW : (rest.map fun v => v.category).sum ≤ 8) (hf : cells ≤ R.cells ∧ slots ≤ R.slots) (hdg : decode cc pc = .ok (.invokespecial index, 3))
    (kk : ∀ (r : Option GV) (S' : GS) (H1 : Heap) (locs1 : List Loc), post r S' → gSh S' S → gS D Y ad A H0 S' H1 locs1 → W p l e R s m args below meth c H1 locs1 cells slots Q (F0 m (pc + 3) ls ((r.map (vv za ad)).toList ++ rest))) : W p l e R s m args below meth c H locs cells slots Q (F0 m pc ls st0) := by
  refine g_call (va_runIN (As := As.map (vv za ad)) (rest := rest) S0 (hM D Y za ad H.size) cw ⟨gPre_blind, fun U hU hW => g_pre hK hG U hU hW⟩ rfl hn hsize hstack (by simpa [JFrame.monitorRoom] using hW) hdg hf) hG hA (fun r σ' H1 locs1 hp hH1 => ?_)
  obtain ⟨q, S', rfl, h1, h2, rfl⟩ := hp
  exact kk q S' H1 locs1 h1 h2 (by show gH D ad (gN S') A H0 (gCell Y ad S') H1 locs1; rw [h2.1]; exact hH1)
end GI
