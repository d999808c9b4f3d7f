/-! methods that make cells -/
def gExt (S' S : GS) : Prop := gN S ≤ gN S' ∧ ∀ k, k < gN S → gK S' k = gK S k ∧ gL S' k = gL S k
theorem gExt.rf (S : GS) : gExt S S := ⟨Nat.le_refl _, fun _ _ => ⟨rfl, rfl⟩⟩
theorem gExt.tr {S'' S' S : GS} (h : gExt S'' S') (h2 : gExt S' S) : gExt S'' S := ⟨Nat.le_trans h2.1 h.1, fun k hk => ⟨(h.2 k (Nat.lt_of_lt_of_le hk h2.1)).1.trans (h2.2 k hk).1, (h.2 k (Nat.lt_of_lt_of_le hk h2.1)).2.trans (h2.2 k hk).2⟩⟩
theorem gExt.ofSh {S' S : GS} (h : gSh S' S) : gExt S' S := ⟨Nat.le_of_eq h.1.symm, fun k _ => ⟨by rw [h.2.1], by rw [h.2.2]⟩⟩
theorem gExt.nw (S : GS) (c L : Nat) : gExt (nwS S c L) S := ⟨Nat.le_succ _, fun k hk => ⟨va_up_ne _ _ (Nat.ne_of_lt hk), va_up_ne _ _ (Nat.ne_of_lt hk)⟩⟩
theorem gExt.lt {S' S : GS} (h : gExt S' S) {k : Nat} (q : k < gN S) : k < gN S' := Nat.lt_of_lt_of_le q h.1
theorem gExt.kd {S' S : GS} (h : gExt S' S) {k x : Nat} (hk : k < gN S) (q : gK S k = x) : gK S' k = x := (h.2 k hk).1.trans q
abbrev rmA (d mc ms : Nat) : Room := { frames := d, cells := mc, slots := ms, locals := 30 * d }
def gEA (D : va_G) (Y : Nat → ClassId) (za ad0 : Nat → Nat) (S0 : GS) (sz : Nat) (post : Option GV → GS → Prop) : Array Value → State → Outcome → State → Prop := fun _ st oc t => (∃ (r : Option GV) (S' : GS) (ad' : Nat → Nat), oc = .returned (r.map (vv za ad')) ∧ post r S' ∧ gExt S' S0 ∧ (∀ k, k < gN S0 → ad' k = ad0 k) ∧ va_P D vwCl (wl ad' (gN S') (gCell Y ad' S')) t.heap ∧ va_D (va_A (wl ad0 (gN S0) (gCell Y ad0 S0)) sz) (wl ad' (gN S') (gCell Y ad' S'))) ∧ va_F (va_A (wl ad0 (gN S0) (gCell Y ad0 S0)) sz) st t
def CA (l : Launch) (y : MethodName) (ws : List Cond) (d mc ms : Nat) (S : GS) (As : (Nat → Nat) → (Nat → Nat) → (Nat → Nat) → List Value) (post : Option GV → GS → Prop) : Prop :=
  ∀ (D : va_G) (Y : Nat → ClassId) (za zv ad : Nat → Nat) (sz : Nat), Met l y ws (rmA d mc ms) (va_Pc (As za zv ad) (gPreZ D Y za zv ad (gN S) (gCell Y ad S) sz)) (gEA D Y za ad S sz post) mc ms (va_A (wl ad (gN S) (gCell Y ad S)) sz)
theorem r_endA {D : va_G} {Y : Nat → ClassId} {za ad ad0 : Nat → Nat} {S0 S : GS} {post : Option GV → GS → Prop} {s t : State} {a : Array Value} {H : Heap} {locs : List Loc} {r : Option GV} {A : Nat → Prop} {v : Option Value} (hAe : A = va_A (wl ad0 (gN S0) (gCell Y ad0 S0)) s.heap.size) (hG : gS D Y ad A s.heap S H locs) (hN : gExt S S0) (had0 : ∀ k, k < gN S0 → ad k = ad0 k) (hp : post r S) (hv : v = r.map (vv za ad)) (ht : t.heap = H) : gEA D Y za ad0 S0 s.heap.size post a s (.returned v) t := by
  subst hAe hv
  obtain ⟨hP, hD, hS⟩ := hG
  exact ⟨⟨r, S, ad, rfl, hp, hN, had0, by rw [ht]; exact hP, hD⟩, hS.F ht⟩
theorem CA.ofW {l : Launch} {y : MethodName} {cc : ByteArray} {maxL : Nat} {ret : Option FieldType} {ws ws' : List Cond} {d mc ms : Nat} {S : GS} {As : (Nat → Nat) → (Nat → Nat) → (Nat → Nat) → List Value} {post : Option GV → GS → Prop} (own : String) (hy : plainName y.cls = true) (hc : y.cls = own) (hw : ws = Cond.code y cc maxL ret :: ws') (hAs : ∀ za zv ad, (lg_sl (As za zv ad)).length ≤ maxL)
    (body : ∀ (p : Program) (e : Env) (s : State) (m : MethodId) (args : Array Value) (below : List Frame) (meth : Method) (c : Code) (D : va_G) (Y : Nat → ClassId) (za zv ad : Nat → Nat) (A : Nat → Prop) (ls : Array Slot), A = va_A (wl ad (gN S) (gCell Y ad S)) s.heap.size → meth.name = y.name →
      p.tables.exec = Jvm.exec → c.code = cc → meth.sig.returnType = ret → c.maxLocals = maxL → (∀ w ∈ ws, w.before args s = true) → s.vm.findClass own = some m.cls → meth.locks = false → va_K D vwCl (tyl Y) s → gZs za zv A s s.heap → (∀ q, s.heap.size ≤ q → A q) → gS D Y ad A s.heap S s.heap [] → lv_has ls maxL (lv_args 0 (As za zv ad)) →
      W p l e (rmA d mc ms) s m args below meth c s.heap [] 0 0 (MQ below (gEA D Y za ad S s.heap.size post) args s mc ms A) (F0 m 0 ls [])) : CA l y ws d mc ms S As post := by
  intro D Y za zv ad sz
  refine Met.ofW (cc := cc) (maxL := maxL) (ret := ret) hy hw ?_
  intro p e s m args below meth c s₁ Bd hml hv
  obtain ⟨rfl, ⟨hsz, hP, hK, hD0⟩, hZ⟩ := hv
  subst hsz
  have hts := atoms_spec (ws := ws) Bd.pre
  have hown : s.vm.findClass y.cls = some m.cls := findClass_of_methodNamed Bd.named
  have hmn : meth.name = y.name := (name_of_methodNamed Bd.named Bd.method).1
  rw [hc] at hown
  have hl := lv_entry (As za zv ad) (n := maxL) (hAs za zv ad)
  rw [lg_entry_eq]
  exact body p e s m _ below meth c D Y za zv ad _ _ rfl hmn Bd.exec Bd.bytes Bd.returns hml hts hown Bd.notSynchronized hK hZ (fun q h => Or.inr h) ⟨hP, hD0.self (sz := s.heap.size), va_S.rf⟩ hl
section GA2
variable {p : Program} {l : Launch} {e : Env} {R : Room} {s : State} {m : MethodId} {args : Array Value} {below : List Frame} {meth : Method} {c : Code} {H : Heap} {locs : List Loc} {cells slots : Nat} {Q : State → Prop}
variable {cc : ByteArray} {pc : Nat} {ls : Array Slot} {rest st0 : List Value} {D : va_G} {Y : Nat → ClassId} {A : Nat → Prop} {H0 : Heap} {za zv ad : Nat → Nat} {S : GS}
theorem g_callA {post : Option GV → GS → Prop} {a : Array Value} {mc ms : Nat} (hr : va_Run p l e R s m args below meth c H locs cells slots mc ms (F0 m pc ls st0) rest (gEA D Y za ad S H.size post a) (va_A (wl ad (gN S) (gCell Y ad S)) H.size)) (hG : gS D Y ad A H0 S H locs) (hA : ∀ q, H0.size ≤ q → A q)
    (kk : ∀ (r : Option GV) (S' : GS) (ad' : Nat → Nat) (H1 : Heap) (locs1 : List Loc), post r S' → gExt S' S → (∀ k, k < gN S → ad' k = ad k) → gS D Y ad' A H0 S' H1 locs1 → W p l e R s m args below meth c H1 locs1 (cells + mc) (slots + ms) Q (F0 m (pc + 3) ls ((r.map (vv za ad')).toList ++ rest))) : W p l e R s m args below meth c H locs cells slots Q (F0 m pc ls st0) := by
  have hF := g_free hG hA
  obtain ⟨hP, hD, hS⟩ := hG
  intro T hT X
  obtain ⟨v, st₀, t, T', L, h0, X', hL, e1, e2, ⟨⟨r, S', ad', hv, hp, hx, had, hb, hd⟩, hz, hk⟩, st⟩ := hr T hT X
  cases hv
  rw [h0] at hz hk
  obtain ⟨t2, a1, b1⟩ := kk r S' ad' T'.heap (locs ++ L) hp hx had ⟨by rw [e1]; exact hb, hd.weaken (fun k q _ h => hF q.1 h),
    ⟨Nat.le_trans hS.1 (by rw [e1]; exact hz), fun q h1 h2 => by rw [e1, hk q (Nat.lt_of_lt_of_le h1 hS.1) (fun z => h2 (hF q z))]; exact hS.2.1 q h1 h2, fun q hq => by
      rcases List.mem_append.mp hq with h | h
      · exact hS.2.2 q h
      · exact hF _ (hL q h)⟩⟩ T' rfl X'
  exact ⟨t2, st t2 a1, b1⟩
theorem a_callV {y : MethodName} {ws Ts : List Cond} {d mc ms b maxL na nL index : Nat} {own C : String} {bytes : ByteArray} {ret : Option FieldType} {As : List Value} {As0 : (Nat → Nat) → (Nat → Nat) → (Nat → Nat) → List Value} {post : Option GV → GS → Prop}
    (hM : CA l y ws d mc ms S As0 post) (hAs : As0 za zv ad = .ref b :: As) (S0 : CallFix p m c cc nL s args Ts own) (cw : CallW R s args own C index y bytes maxL ret ws (rmA d mc ms) mc ms na) (hK : va_K D vwCl (tyl Y) s) (hZ : gZs za zv A s s.heap) (hG : gS D Y ad A s.heap S H locs) (hA : ∀ q, s.heap.size ≤ q → A q) (hrec : ∃ cell : Cell, H[b]? = some cell ∧ cell.vm.isStatics = false ∧ s.vm.findClass C = some cell.cls)
    (hn : As.length = na) (hsize : ls.size = nL) (hstack : st0 = As.reverse ++ .ref b :: rest) (hW : (rest.map fun v => v.category).sum ≤ 8) (hf : cells + mc ≤ R.cells ∧ slots + ms ≤ R.slots) (hdg : decode cc pc = .ok (.invokevirtual index, 3))
    (kk : ∀ (r : Option GV) (S' : GS) (ad' : Nat → Nat) (H1 : Heap) (locs1 : List Loc), post r S' → gExt S' S → (∀ k, k < gN S → ad' k = ad k) → gS D Y ad' A s.heap S' H1 locs1 → W p l e R s m args below meth c H1 locs1 (cells + mc) (slots + ms) Q (F0 m (pc + 3) ls ((r.map (vv za ad')).toList ++ rest))) : W p l e R s m args below meth c H locs cells slots Q (F0 m pc ls st0) := by
  have hM1 := hM D Y za zv ad H.size
  rw [hAs] at hM1
  exact g_callA (va_runV (As := As) (rest := rest) S0 hM1 cw ⟨gPreZ_blind, hrec, fun U hU hW => z_pre hK hZ hG hA U hU hW⟩ rfl hn hsize hstack (by simpa [JFrame.monitorRoom] using hW) hdg hf) hG hA kk
theorem a_callI {y : MethodName} {ws Ts : List Cond} {d mc ms b maxL na nL index : Nat} {own : String} {bytes : ByteArray} {As : List Value} {As0 : (Nat → Nat) → (Nat → Nat) → (Nat → Nat) → List Value} {post : Option GV → GS → Prop}
    (hM : CA l y ws d mc ms S As0 post) (hAs : As0 za zv ad = .ref b :: As) (S0 : CallFix p m c cc nL s args Ts own) (cw : CallB R s args own index y bytes maxL none ws (rmA d mc ms) mc ms na ∧ y.name = "<init>" ∧ (Cond.instanceMethod y).before args s = true) (hK : va_K D vwCl (tyl Y) s) (hZ : gZs za zv A s s.heap) (hG : gS D Y ad A s.heap S H locs) (hA : ∀ q, s.heap.size ≤ q → A q)
    (hn : As.length = na) (hsize : ls.size = nL) (hstack : st0 = As.reverse ++ .ref b :: rest) (hW : (rest.map fun v => v.category).sum ≤ 8) (hf : cells + mc ≤ R.cells ∧ slots + ms ≤ R.slots) (hdg : decode cc pc = .ok (.invokespecial index, 3))
    (kk : ∀ (r : Option GV) (S' : GS) (ad' : Nat → Nat) (H1 : Heap) (locs1 : List Loc), post r S' → gExt S' S → (∀ k, k < gN S → ad' k = ad k) → gS D Y ad' A s.heap S' H1 locs1 → W p l e R s m args below meth c H1 locs1 (cells + mc) (slots + ms) Q (F0 m (pc + 3) ls ((r.map (vv za ad')).toList ++ rest))) : W p l e R s m args below meth c H locs cells slots Q (F0 m pc ls st0) := by
  have hM1 := hM D Y za zv ad H.size
  rw [hAs] at hM1
  exact g_callA (va_runI (As := As) (rest := rest) S0 hM1 cw ⟨gPreZ_blind, fun U hU hW => z_pre hK hZ hG hA U hU hW⟩ rfl hn hsize hstack (by simpa [JFrame.monitorRoom] using hW) hdg hf) hG hA kk
end GA2
