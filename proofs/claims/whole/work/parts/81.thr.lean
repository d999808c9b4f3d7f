/-! methods that may throw -/
abbrev rmX (d : Nat) : Room := { frames := d, cells := 1, slots := 6, locals := 30 * d }
/-- where a method has thrown: the state is S', X says which -/
def gXc (D : va_G) (Y : Nat → ClassId) (ad : Nat → Nat) (S0 : GS) (sz : Nat) (X : String → GS → Prop) : String → State → State → Prop := fun E st t => (∃ S' : GS, X E S' ∧ gSh S' S0 ∧ va_P D vwCl (wl ad (gN S0) (gCell Y ad S')) t.heap) ∧ va_F (va_A (wl ad (gN S0) (gCell Y ad S0)) sz) st t
theorem gXc_of {D : va_G} {Y : Nat → ClassId} {ad : Nat → Nat} {S0 S : GS} {X : String → GS → Prop} {A : Nat → Prop} {s t : State} {H : Heap} {locs : List Loc} {E : String} (hAe : A = va_A (wl ad (gN S0) (gCell Y ad S0)) s.heap.size) (hG : gS D Y ad A s.heap S H locs) (hsh : gSh S S0) (h : X E S) (hsz : H.size ≤ t.heap.size) (hkp : ∀ q : Nat, q < H.size → t.heap[q]? = H[q]?) : gXc D Y ad S0 s.heap.size X E s t := by
  subst hAe
  obtain ⟨hP, hD, hS⟩ := hG
  refine ⟨⟨S, h, hsh, ?_⟩, ⟨Nat.le_trans hS.1 hsz, fun q h1 h2 => (hkp q (Nat.lt_of_lt_of_le h1 hS.1)).trans (hS.2.1 q h1 h2)⟩⟩
  rw [← hsh.1]
  exact hP.kept (fun k q hk => hkp q.1 (hP k q hk).lt)
/-- a method that returns or throws -/
def CT (l : Launch) (y : MethodName) (ws : List Cond) (d : Nat) (S : GS) (As : (Nat → Nat) → (Nat → Nat) → (Nat → Nat) → List Value) (post : Option GV → GS → Prop) (X : String → GS → Prop) : Prop :=
  ∀ (D : va_G) (Y : Nat → ClassId) (za zv ad : Nat → Nat) (sz : Nat), vx_Met l y ws (rmX d) (va_Pc (As za zv ad) (gPreZ D Y za zv ad (gN S) (gCell Y ad S) sz)) (gPost D ad (gN S) (gCell Y ad S) sz (gQ Y za ad S post)) (gXc D Y ad S sz X) 1 6 (va_A (wl ad (gN S) (gCell Y ad S)) sz)
theorem CT.ofW {l : Launch} {y : MethodName} {cc : ByteArray} {maxL : Nat} {ret : Option FieldType} {ws ws' : List Cond} {d : Nat} {S : GS} {As : (Nat → Nat) → (Nat → Nat) → (Nat → Nat) → List Value} {post : Option GV → GS → Prop} {X : String → GS → Prop} (own : String) (hy : plainName y.cls = true) (hc : y.cls = own) (hw : ws = Cond.code y cc maxL ret :: ws') (hAs : ∀ za zv ad, (lg_sl (As za zv ad)).length ≤ maxL)
    (body : ∀ (p : Program) (e : Env) (s : State) (m : MethodId) (args : Array Value) (below : List Frame) (meth : Method) (c : Code) (D : va_G) (Y : Nat → ClassId) (za zv ad : Nat → Nat) (A : Nat → Prop) (ls : Array Slot), A = va_A (wl ad (gN S) (gCell Y ad S)) s.heap.size →
      p.tables.exec = Jvm.exec → c.code = cc → meth.sig.returnType = ret → c.maxLocals = maxL → (∀ x ∈ c.exceptionTable.toList, False) → (∀ w ∈ ws, w.before args s = true) → s.vm.findClass own = some m.cls → meth.locks = false → va_K D vwCl (tyl Y) s → gZs za zv A s s.heap → (∀ q, s.heap.size ≤ q → A q) → gS D Y ad A s.heap S s.heap [] → lv_has ls maxL (lv_args 0 (As za zv ad)) →
      W p l e (rmX d) s m args below meth c s.heap [] 0 0 (vx_MQ below (gE D Y za ad S s.heap.size post) (gXc D Y ad S s.heap.size X) args s 1 6 A) (F0 m 0 ls [])) : CT l y ws d S As post X := by
  intro D Y za zv ad sz
  refine vx_ofW (cc := cc) (maxL := maxL) (ret := ret) hy hw ?_
  intro p e s m args below meth c s₁ Bd hml hnt hv
  obtain ⟨rfl, ⟨hsz, hP, hK, hD0⟩, hZ⟩ := hv
  subst hsz
  have hts := atoms_spec (ws := ws) Bd.pre
  have hown : s.vm.findClass y.cls = some m.cls := findClass_of_methodNamed Bd.named
  rw [hc] at hown
  have hl := lv_entry (As za zv ad) (n := maxL) (hAs za zv ad)
  rw [lg_entry_eq]
  exact body p e s m _ below meth c D Y za zv ad _ _ rfl Bd.exec Bd.bytes Bd.returns hml hnt hts hown Bd.notSynchronized hK hZ (fun q h => Or.inr h) ⟨hP, hD0.self (sz := s.heap.size), va_S.rf⟩ hl
theorem zbad_A : ∀ w ∈ (vx_atS RX8 66 "java/lang/IllegalArgumentException" ["java/lang/RuntimeException", "java/lang/Exception"]).filter (fun w => !goodWord w), w ∈ zBad := by decide +kernel
theorem zgood_A : ∀ w ∈ Cond.classLink RX8 62 "java/lang/IllegalArgumentException" :: Cond.initialized "java/lang/IllegalArgumentException" :: (vx_atS RX8 66 "java/lang/IllegalArgumentException" ["java/lang/RuntimeException", "java/lang/Exception"]), vx_ot w = true := by decide +kernel
theorem zbad_B : ∀ w ∈ (vx_atS RX8 163 "java/lang/IndexOutOfBoundsException" ["java/lang/RuntimeException", "java/lang/Exception"]).filter (fun w => !goodWord w), w ∈ zBad := by decide +kernel
theorem zgood_B : ∀ w ∈ Cond.classLink RX8 159 "java/lang/IndexOutOfBoundsException" :: Cond.initialized "java/lang/IndexOutOfBoundsException" :: (vx_atS RX8 163 "java/lang/IndexOutOfBoundsException" ["java/lang/RuntimeException", "java/lang/Exception"]), vx_ot w = true := by decide +kernel
theorem zbad_S : ∀ w ∈ (vx_atS RX8 194 "java/lang/IllegalStateException" ["java/lang/RuntimeException", "java/lang/Exception"]).filter (fun w => !goodWord w), w ∈ zBad := by decide +kernel
theorem zgood_S : ∀ w ∈ Cond.classLink RX8 190 "java/lang/IllegalStateException" :: Cond.initialized "java/lang/IllegalStateException" :: (vx_atS RX8 194 "java/lang/IllegalStateException" ["java/lang/RuntimeException", "java/lang/Exception"]), vx_ot w = true := by decide +kernel
