/-! THE WORLD BY PLACES: n cells, the k-th at address ad k, holding σ k. No cell is ever cut out: a method says what σ is behind it. -/
def wl (ad : Nat → Nat) (n : Nat) (σ : Nat → va_E) : va_W := (List.range n).map (fun k => (ad k, σ k))
theorem wl_at {ad : Nat → Nat} {n : Nat} {σ : Nat → va_E} {k : Nat} (h : k < n) : (wl ad n σ)[k]? = some (ad k, σ k) := by
  unfold wl
  rw [List.getElem?_map, List.getElem?_range h]
  rfl
theorem wl_out {ad : Nat → Nat} {n : Nat} {σ : Nat → va_E} {k : Nat} (h : n ≤ k) : (wl ad n σ)[k]? = none := by
  unfold wl
  rw [List.getElem?_map, List.getElem?_eq_none (by simpa using h)]
  rfl
theorem wl_get {ad : Nat → Nat} {n : Nat} {σ : Nat → va_E} {k : Nat} {e : va_E} (h : k < n) (he : σ k = e) : (wl ad n σ)[k]? = some (ad k, e) := by rw [wl_at h, he]
theorem wl_of {ad : Nat → Nat} {n : Nat} {σ : Nat → va_E} {k : Nat} {q : Nat × va_E} (h : (wl ad n σ)[k]? = some q) : k < n ∧ q = (ad k, σ k) := by
  rcases Nat.lt_or_ge k n with h1 | h1
  · rw [wl_at h1] at h
    exact ⟨h1, (Option.some.inj h).symm⟩
  · rw [wl_out h1] at h
    cases h
theorem wl_len {ad : Nat → Nat} {n : Nat} {σ : Nat → va_E} : (wl ad n σ).length = n := by simp [wl]
theorem wl_set {ad : Nat → Nat} {n : Nat} {σ : Nat → va_E} {k : Nat} (h : k < n) (e : va_E) : (wl ad n σ).set k (ad k, e) = wl ad n (va_up σ k e) := by
  refine List.ext_getElem? fun i => ?_
  rw [List.getElem?_set, wl_len]
  by_cases hi : k = i
  · subst hi
    rw [if_pos rfl, if_pos h, wl_at h, va_up_self]
  · rw [if_neg hi]
    rcases Nat.lt_or_ge i n with h1 | h1
    · rw [wl_at h1, wl_at h1, va_up_ne _ _ (fun q => hi q.symm)]
    · rw [wl_out h1, wl_out h1]
theorem wl_push {ad : Nat → Nat} {n : Nat} {σ : Nat → va_E} (q : Nat) (e : va_E) : wl ad n σ ++ [(q, e)] = wl (va_up ad n q) (n + 1) (va_up σ n e) := by
  refine List.ext_getElem? fun i => ?_
  rcases Nat.lt_or_ge i n with h1 | h1
  · rw [List.getElem?_append_left (by rw [wl_len]; exact h1), wl_at h1, wl_at (Nat.lt_succ_of_lt h1), va_up_ne _ _ (Nat.ne_of_lt h1), va_up_ne _ _ (Nat.ne_of_lt h1)]
  · rw [List.getElem?_append_right (by rw [wl_len]; exact h1), wl_len]
    by_cases h2 : i = n
    · subst h2
      rw [Nat.sub_self, wl_at (Nat.lt_succ_self _), va_up_self, va_up_self]
      rfl
    · rw [wl_out (by omega), List.getElem?_eq_none (by simp; omega)]
theorem wl_D {ad : Nat → Nat} {n : Nat} {σ : Nat → va_E} {A : Nat → Prop} (h : va_D A (wl ad n σ)) (σ' : Nat → va_E) : va_D A (wl ad n σ') := by
  refine ⟨fun i j p q hp hq e => ?_, fun k q hk => ?_⟩
  · obtain ⟨hi, rfl⟩ := wl_of hp
    obtain ⟨hj, rfl⟩ := wl_of hq
    exact h.1 i j (ad i, σ i) (ad j, σ j) (wl_at hi) (wl_at hj) e
  · obtain ⟨hi, rfl⟩ := wl_of hk
    exact h.2 k (ad k, σ k) (wl_at hi)
theorem wl_A {ad : Nat → Nat} {n : Nat} {σ : Nat → va_E} {sz q : Nat} (h : va_A (wl ad n σ) sz q) : (∃ k, k < n ∧ q = ad k) ∨ sz ≤ q := by
  rcases h with ⟨k, e, h⟩ | h
  · obtain ⟨hk, he⟩ := wl_of h
    exact Or.inl ⟨k, hk, congrArg Prod.fst he⟩
  · exact Or.inr h
/-- array classes: char, int, boolean, Event, long, double -/
abbrev tyl (Y : Nat → ClassId) : List (ClassId × FieldType) := [(Y 0, .char), (Y 1, .int), (Y 2, .boolean), (Y 3, .object "PauseLog$Event"), (Y 4, .long), (Y 5, .double)]
/-- the room of level d -/
abbrev rmD (d : Nat) : Room := { frames := d, cells := 0, slots := 0, locals := 30 * d }
/-- the heap H holds the world -/
def gH (D : va_G) (ad : Nat → Nat) (n : Nat) (A : Nat → Prop) (H0 : Heap) (σ : Nat → va_E) (H : Heap) (locs : List Loc) : Prop := va_P D vwCl (wl ad n σ) H ∧ va_D A (wl ad n σ) ∧ va_S A H0 H locs
/-- a method's start -/
def gPre (D : va_G) (Y : Nat → ClassId) (ad : Nat → Nat) (n : Nat) (σ : Nat → va_E) (sz : Nat) (U : State) : Prop := U.heap.size = sz ∧ va_P D vwCl (wl ad n σ) U.heap ∧ va_K D vwCl (tyl Y) U ∧ va_D (fun _ => True) (wl ad n σ)
def gPost (D : va_G) (ad : Nat → Nat) (n : Nat) (σ : Nat → va_E) (sz : Nat) (post : Option Value → (Nat → va_E) → Prop) : Array Value → State → Outcome → State → Prop := fun _ st oc t => (∃ (r : Option Value) (σ' : Nat → va_E), oc = .returned r ∧ post r σ' ∧ va_P D vwCl (wl ad n σ') t.heap) ∧ va_F (va_A (wl ad n σ) sz) st t
/-- a method that makes nothing, from the world σ: it returns r, the world is σ', post r σ' -/
def CG (l : Launch) (y : MethodName) (ws : List Cond) (d : Nat) (D : va_G) (Y : Nat → ClassId) (ad : Nat → Nat) (n : Nat) (σ : Nat → va_E) (As : List Value) (post : Option Value → (Nat → va_E) → Prop) : Prop :=
  ∀ sz : Nat, Met l y ws (rmD d) (va_Pc As (gPre D Y ad n σ sz)) (gPost D ad n σ sz post) 0 0 (va_A (wl ad n σ) sz)
theorem gPre_blind {D : va_G} {Y : Nat → ClassId} {ad : Nat → Nat} {n : Nat} {σ : Nat → va_E} {sz : Nat} {As : List Value} : FrameBlind (va_Pc As (gPre D Y ad n σ sz)) := fun a U g mk q => by
  obtain ⟨q0, q1, qP, qK, qD⟩ := q
  exact ⟨q0, q1, qP, va_K.moved (u := U) (U := U.calling g mk a) (Vm.Alike.refl U.vm) qK, qD⟩
section GG
variable {p : Program} {l : Launch} {e : Env} {R : Room} {s : State} {m : MethodId} {args : Array Value} {below : List Frame} {meth : Method} {c : Code} {H : Heap} {locs : List Loc} {cells slots : Nat} {Q : State → Prop}
variable {cc : ByteArray} {pc : Nat} {ls : Array Slot} {rest st0 : List Value} {D : va_G} {Y : Nat → ClassId} {A : Nat → Prop} {H0 : Heap} {ad : Nat → Nat} {n : Nat} {σ : Nat → va_E}
theorem g_free (hG : gH D ad n A H0 σ H locs) (hA : ∀ q, H0.size ≤ q → A q) : ∀ q, va_A (wl ad n σ) H.size q → A q := by
  intro q h
  obtain ⟨-, hD, hS⟩ := hG
  rcases h with ⟨k, e, h⟩ | h
  · exact hD.2 k _ h
  · exact hA q (Nat.le_trans hS.1 h)
/-- behind a call that makes nothing -/
theorem g_call {post : Option Value → (Nat → va_E) → Prop} {a : Array Value} (hr : va_Run p l e R s m args below meth c H locs cells slots 0 0 (F0 m pc ls st0) rest (gPost D ad n σ H.size post a) (va_A (wl ad n σ) H.size)) (hG : gH D ad n A H0 σ H locs) (hA : ∀ q, H0.size ≤ q → A q)
    (kk : ∀ (r : Option Value) (σ' : Nat → va_E) (H1 : Heap) (locs1 : List Loc), post r σ' → gH D ad n A H0 σ' H1 locs1 → W p l e R s m args below meth c H1 locs1 cells slots Q (F0 m (pc + 3) ls (r.toList ++ rest))) : W p l e R s m args below meth c H locs cells slots Q (F0 m pc ls st0) := by
  have hF := g_free hG hA
  obtain ⟨hP, hD, hS⟩ := hG
  intro T hT X
  obtain ⟨v, st₀, t, T', L, h0, X', hL, e1, e2, ⟨⟨r, σ', hv, hp, hb⟩, hz, hk⟩, st⟩ := hr T hT X
  cases hv
  rw [h0] at hz hk
  obtain ⟨t2, a1, b1⟩ := kk v σ' T'.heap (locs ++ L) hp ⟨by rw [e1]; exact hb, wl_D hD σ',
    ⟨Nat.le_trans hS.1 (by rw [e1]; exact hz), fun q h1 h2 => by rw [e1, hk q (Nat.lt_of_lt_of_le h1 hS.1) (fun z => h2 (hF q z))]; exact hS.2.1 q h1 h2, fun q hq => by
      rcases List.mem_append.mp hq with h | h
      · exact hS.2.2 q h
      · exact hF _ (hL q h)⟩⟩ T' rfl X'
  exact ⟨t2, st t2 a1, b1⟩
theorem g_pre (hK : va_K D vwCl (tyl Y) s) (hG : gH D ad n A H0 σ H locs) {As : List Value} (U : State) (hU : U.heap = H) (hW : s.WarmedH U.vm) : va_Pc As (gPre D Y ad n σ H.size) As.toArray U :=
  ⟨rfl, by rw [hU], by rw [hU]; exact hG.1, va_K.moved hW.alike hK, hG.2.1.weaken (fun _ _ _ _ => trivial)⟩
/-- invokevirtual -/
theorem g_callV {y : MethodName} {ws Ts : List Cond} {d ci k maxL na nL index : Nat} {own C : String} {T : u_T} {N : Nat} {bytes : ByteArray} {ret : Option FieldType} {As : List Value} {post : Option Value → (Nat → va_E) → Prop} {fs : List Value}
    (hM : CG l y ws d D Y ad n σ (.ref (ad k) :: As) post) (S : CallFix p m c cc nL s args Ts own) (cw : CallW R s args own C index y bytes maxL ret ws (rmD d) 0 0 na) (hK : va_K D vwCl (tyl Y) s) (hG : gH D ad n A H0 σ H locs) (hA : ∀ q, H0.size ≤ q → A q) (hk : k < n) (hσ : σ k = .inr (ci, fs)) (hc : vwCl[ci]? = some (C, T, N))
    (hn : As.length = na) (hsize : ls.size = nL) (hstack : st0 = As.reverse ++ .ref (ad k) :: rest) (hW : (rest.map fun v => v.category).sum ≤ 8) (hf : cells ≤ R.cells ∧ slots ≤ R.slots) (hdg : decode cc pc = .ok (.invokevirtual index, 3))
    (kk : ∀ (r : Option Value) (σ' : Nat → va_E) (H1 : Heap) (locs1 : List Loc), post r σ' → gH D ad n A H0 σ' H1 locs1 → W p l e R s m args below meth c H1 locs1 cells slots Q (F0 m (pc + 3) ls (r.toList ++ rest))) : W p l e R s m args below meth c H locs cells slots Q (F0 m pc ls st0) := by
  refine g_call (va_runV (As := As) (rest := rest) S (hM H.size) cw ⟨gPre_blind, va_recv hK hG.1 hc (wl_get hk hσ), fun U hU hW => g_pre hK hG U hU hW⟩ rfl hn hsize hstack ?_ hdg hf) hG hA kk
  simpa [JFrame.monitorRoom] using hW
/-- invokestatic -/
theorem g_callS {y : MethodName} {ws Ts : List Cond} {d maxL na nL index : Nat} {own : String} {bytes : ByteArray} {ret : Option FieldType} {As : List Value} {post : Option Value → (Nat → va_E) → Prop}
    (hM : CG l y ws d D Y ad n σ As post) (S : CallFix p m c cc nL s args Ts own) (cw : CallB R s args own index y bytes maxL ret ws (rmD d) 0 0 na ∧ (Cond.static y).before args s = true) (hK : va_K D vwCl (tyl Y) s) (hG : gH D ad n A H0 σ H locs) (hA : ∀ q, H0.size ≤ q → A q)
    (hn : As.length = na) (hsize : ls.size = nL) (hstack : st0 = As.reverse ++ rest) (hW : (rest.map fun v => v.category).sum ≤ 8) (hf : cells ≤ R.cells ∧ slots ≤ R.slots) (hdg : decode cc pc = .ok (.invokestatic index, 3))
    (kk : ∀ (r : Option Value) (σ' : Nat → va_E) (H1 : Heap) (locs1 : List Loc), post r σ' → gH D ad n A H0 σ' H1 locs1 → W p l e R s m args below meth c H1 locs1 cells slots Q (F0 m (pc + 3) ls (r.toList ++ rest))) : W p l e R s m args below meth c H locs cells slots Q (F0 m pc ls st0) := by
  refine g_call (va_runS (As := As) (rest := rest) S (hM H.size) cw ⟨gPre_blind, fun U hU hW => g_pre hK hG U hU hW⟩ rfl hn hsize hstack ?_ hdg hf) hG hA kk
  simpa [JFrame.monitorRoom] using hW
theorem g_get (hexec : p.tables.exec = Jvm.exec) (hb : c.code = cc) {own ref C : String} {T : u_T} {N ci index : Nat} {Ts : List Cond} (hts : ∀ w ∈ Ts, w.before args s = true) (hin : ∀ w ∈ u_ws C T N, w ∈ Ts) (hown : s.vm.findClass own = some m.cls) (hK : va_K D vwCl (tyl Y) s) (hG : gH D ad n A H0 σ H locs) {k : Nat} (hk : k < n) {fs : List Value} (hσ : σ k = .inr (ci, fs)) (hc : vwCl[ci]? = some (C, T, N)) (j : Nat) (hj : j < N) (hlink : (Cond.fieldLink own index ref (T j).2.1 (T j).2.2.1).before args s = true) (hsame : ∀ x, s.fieldFound? (T j).1 (T j).2.1 (T j).2.2.1 = some x → s.fieldFound? ref (T j).2.1 (T j).2.2.1 = some x) {v : Value} (hv : fs[j]? = some v) (hdg : decode cc pc = .ok (.getfield index, 3))
    (kk : W p l e R s m args below meth c H locs cells slots Q (F0 m (pc + 3) ls (v :: rest))) : W p l e R s m args below meth c H locs cells slots Q (F0 m pc ls (.ref (ad k) :: rest)) :=
  va_get (ci := ci) hexec hb hts hin hown hK hG.1 k (wl_get hk hσ) hc j hj hlink hsame hv hdg kk
theorem g_put (hexec : p.tables.exec = Jvm.exec) (hb : c.code = cc) {own ref C : String} {T : u_T} {N ci index : Nat} {Ts : List Cond} (hts : ∀ w ∈ Ts, w.before args s = true) (hin : ∀ w ∈ u_ws C T N, w ∈ Ts) (ty0 : Nat → FieldType) (hty : ∀ k, k < N → parseFieldDescriptor (T k).2.2.1 = some (ty0 k)) (hnm : ∀ a, a < N → ∀ b, b < N → a ≠ b → (T a).2.1 ≠ (T b).2.1) (hown : s.vm.findClass own = some m.cls) (hK : va_K D vwCl (tyl Y) s) (hG : gH D ad n A H0 σ H locs) {k : Nat} (hk : k < n) {fs : List Value} (hσ : σ k = .inr (ci, fs)) (hc : vwCl[ci]? = some (C, T, N)) (j : Nat) (hj : j < N) (hlink : (Cond.fieldLink own index ref (T j).2.1 (T j).2.2.1).before args s = true) (hsame : ∀ x, s.fieldFound? (T j).1 (T j).2.1 (T j).2.2.1 = some x → s.fieldFound? ref (T j).2.1 (T j).2.2.1 = some x) (hfin : (T j).2.2.2 = false) {ty : FieldType} {v : Value} (hd : parseFieldDescriptor (T j).2.2.1 = some ty) (hn : narrow ty v = v) (hfit : fits ty v = true) (hl : j < fs.length)
    (hdg : decode cc pc = .ok (.putfield index, 3)) (kk : ∀ (H1 : Heap) (locs1 : List Loc), gH D ad n A H0 (va_up σ k (.inr (ci, fs.set j v))) H1 locs1 → W p l e R s m args below meth c H1 locs1 cells slots Q (F0 m (pc + 3) ls rest)) : W p l e R s m args below meth c H locs cells slots Q (F0 m pc ls (v :: .ref (ad k) :: rest)) :=
  va_put (ci := ci) hexec hb hts hin ty0 hty hnm hown hK hG.1 hG.2.1 hG.2.2 k (wl_get hk hσ) hc j hj hlink hsame hfin hd hn hfit hl hdg (fun H1 locs1 h1 h2 h3 => kk H1 locs1 ⟨by rw [wl_set hk] at h1; exact h1, by rw [wl_set hk] at h2; exact h2, h3⟩)
theorem g_iald (hexec : p.tables.exec = Jvm.exec) (hb : c.code = cc) (hK : va_K D vwCl (tyl Y) s) (hG : gH D ad n A H0 σ H locs) {k N : Nat} (hk : k < n) {f : Nat → Int32} (hσ : σ k = .inl (Y 1, N, .inl f)) {i : Int32} (hin : vp_in i N) (hdg : decode cc pc = .ok (.iaload, 1))
    (kk : W p l e R s m args below meth c H locs cells slots Q (F0 m (pc + 1) ls (.int (f i.toNatClampNeg) :: rest))) : W p l e R s m args below meth c H locs cells slots Q (F0 m pc ls (.int i :: .ref (ad k) :: rest)) :=
  va_iald hexec hb hK hG.1 k 1 (wl_get hk hσ) rfl hin hdg kk
theorem g_zald (hexec : p.tables.exec = Jvm.exec) (hb : c.code = cc) (hK : va_K D vwCl (tyl Y) s) (hG : gH D ad n A H0 σ H locs) {k N : Nat} (hk : k < n) {f : Nat → Int32} (hσ : σ k = .inl (Y 2, N, .inl f)) {i : Int32} (hin : vp_in i N) (hdg : decode cc pc = .ok (.baload, 1))
    (kk : W p l e R s m args below meth c H locs cells slots Q (F0 m (pc + 1) ls (.int (f i.toNatClampNeg) :: rest))) : W p l e R s m args below meth c H locs cells slots Q (F0 m pc ls (.int i :: .ref (ad k) :: rest)) :=
  va_zald hexec hb hK hG.1 k 2 (wl_get hk hσ) rfl hin hdg kk
theorem g_cald (hexec : p.tables.exec = Jvm.exec) (hb : c.code = cc) (hK : va_K D vwCl (tyl Y) s) (hG : gH D ad n A H0 σ H locs) {k N : Nat} (hk : k < n) {f : Nat → Int32} (hσ : σ k = .inl (Y 0, N, .inl f)) {i : Int32} (hin : vp_in i N) (hdg : decode cc pc = .ok (.caload, 1))
    (kk : W p l e R s m args below meth c H locs cells slots Q (F0 m (pc + 1) ls (.int (f i.toNatClampNeg) :: rest))) : W p l e R s m args below meth c H locs cells slots Q (F0 m pc ls (.int i :: .ref (ad k) :: rest)) :=
  va_cald hexec hb hK hG.1 k 0 (wl_get hk hσ) rfl hin hdg kk
theorem g_iast (hexec : p.tables.exec = Jvm.exec) (hb : c.code = cc) (hK : va_K D vwCl (tyl Y) s) (hG : gH D ad n A H0 σ H locs) {k N : Nat} (hk : k < n) {f : Nat → Int32} (hσ : σ k = .inl (Y 1, N, .inl f)) {i x : Int32} (hin : vp_in i N) (hdg : decode cc pc = .ok (.iastore, 1))
    (kk : ∀ (H1 : Heap) (locs1 : List Loc), gH D ad n A H0 (va_up σ k (.inl (Y 1, N, .inl (upd f i.toNatClampNeg x)))) H1 locs1 → W p l e R s m args below meth c H1 locs1 cells slots Q (F0 m (pc + 1) ls rest)) : W p l e R s m args below meth c H locs cells slots Q (F0 m pc ls (.int x :: .int i :: .ref (ad k) :: rest)) :=
  va_iast hexec hb hK hG.1 hG.2.1 hG.2.2 k 1 (wl_get hk hσ) rfl hin hdg (fun H1 locs1 h1 h2 h3 => kk H1 locs1 ⟨by rw [wl_set hk] at h1; exact h1, by rw [wl_set hk] at h2; exact h2, h3⟩)
theorem g_zast (hexec : p.tables.exec = Jvm.exec) (hb : c.code = cc) (hK : va_K D vwCl (tyl Y) s) (hG : gH D ad n A H0 σ H locs) {k N : Nat} (hk : k < n) {f : Nat → Int32} (hσ : σ k = .inl (Y 2, N, .inl f)) {i x : Int32} (hin : vp_in i N) (hdg : decode cc pc = .ok (.bastore, 1))
    (kk : ∀ (H1 : Heap) (locs1 : List Loc), gH D ad n A H0 (va_up σ k (.inl (Y 2, N, .inl (upd f i.toNatClampNeg (vp_nar .boolean x))))) H1 locs1 → W p l e R s m args below meth c H1 locs1 cells slots Q (F0 m (pc + 1) ls rest)) : W p l e R s m args below meth c H locs cells slots Q (F0 m pc ls (.int x :: .int i :: .ref (ad k) :: rest)) :=
  va_zast hexec hb hK hG.1 hG.2.1 hG.2.2 k 2 (wl_get hk hσ) rfl hin hdg (fun H1 locs1 h1 h2 h3 => kk H1 locs1 ⟨by rw [wl_set hk] at h1; exact h1, by rw [wl_set hk] at h2; exact h2, h3⟩)
theorem g_cast (hexec : p.tables.exec = Jvm.exec) (hb : c.code = cc) (hK : va_K D vwCl (tyl Y) s) (hG : gH D ad n A H0 σ H locs) {k N : Nat} (hk : k < n) {f : Nat → Int32} (hσ : σ k = .inl (Y 0, N, .inl f)) {i x : Int32} (hin : vp_in i N) (hdg : decode cc pc = .ok (.castore, 1))
    (kk : ∀ (H1 : Heap) (locs1 : List Loc), gH D ad n A H0 (va_up σ k (.inl (Y 0, N, .inl (upd f i.toNatClampNeg (vp_nar .char x))))) H1 locs1 → W p l e R s m args below meth c H1 locs1 cells slots Q (F0 m (pc + 1) ls rest)) : W p l e R s m args below meth c H locs cells slots Q (F0 m pc ls (.int x :: .int i :: .ref (ad k) :: rest)) :=
  va_cast hexec hb hK hG.1 hG.2.1 hG.2.2 k 0 (wl_get hk hσ) rfl hin hdg (fun H1 locs1 h1 h2 h3 => kk H1 locs1 ⟨by rw [wl_set hk] at h1; exact h1, by rw [wl_set hk] at h2; exact h2, h3⟩)
theorem g_alen (hexec : p.tables.exec = Jvm.exec) (hb : c.code = cc) (hK : va_K D vwCl (tyl Y) s) (hG : gH D ad n A H0 σ H locs) {k : Nat} (hk : k < n) {cA : ClassId} {x : vp_A} (hσ : σ k = .inl (cA, x)) (t0 : Nat) {ty : FieldType} (ht : (tyl Y)[t0]? = some (cA, ty)) {v : Int32} (hv : Int32.ofNat x.1 = v) (hdg : decode cc pc = .ok (.arraylength, 1))
    (kk : W p l e R s m args below meth c H locs cells slots Q (F0 m (pc + 1) ls (.int v :: rest))) : W p l e R s m args below meth c H locs cells slots Q (F0 m pc ls (.ref (ad k) :: rest)) :=
  va_alen hexec hb hK hG.1 k t0 (wl_get hk hσ) ht hv hdg kk
end GG
