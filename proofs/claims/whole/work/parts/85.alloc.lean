/-! new cells -/
def closed (S : GS) : Prop := ∀ k j q, k < gN S → gR S k j = some q → q < gN S
def nwS (S : GS) (c L : Nat) : GS := (gN S + 1, va_up (gK S) (gN S) c, va_up (gL S) (gN S) L, va_up (gX S) (gN S) (fun _ => 0), va_up (gZ S) (gN S) (fun _ => 0), va_up (gR S) (gN S) (fun _ => none), va_up (gF S) (gN S) (fun _ => 0))
theorem rv_ad {ad ad1 : Nat → Nat} {o : Option Nat} (h : ∀ q, o = some q → ad1 q = ad q) : rv ad1 o = rv ad o := by
  cases o with
  | none => rfl
  | some q => show Value.ref (ad1 q) = Value.ref (ad q); rw [h q rfl]
theorem gC_ad {Y : Nat → ClassId} {ad ad1 : Nat → Nat} {K L : Nat} {x : Nat → Int32} {z : Nat → Int64} {r : Nat → Option Nat} {f : Nat → UInt64} (h : ∀ j q, r j = some q → ad1 q = ad q) : gC Y ad1 K L x z r f = gC Y ad K L x z r f := by
  have e1 : ∀ j, rv ad1 (r j) = rv ad (r j) := fun j => rv_ad (h j)
  have e2 : (fun j => (r j).map ad1) = (fun j => (r j).map ad) := by
    funext j
    cases hr : r j with
    | none => rfl
    | some q => show some (ad1 q) = some (ad q); rw [h j q hr]
  unfold gC cR0 cR1 cR2 cR3 cR4 cR5 cR6 cR7 cR8 cR9
  simp only [e1, e2]
theorem nwS_old {Y : Nat → ClassId} {ad ad1 : Nat → Nat} {S : GS} {c L k : Nat} (hc : closed S) (hk : k < gN S) (had : ∀ k, k < gN S → ad1 k = ad k) : gCell Y ad1 (nwS S c L) k = gCell Y ad S k := by
  have hne : k ≠ gN S := Nat.ne_of_lt hk
  show gC Y ad1 (va_up (gK S) (gN S) c k) (va_up (gL S) (gN S) L k) (va_up (gX S) (gN S) (fun _ => 0) k) (va_up (gZ S) (gN S) (fun _ => 0) k) (va_up (gR S) (gN S) (fun _ => none) k) (va_up (gF S) (gN S) (fun _ => 0) k) = _
  rw [va_up_ne _ _ hne, va_up_ne _ _ hne, va_up_ne _ _ hne, va_up_ne _ _ hne, va_up_ne _ _ hne, va_up_ne _ _ hne]
  exact gC_ad (fun j q h => had q (hc k j q hk h))
theorem nwS_new {Y : Nat → ClassId} {ad1 : Nat → Nat} {S : GS} {c L : Nat} : gCell Y ad1 (nwS S c L) (gN S) = gC Y ad1 c L (fun _ => 0) (fun _ => 0) (fun _ => none) (fun _ => 0) := by
  show gC Y ad1 (va_up (gK S) (gN S) c (gN S)) (va_up (gL S) (gN S) L (gN S)) (va_up (gX S) (gN S) (fun _ => 0) (gN S)) (va_up (gZ S) (gN S) (fun _ => 0) (gN S)) (va_up (gR S) (gN S) (fun _ => none) (gN S)) (va_up (gF S) (gN S) (fun _ => 0) (gN S)) = _
  rw [va_up_self, va_up_self, va_up_self, va_up_self, va_up_self, va_up_self]
theorem wl_congr {ad ad1 : Nat → Nat} {n : Nat} {σ σ1 : Nat → va_E} (h1 : ∀ k, k < n → ad k = ad1 k) (h2 : ∀ k, k < n → σ k = σ1 k) : wl ad n σ = wl ad1 n σ1 := by
  refine List.ext_getElem? fun i => ?_
  rcases Nat.lt_or_ge i n with h | h
  · rw [wl_at h, wl_at h, h1 i h, h2 i h]
  · rw [wl_out h, wl_out h]
theorem nwS_world {Y : Nat → ClassId} {ad ad1 : Nat → Nat} {S : GS} {c L q : Nat} {e : va_E} (hc : closed S) (had : ad1 = va_up ad (gN S) q) (he : gC Y ad1 c L (fun _ => 0) (fun _ => 0) (fun _ => none) (fun _ => 0) = e) : wl ad (gN S) (gCell Y ad S) ++ [(q, e)] = wl ad1 (gN (nwS S c L)) (gCell Y ad1 (nwS S c L)) := by
  rw [wl_push]
  show wl (va_up ad (gN S) q) (gN S + 1) _ = wl ad1 (gN S + 1) _
  rw [← had]
  refine wl_congr (fun _ _ => rfl) (fun k hk => ?_)
  by_cases h : k = gN S
  · subst h; rw [va_up_self, nwS_new, he]
  · rw [va_up_ne _ _ h, nwS_old hc (by omega) (fun k hk => by rw [had, va_up_ne _ _ (Nat.ne_of_lt hk)])]
section GA
variable {p : Program} {l : Launch} {e : Env} {R : Room} {s : State} {m : MethodId} {args : Array Value} {below : List Frame} {meth : Method} {c : Code} {H : Heap} {locs : List Loc} {cells slots : Nat} {Q : State → Prop}
variable {cc : ByteArray} {pc : Nat} {ls : Array Slot} {rest st0 : List Value} {D : va_G} {Y : Nat → ClassId} {A : Nat → Prop} {H0 : Heap} {ad : Nat → Nat} {S : GS}
theorem r_new (hexec : p.tables.exec = Jvm.exec) (hb : c.code = cc) {own C : String} {T : u_T} {N ci index : Nat} {Ts : List Cond} (hts : ∀ w ∈ Ts, w.before args s = true) (hin : ∀ w ∈ u_ws C T N, w ∈ Ts) (ty : Nat → FieldType) (hty : ∀ k, k < N → parseFieldDescriptor (T k).2.2.1 = some (ty k)) (hown : s.vm.findClass own = some m.cls) (hcl : (Cond.classLink own index C).before args s = true) (hinst : (Cond.instantiable C N).before args s = true) (hini : (Cond.initialized C).before args s = true)
    (hK : va_K D vwCl (tyl Y) s) (hG : gS D Y ad A H0 S H locs) (hA : ∀ q, H0.size ≤ q → A q) (hcd : closed S) (hc : vwCl[ci]? = some (C, T, N)) {fs : List Value} (hfs : ∀ j, j < N → defaultValue (ty j) = vp_V fs j) (hcell : ∀ ad1, gC Y ad1 ci 0 (fun _ => 0) (fun _ => 0) (fun _ => none) (fun _ => 0) = .inr (ci, fs)) (hcells : cells + 1 ≤ R.cells) (hslots : slots + N ≤ R.slots) (hdg : decode cc pc = .ok (.new index, 3))
    (kk : ∀ (ad1 : Nat → Nat) (H1 : Heap), (∀ k, k < gN S → ad1 k = ad k) → gS D Y ad1 A H0 (nwS S ci 0) H1 locs →
      W p l e R s m args below meth c H1 locs (cells + 1) (slots + N) Q (F0 m (pc + 3) ls (.ref (ad1 (gN S)) :: rest))) : W p l e R s m args below meth c H locs cells slots Q (F0 m pc ls rest) := by
  refine va_new (ci := ci) (fs := fs) hexec hb hts hin ty hty hown hcl hinst hini hK hG.1 hG.2.1 hG.2.2 hA hc hfs hcells hslots hdg (fun q H1 h1 h2 h3 => ?_)
  rw [nwS_world (c := ci) (L := 0) hcd rfl (hcell _)] at h1 h2
  have k1 := kk (va_up ad (gN S) q) H1 (fun k hk => va_up_ne _ _ (Nat.ne_of_lt hk)) ⟨h1, h2, h3⟩
  rw [va_up_self] at k1
  exact k1
theorem r_newa (hexec : p.tables.exec = Jvm.exec) (hb : c.code = cc) {atype : ArrayType} (harr : (Cond.arrayClass (newarray.typeOf atype)).before args s = true) {ty : FieldType} (hty : newarray.typeOf atype = ty) (hK : va_K D vwCl (tyl Y) s) (hG : gS D Y ad A H0 S H locs) (hA : ∀ q, H0.size ≤ q → A q) (hcd : closed S) (t0 kd : Nat) (ht : (tyl Y)[t0]? = some (Y t0, ty)) (hobj : ∀ U cA, va_RA U cA ty → U.vm.findClass ("[" ++ ty.toString) = some cA)
    {n : Int32} {N' : Nat} {a0 : vp_A} (ha : ∀ cA : ClassId, vp_cell cA a0 = arrV cA N' (fun _ => defaultValue ty)) (hcell : ∀ ad1, gC Y ad1 kd N' (fun _ => 0) (fun _ => 0) (fun _ => none) (fun _ => 0) = .inl (Y t0, a0)) (hn : ¬ n < 0) (hN : n.toNatClampNeg = N') (hbytes : N' * componentBytes ty ≤ 536870912) (hcells : cells + 1 ≤ R.cells) (hslots : slots + N' ≤ R.slots) (hdg : decode cc pc = .ok (.newarray atype, 2))
    (kk : ∀ (ad1 : Nat → Nat) (H1 : Heap), (∀ k, k < gN S → ad1 k = ad k) → gS D Y ad1 A H0 (nwS S kd N') H1 locs →
      W p l e R s m args below meth c H1 locs (cells + 1) (slots + N') Q (F0 m (pc + 2) ls (.ref (ad1 (gN S)) :: rest))) : W p l e R s m args below meth c H locs cells slots Q (F0 m pc ls (.int n :: rest)) := by
  refine va_newa hexec hb harr hty hK hG.1 hG.2.1 hG.2.2 hA (a0 := a0) ha hn hN hbytes hcells hslots hdg (fun q cA H1 hK1 h1 h2 h3 => ?_)
  have e1 := hobj _ _ (hK.2 t0 _ ht).2
  have e2 := hobj _ _ (hK1.2 (tyl Y).length (cA, ty) (by rw [List.getElem?_append_right (Nat.le_refl _)]; simp)).2
  have e3 : cA = Y t0 := Option.some.inj (e2.symm.trans e1)
  subst e3
  rw [nwS_world (c := kd) (L := N') hcd rfl (hcell _)] at h1 h2
  have k1 := kk (va_up ad (gN S) q) H1 (fun k hk => va_up_ne _ _ (Nat.ne_of_lt hk)) ⟨h1, h2, h3⟩
  rw [va_up_self] at k1
  exact k1
theorem r_putF (hexec : p.tables.exec = Jvm.exec) (hb : c.code = cc) {own ref C : String} {T : u_T} {N ci index : Nat} {Ts : List Cond} (hts : ∀ w ∈ Ts, w.before args s = true) (hin : ∀ w ∈ u_ws C T N, w ∈ Ts) (ty0 : Nat → FieldType) (hty : ∀ k, k < N → parseFieldDescriptor (T k).2.2.1 = some (ty0 k)) (hnm : ∀ a, a < N → ∀ b, b < N → a ≠ b → (T a).2.1 ≠ (T b).2.1) (hown : s.vm.findClass own = some m.cls) (hK : va_K D vwCl (tyl Y) s) (hG : gS D Y ad A H0 S H locs) {k : Nat} (hk : k < gN S) {fs : List Value} (hσ : gCell Y ad S k = .inr (ci, fs)) (hc : vwCl[ci]? = some (C, T, N)) (j : Nat) (hj : j < N) (hlink : (Cond.fieldLink own index ref (T j).2.1 (T j).2.2.1).before args s = true) (hsame : ∀ x, s.fieldFound? (T j).1 (T j).2.1 (T j).2.2.1 = some x → s.fieldFound? ref (T j).2.1 (T j).2.2.1 = some x) (hfin : (T j).2.2.2 = true) (hin2 : meth.name = "<init>") (hdecl : (T j).1 = own) {v : Value} (hn : narrow (ty0 j) v = v) (hfit : fits (ty0 j) v = true) (hl : j < fs.length) {S' : GS} (hN : gN S' = gN S) (hpu : gCell Y ad S' = va_up (gCell Y ad S) k (.inr (ci, fs.set j v)))
    (hdg : decode cc pc = .ok (.putfield index, 3)) (kk : ∀ (H1 : Heap) (locs1 : List Loc), gS D Y ad A H0 S' H1 locs1 → W p l e R s m args below meth c H1 locs1 cells slots Q (F0 m (pc + 3) ls rest)) : W p l e R s m args below meth c H locs cells slots Q (F0 m pc ls (v :: .ref (ad k) :: rest)) :=
  va_putF (ci := ci) hexec hb hts hin ty0 hty hnm hown hK hG.1 hG.2.1 hG.2.2 k (wl_get hk hσ) hc j hj hlink hsame hfin hin2 hdecl (hty j hj) hn hfit hl hdg (fun H1 locs1 h1 h2 h3 => kk H1 locs1 (by show gH D ad (gN S') A H0 (gCell Y ad S') H1 locs1; rw [hN, hpu]; rw [wl_set hk] at h1 h2; exact ⟨h1, h2, h3⟩))
end GA
