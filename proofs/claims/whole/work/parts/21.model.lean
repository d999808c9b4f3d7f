/-! THE REFERENCE: its object at place b, its 22 arrays at b + 1 .. b + 22; I: int fields by slot, B: long fields by slot, V: arrays by number -/
def mF (ad : Nat → Nat) (b : Nat) (I : Nat → Int32) (B : Nat → Int64) : List Value := [.ref (ad (b + 1)), .int (I 1), .ref (ad (b + 2)), .int (I 3), .ref (ad (b + 3)), .int (I 5), .ref (ad (b + 4)), .int (I 7), .ref (ad (b + 5)), .ref (ad (b + 6)), .ref (ad (b + 7)), .ref (ad (b + 8)), .ref (ad (b + 9)), .ref (ad (b + 10)), .ref (ad (b + 11)), .ref (ad (b + 12)), .ref (ad (b + 13)), .ref (ad (b + 14)), .ref (ad (b + 15)), .int (I 19), .int (I 20), .ref (ad (b + 16)), .ref (ad (b + 17)), .ref (ad (b + 18)), .ref (ad (b + 19)), .int (I 25), .ref (ad (b + 20)), .ref (ad (b + 21)), .ref (ad (b + 22)), .int (I 29), .int (I 30), .int (I 31), .int (I 32), .long (B 33), .long (B 34), .int (I 35)]
def mLen (j : Nat) : Nat := if j = 1 then 72 else if j = 2 ∨ j = 3 then 80 else if j = 4 then 16 else if j = 14 then 1536 else if 16 ≤ j ∧ j ≤ 19 then 40 else 512
theorem mLen_lt (j : Nat) : mLen j < 2 ^ 31 := by
  unfold mLen
  repeat' split
  all_goals omega
def mTy (j : Nat) : Nat := if j = 6 ∨ j = 7 then 2 else 1
def MAt (Y : Nat → ClassId) (ad : Nat → Nat) (b : Nat) (I : Nat → Int32) (B : Nat → Int64) (V : Nat → Nat → Int32) (σ : Nat → va_E) : Prop :=
  σ b = .inr (9, mF ad b I B) ∧ ∀ j, 1 ≤ j → j ≤ 22 → σ (b + j) = .inl (Y (mTy j), mLen j, .inl (V j))
/-- the heap holds the reference at (I, B, V); outside its places the world is σ0 -/
def gM (D : va_G) (Y : Nat → ClassId) (ad : Nat → Nat) (n : Nat) (A : Nat → Prop) (H0 : Heap) (b : Nat) (σ0 : Nat → va_E) (I : Nat → Int32) (B : Nat → Int64) (V : Nat → Nat → Int32) (H : Heap) (locs : List Loc) : Prop :=
  ∃ σ, b + 22 < n ∧ MAt Y ad b I B V σ ∧ (∀ k, (k < b ∨ b + 22 < k) → σ k = σ0 k) ∧ gH D ad n A H0 σ H locs
/-- a method of the reference: from (I, B, V) it returns r, and (I', B', V') are what post says -/
def CM (l : Launch) (y : MethodName) (ws : List Cond) (d : Nat) (I : Nat → Int32) (B : Nat → Int64) (V : Nat → Nat → Int32) (As : Nat → List Value) (post : Option Value → (Nat → Int32) → (Nat → Int64) → (Nat → Nat → Int32) → Prop) : Prop :=
  ∀ (D : va_G) (Y : Nat → ClassId) (ad : Nat → Nat) (n b : Nat) (σ : Nat → va_E), b + 22 < n → MAt Y ad b I B V σ →
    CG l y ws d D Y ad n σ (As (ad b)) (fun r σ' => ∃ I' B' V', post r I' B' V' ∧ MAt Y ad b I' B' V' σ' ∧ ∀ k, (k < b ∨ b + 22 < k) → σ' k = σ k)
theorem mS_1 (ad : Nat → Nat) (b : Nat) (I : Nat → Int32) (B : Nat → Int64) (x : Int32) : (mF ad b I B).set 1 (.int x) = mF ad b (va_up I 1 x) B := rfl
theorem mS_3 (ad : Nat → Nat) (b : Nat) (I : Nat → Int32) (B : Nat → Int64) (x : Int32) : (mF ad b I B).set 3 (.int x) = mF ad b (va_up I 3 x) B := rfl
theorem mS_5 (ad : Nat → Nat) (b : Nat) (I : Nat → Int32) (B : Nat → Int64) (x : Int32) : (mF ad b I B).set 5 (.int x) = mF ad b (va_up I 5 x) B := rfl
theorem mS_7 (ad : Nat → Nat) (b : Nat) (I : Nat → Int32) (B : Nat → Int64) (x : Int32) : (mF ad b I B).set 7 (.int x) = mF ad b (va_up I 7 x) B := rfl
theorem mS_19 (ad : Nat → Nat) (b : Nat) (I : Nat → Int32) (B : Nat → Int64) (x : Int32) : (mF ad b I B).set 19 (.int x) = mF ad b (va_up I 19 x) B := rfl
theorem mS_20 (ad : Nat → Nat) (b : Nat) (I : Nat → Int32) (B : Nat → Int64) (x : Int32) : (mF ad b I B).set 20 (.int x) = mF ad b (va_up I 20 x) B := rfl
theorem mS_25 (ad : Nat → Nat) (b : Nat) (I : Nat → Int32) (B : Nat → Int64) (x : Int32) : (mF ad b I B).set 25 (.int x) = mF ad b (va_up I 25 x) B := rfl
theorem mS_29 (ad : Nat → Nat) (b : Nat) (I : Nat → Int32) (B : Nat → Int64) (x : Int32) : (mF ad b I B).set 29 (.int x) = mF ad b (va_up I 29 x) B := rfl
theorem mS_30 (ad : Nat → Nat) (b : Nat) (I : Nat → Int32) (B : Nat → Int64) (x : Int32) : (mF ad b I B).set 30 (.int x) = mF ad b (va_up I 30 x) B := rfl
theorem mS_31 (ad : Nat → Nat) (b : Nat) (I : Nat → Int32) (B : Nat → Int64) (x : Int32) : (mF ad b I B).set 31 (.int x) = mF ad b (va_up I 31 x) B := rfl
theorem mS_32 (ad : Nat → Nat) (b : Nat) (I : Nat → Int32) (B : Nat → Int64) (x : Int32) : (mF ad b I B).set 32 (.int x) = mF ad b (va_up I 32 x) B := rfl
theorem mS_33 (ad : Nat → Nat) (b : Nat) (I : Nat → Int32) (B : Nat → Int64) (x : Int64) : (mF ad b I B).set 33 (.long x) = mF ad b I (va_up B 33 x) := rfl
theorem mS_34 (ad : Nat → Nat) (b : Nat) (I : Nat → Int32) (B : Nat → Int64) (x : Int64) : (mF ad b I B).set 34 (.long x) = mF ad b I (va_up B 34 x) := rfl
theorem mS_35 (ad : Nat → Nat) (b : Nat) (I : Nat → Int32) (B : Nat → Int64) (x : Int32) : (mF ad b I B).set 35 (.int x) = mF ad b (va_up I 35 x) B := rfl
section GM
variable {p : Program} {l : Launch} {e : Env} {R : Room} {s : State} {m : MethodId} {args : Array Value} {below : List Frame} {meth : Method} {c : Code} {H : Heap} {locs : List Loc} {cells slots : Nat} {Q : State → Prop}
variable {cc : ByteArray} {pc : Nat} {ls : Array Slot} {rest st0 : List Value} {D : va_G} {Y : Nat → ClassId} {A : Nat → Prop} {H0 : Heap} {ad : Nat → Nat} {n b : Nat} {σ0 : Nat → va_E} {I : Nat → Int32} {B : Nat → Int64} {V : Nat → Nat → Int32}
theorem m_get (hexec : p.tables.exec = Jvm.exec) (hb : c.code = cc) {index : Nat} {Ts : List Cond} (hts : ∀ w ∈ Ts, w.before args s = true) (hin : ∀ w ∈ wsX90, w ∈ Ts) (hown : s.vm.findClass RX9 = some m.cls) (hK : va_K D vwCl (tyl Y) s) (hG : gM D Y ad n A H0 b σ0 I B V H locs) (j : Nat) (hj : j < 36) (hlink : (Cond.fieldLink RX9 index RX9 (TX9 j).2.1 (TX9 j).2.2.1).before args s = true) (hsame : (TX9 j).1 = RX9) (v : Value) (hv : (mF ad b I B)[j]? = some v) (hdg : decode cc pc = .ok (.getfield index, 3))
    (kk : W p l e R s m args below meth c H locs cells slots Q (F0 m (pc + 3) ls (v :: rest))) : W p l e R s m args below meth c H locs cells slots Q (F0 m pc ls (.ref (ad b) :: rest)) := by
  obtain ⟨σ, hn, hM, -, hH⟩ := hG
  exact g_get (ci := 9) (C := RX9) (T := TX9) (N := 36) hexec hb hts hin hown hK hH (by omega) hM.1 rfl j hj hlink (fun x h => by rw [hsame] at h; exact h) hv hdg kk
theorem m_put (hexec : p.tables.exec = Jvm.exec) (hb : c.code = cc) {index : Nat} {Ts : List Cond} (hts : ∀ w ∈ Ts, w.before args s = true) (hin : ∀ w ∈ wsX90, w ∈ Ts) (hown : s.vm.findClass RX9 = some m.cls) (hK : va_K D vwCl (tyl Y) s) (hG : gM D Y ad n A H0 b σ0 I B V H locs) (j : Nat) (hj : j < 36) (hlink : (Cond.fieldLink RX9 index RX9 (TX9 j).2.1 (TX9 j).2.2.1).before args s = true) (hsame : (TX9 j).1 = RX9) (hfin : (TX9 j).2.2.2 = false) {v : Value} {I' : Nat → Int32} {B' : Nat → Int64} (hs : (mF ad b I B).set j v = mF ad b I' B') (hnar : narrow (tyX9 j) v = v) (hfit : fits (tyX9 j) v = true)
    (hdg : decode cc pc = .ok (.putfield index, 3)) (kk : ∀ (H1 : Heap) (locs1 : List Loc), gM D Y ad n A H0 b σ0 I' B' V H1 locs1 → W p l e R s m args below meth c H1 locs1 cells slots Q (F0 m (pc + 3) ls rest)) : W p l e R s m args below meth c H locs cells slots Q (F0 m pc ls (v :: .ref (ad b) :: rest)) := by
  obtain ⟨σ, hn, hM, hF, hH⟩ := hG
  refine g_put (ci := 9) (C := RX9) (T := TX9) (N := 36) hexec hb hts hin tyX9 tyX9_ok nmX9 hown hK hH (by omega) hM.1 rfl j hj hlink (fun x h => by rw [hsame] at h; exact h) hfin (tyX9_ok j hj) hnar hfit (by simpa [mF] using hj) hdg (fun H1 locs1 h1 => kk H1 locs1 ⟨_, hn, ⟨?_, fun i h1 h2 => ?_⟩, fun k hk => ?_, h1⟩)
  · rw [va_up_self, hs]
  · rw [va_up_ne _ _ (by omega)]
    exact hM.2 i h1 h2
  · rw [va_up_ne _ _ (by omega)]
    exact hF k hk
theorem m_iald (hexec : p.tables.exec = Jvm.exec) (hb : c.code = cc) (hK : va_K D vwCl (tyl Y) s) (hG : gM D Y ad n A H0 b σ0 I B V H locs) {j : Nat} (h1 : 1 ≤ j) (h2 : j ≤ 22) (ht : mTy j = 1) {i : Int32} (hin : vp_in i (mLen j)) (hdg : decode cc pc = .ok (.iaload, 1))
    (kk : W p l e R s m args below meth c H locs cells slots Q (F0 m (pc + 1) ls (.int (V j i.toNatClampNeg) :: rest))) : W p l e R s m args below meth c H locs cells slots Q (F0 m pc ls (.int i :: .ref (ad (b + j)) :: rest)) := by
  obtain ⟨σ, hn, hM, -, hH⟩ := hG
  exact g_iald hexec hb hK hH (by omega) ((hM.2 j h1 h2).trans (by rw [ht])) hin hdg kk
theorem m_zald (hexec : p.tables.exec = Jvm.exec) (hb : c.code = cc) (hK : va_K D vwCl (tyl Y) s) (hG : gM D Y ad n A H0 b σ0 I B V H locs) {j : Nat} (h1 : 1 ≤ j) (h2 : j ≤ 22) (ht : mTy j = 2) {i : Int32} (hin : vp_in i (mLen j)) (hdg : decode cc pc = .ok (.baload, 1))
    (kk : W p l e R s m args below meth c H locs cells slots Q (F0 m (pc + 1) ls (.int (V j i.toNatClampNeg) :: rest))) : W p l e R s m args below meth c H locs cells slots Q (F0 m pc ls (.int i :: .ref (ad (b + j)) :: rest)) := by
  obtain ⟨σ, hn, hM, -, hH⟩ := hG
  exact g_zald hexec hb hK hH (by omega) ((hM.2 j h1 h2).trans (by rw [ht])) hin hdg kk
theorem m_iaN (hexec : p.tables.exec = Jvm.exec) (hb : c.code = cc) (hK : va_K D vwCl (tyl Y) s) (hG : gM D Y ad n A H0 b σ0 I B V H locs) {j : Nat} (h1 : 1 ≤ j) (h2 : j ≤ 22) (ht : mTy j = 1) {i : Int32} (k : Nat) (hi : i = nI k) (hk : k < mLen j) (hdg : decode cc pc = .ok (.iaload, 1))
    (kk : W p l e R s m args below meth c H locs cells slots Q (F0 m (pc + 1) ls (.int (V j k) :: rest))) : W p l e R s m args below meth c H locs cells slots Q (F0 m pc ls (.int i :: .ref (ad (b + j)) :: rest)) := by
  subst hi
  have hL := mLen_lt j
  exact m_iald hexec hb hK hG h1 h2 ht (vp_in_nI hk (by omega)) hdg (by rw [nI_clamp (by omega)]; exact kk)
theorem m_zaN (hexec : p.tables.exec = Jvm.exec) (hb : c.code = cc) (hK : va_K D vwCl (tyl Y) s) (hG : gM D Y ad n A H0 b σ0 I B V H locs) {j : Nat} (h1 : 1 ≤ j) (h2 : j ≤ 22) (ht : mTy j = 2) {i : Int32} (k : Nat) (hi : i = nI k) (hk : k < mLen j) (hdg : decode cc pc = .ok (.baload, 1))
    (kk : W p l e R s m args below meth c H locs cells slots Q (F0 m (pc + 1) ls (.int (V j k) :: rest))) : W p l e R s m args below meth c H locs cells slots Q (F0 m pc ls (.int i :: .ref (ad (b + j)) :: rest)) := by
  subst hi
  have hL := mLen_lt j
  exact m_zald hexec hb hK hG h1 h2 ht (vp_in_nI hk (by omega)) hdg (by rw [nI_clamp (by omega)]; exact kk)
theorem m_setA {σ : Nat → va_E} {j : Nat} (h1 : 1 ≤ j) (h2 : j ≤ 22) (hn : b + 22 < n) (hM : MAt Y ad b I B V σ) (hF : ∀ k, (k < b ∨ b + 22 < k) → σ k = σ0 k) {f : Nat → Int32} {H1 : Heap} {locs1 : List Loc} (hH : gH D ad n A H0 (va_up σ (b + j) (.inl (Y (mTy j), mLen j, .inl f))) H1 locs1) : gM D Y ad n A H0 b σ0 I B (va_up V j f) H1 locs1 := by
  refine ⟨_, hn, ⟨?_, fun i h3 h4 => ?_⟩, fun k hk => ?_, hH⟩
  · rw [va_up_ne _ _ (by omega)]
    exact hM.1
  · by_cases h : i = j
    · subst h
      rw [va_up_self, va_up_self]
    · rw [va_up_ne _ _ (by omega), va_up_ne _ _ h]
      exact hM.2 i h3 h4
  · rw [va_up_ne _ _ (by omega)]
    exact hF k hk
theorem m_iast (hexec : p.tables.exec = Jvm.exec) (hb : c.code = cc) (hK : va_K D vwCl (tyl Y) s) (hG : gM D Y ad n A H0 b σ0 I B V H locs) {j : Nat} (h1 : 1 ≤ j) (h2 : j ≤ 22) (ht : mTy j = 1) {i x : Int32} (hin : vp_in i (mLen j)) (hdg : decode cc pc = .ok (.iastore, 1))
    (kk : ∀ (H1 : Heap) (locs1 : List Loc), gM D Y ad n A H0 b σ0 I B (va_up V j (upd (V j) i.toNatClampNeg x)) H1 locs1 → W p l e R s m args below meth c H1 locs1 cells slots Q (F0 m (pc + 1) ls rest)) : W p l e R s m args below meth c H locs cells slots Q (F0 m pc ls (.int x :: .int i :: .ref (ad (b + j)) :: rest)) := by
  obtain ⟨σ, hn, hM, hF, hH⟩ := hG
  exact g_iast hexec hb hK hH (by omega) ((hM.2 j h1 h2).trans (by rw [ht])) hin hdg (fun H1 locs1 h3 => kk H1 locs1 (m_setA h1 h2 hn hM hF (by rw [ht]; exact h3)))
theorem m_zast (hexec : p.tables.exec = Jvm.exec) (hb : c.code = cc) (hK : va_K D vwCl (tyl Y) s) (hG : gM D Y ad n A H0 b σ0 I B V H locs) {j : Nat} (h1 : 1 ≤ j) (h2 : j ≤ 22) (ht : mTy j = 2) {i x : Int32} (hin : vp_in i (mLen j)) (hdg : decode cc pc = .ok (.bastore, 1))
    (kk : ∀ (H1 : Heap) (locs1 : List Loc), gM D Y ad n A H0 b σ0 I B (va_up V j (upd (V j) i.toNatClampNeg (vp_nar .boolean x))) H1 locs1 → W p l e R s m args below meth c H1 locs1 cells slots Q (F0 m (pc + 1) ls rest)) : W p l e R s m args below meth c H locs cells slots Q (F0 m pc ls (.int x :: .int i :: .ref (ad (b + j)) :: rest)) := by
  obtain ⟨σ, hn, hM, hF, hH⟩ := hG
  exact g_zast hexec hb hK hH (by omega) ((hM.2 j h1 h2).trans (by rw [ht])) hin hdg (fun H1 locs1 h3 => kk H1 locs1 (m_setA h1 h2 hn hM hF (by rw [ht]; exact h3)))
theorem m_isN (hexec : p.tables.exec = Jvm.exec) (hb : c.code = cc) (hK : va_K D vwCl (tyl Y) s) (hG : gM D Y ad n A H0 b σ0 I B V H locs) {j : Nat} (h1 : 1 ≤ j) (h2 : j ≤ 22) (ht : mTy j = 1) {i x : Int32} (k : Nat) (hi : i = nI k) (hk : k < mLen j) (hdg : decode cc pc = .ok (.iastore, 1))
    (kk : ∀ (H1 : Heap) (locs1 : List Loc), gM D Y ad n A H0 b σ0 I B (va_up V j (upd (V j) k x)) H1 locs1 → W p l e R s m args below meth c H1 locs1 cells slots Q (F0 m (pc + 1) ls rest)) : W p l e R s m args below meth c H locs cells slots Q (F0 m pc ls (.int x :: .int i :: .ref (ad (b + j)) :: rest)) := by
  subst hi
  have hL := mLen_lt j
  exact m_iast hexec hb hK hG h1 h2 ht (vp_in_nI hk (by omega)) hdg (by rw [nI_clamp (by omega)]; exact kk)
theorem m_zsN (hexec : p.tables.exec = Jvm.exec) (hb : c.code = cc) (hK : va_K D vwCl (tyl Y) s) (hG : gM D Y ad n A H0 b σ0 I B V H locs) {j : Nat} (h1 : 1 ≤ j) (h2 : j ≤ 22) (ht : mTy j = 2) {i x : Int32} (k : Nat) (hi : i = nI k) (hk : k < mLen j) (hnr : vp_nar .boolean x = x) (hdg : decode cc pc = .ok (.bastore, 1))
    (kk : ∀ (H1 : Heap) (locs1 : List Loc), gM D Y ad n A H0 b σ0 I B (va_up V j (upd (V j) k x)) H1 locs1 → W p l e R s m args below meth c H1 locs1 cells slots Q (F0 m (pc + 1) ls rest)) : W p l e R s m args below meth c H locs cells slots Q (F0 m pc ls (.int x :: .int i :: .ref (ad (b + j)) :: rest)) := by
  subst hi
  have hL := mLen_lt j
  exact m_zast hexec hb hK hG h1 h2 ht (vp_in_nI hk (by omega)) hdg (by rw [nI_clamp (by omega), hnr]; exact kk)
theorem m_callV {y : MethodName} {ws Ts : List Cond} {d maxL na nL index : Nat} {bytes : ByteArray} {ret : Option FieldType} {As : List Value} {post : Option Value → (Nat → Int32) → (Nat → Int64) → (Nat → Nat → Int32) → Prop}
    (hM : CM l y ws d I B V (fun a => .ref a :: As) post) (S : CallFix p m c cc nL s args Ts RX9) (cw : CallW R s args RX9 RX9 index y bytes maxL ret ws (rmD d) 0 0 na) (hK : va_K D vwCl (tyl Y) s) (hG : gM D Y ad n A H0 b σ0 I B V H locs) (hA : ∀ q, H0.size ≤ q → A q)
    (hn : As.length = na) (hsize : ls.size = nL) (hstack : st0 = As.reverse ++ .ref (ad b) :: rest) (hW : (rest.map fun v => v.category).sum ≤ 8) (hf : cells ≤ R.cells ∧ slots ≤ R.slots) (hdg : decode cc pc = .ok (.invokevirtual index, 3))
    (kk : ∀ (r : Option Value) (I' : Nat → Int32) (B' : Nat → Int64) (V' : Nat → Nat → Int32) (H1 : Heap) (locs1 : List Loc), post r I' B' V' → gM D Y ad n A H0 b σ0 I' B' V' H1 locs1 → W p l e R s m args below meth c H1 locs1 cells slots Q (F0 m (pc + 3) ls (r.toList ++ rest))) : W p l e R s m args below meth c H locs cells slots Q (F0 m pc ls st0) := by
  obtain ⟨σ, hb, hMt, hF, hH⟩ := hG
  refine g_callV (k := b) (ci := 9) (C := RX9) (T := TX9) (N := 36) (hM D Y ad n b σ hb hMt) S cw hK hH hA (by omega) hMt.1 rfl hn hsize hstack hW hf hdg (fun r σ' H1 locs1 hp hH1 => ?_)
  obtain ⟨I', B', V', h1, h2, h3⟩ := hp
  exact kk r I' B' V' H1 locs1 h1 ⟨σ', hb, h2, fun k hk => (h3 k hk).trans (hF k hk), hH1⟩
theorem m_callS {y : MethodName} {ws Ts : List Cond} {d maxL na nL index : Nat} {bytes : ByteArray} {ret : Option FieldType} {As : List Value} {post : Option Value → (Nat → Int32) → (Nat → Int64) → (Nat → Nat → Int32) → Prop}
    (hM : CM l y ws d I B V (fun _ => As) post) (S : CallFix p m c cc nL s args Ts RX9) (cw : CallB R s args RX9 index y bytes maxL ret ws (rmD d) 0 0 na ∧ (Cond.static y).before args s = true) (hK : va_K D vwCl (tyl Y) s) (hG : gM D Y ad n A H0 b σ0 I B V H locs) (hA : ∀ q, H0.size ≤ q → A q)
    (hn : As.length = na) (hsize : ls.size = nL) (hstack : st0 = As.reverse ++ rest) (hW : (rest.map fun v => v.category).sum ≤ 8) (hf : cells ≤ R.cells ∧ slots ≤ R.slots) (hdg : decode cc pc = .ok (.invokestatic index, 3))
    (kk : ∀ (r : Option Value) (I' : Nat → Int32) (B' : Nat → Int64) (V' : Nat → Nat → Int32) (H1 : Heap) (locs1 : List Loc), post r I' B' V' → gM D Y ad n A H0 b σ0 I' B' V' H1 locs1 → W p l e R s m args below meth c H1 locs1 cells slots Q (F0 m (pc + 3) ls (r.toList ++ rest))) : W p l e R s m args below meth c H locs cells slots Q (F0 m pc ls st0) := by
  obtain ⟨σ, hb, hMt, hF, hH⟩ := hG
  refine g_callS (hM D Y ad n b σ hb hMt) S cw hK hH hA hn hsize hstack hW hf hdg (fun r σ' H1 locs1 hp hH1 => ?_)
  obtain ⟨I', B', V', h1, h2, h3⟩ := hp
  exact kk r I' B' V' H1 locs1 h1 ⟨σ', hb, h2, fun k hk => (h3 k hk).trans (hF k hk), hH1⟩
end GM
abbrev pI (P : Int32 → (Nat → Int32) → (Nat → Int64) → (Nat → Nat → Int32) → Prop) : Option Value → (Nat → Int32) → (Nat → Int64) → (Nat → Nat → Int32) → Prop := fun r I B V => ∃ x : Int32, r = some (.int x) ∧ P x I B V
abbrev pL (P : Int64 → (Nat → Int32) → (Nat → Int64) → (Nat → Nat → Int32) → Prop) : Option Value → (Nat → Int32) → (Nat → Int64) → (Nat → Nat → Int32) → Prop := fun r I B V => ∃ x : Int64, r = some (.long x) ∧ P x I B V
abbrev pD (P : UInt64 → (Nat → Int32) → (Nat → Int64) → (Nat → Nat → Int32) → Prop) : Option Value → (Nat → Int32) → (Nat → Int64) → (Nat → Nat → Int32) → Prop := fun r I B V => ∃ x : UInt64, r = some (.double x) ∧ P x I B V
abbrev pN (P : (Nat → Int32) → (Nat → Int64) → (Nat → Nat → Int32) → Prop) : Option Value → (Nat → Int32) → (Nat → Int64) → (Nat → Nat → Int32) → Prop := fun r I B V => r = none ∧ P I B V
/-- a method of the reference, from its body: what a walk is given, what it owes at its ends -/
def mEnd (D : va_G) (Y : Nat → ClassId) (ad : Nat → Nat) (n b : Nat) (σ : Nat → va_E) (sz : Nat) (post : Option Value → (Nat → Int32) → (Nat → Int64) → (Nat → Nat → Int32) → Prop) : Array Value → State → Outcome → State → Prop :=
  gPost D ad n σ sz (fun r σ' => ∃ I' B' V', post r I' B' V' ∧ MAt Y ad b I' B' V' σ' ∧ ∀ k, (k < b ∨ b + 22 < k) → σ' k = σ k)
theorem m_end {D : va_G} {Y : Nat → ClassId} {ad : Nat → Nat} {n b : Nat} {σ : Nat → va_E} {post : Option Value → (Nat → Int32) → (Nat → Int64) → (Nat → Nat → Int32) → Prop} {s t : State} {a : Array Value} {H : Heap} {locs : List Loc} {r : Option Value} {I : Nat → Int32} {B : Nat → Int64} {V : Nat → Nat → Int32}
    {A : Nat → Prop} (hAe : A = va_A (wl ad n σ) s.heap.size) (hG : gM D Y ad n A s.heap b σ I B V H locs) (hp : post r I B V) (ht : t.heap = H) : mEnd D Y ad n b σ s.heap.size post a s (.returned r) t := by
  subst hAe
  obtain ⟨σ', hn, hM, hF, hP, hD, hS⟩ := hG
  exact ⟨⟨r, σ', rfl, ⟨I, B, V, hp, hM, hF⟩, by rw [ht]; exact hP⟩, hS.F ht⟩
theorem m_locs {D : va_G} {Y : Nat → ClassId} {ad : Nat → Nat} {n b : Nat} {σ0 : Nat → va_E} {A : Nat → Prop} {H0 H : Heap} {locs : List Loc} {I : Nat → Int32} {B : Nat → Int64} {V : Nat → Nat → Int32} (hG : gM D Y ad n A H0 b σ0 I B V H locs) : ∀ q ∈ locs, A q.base := by
  obtain ⟨σ', hn, hM, hF, hP, hD, hS⟩ := hG
  exact hS.2.2
/-- the frame of every method of the reference -/
theorem CM.ofW {l : Launch} {y : MethodName} {cc : ByteArray} {maxL : Nat} {ret : Option FieldType} {ws ws' : List Cond} {d : Nat} {I : Nat → Int32} {B : Nat → Int64} {V : Nat → Nat → Int32} {As : Nat → List Value} {post : Option Value → (Nat → Int32) → (Nat → Int64) → (Nat → Nat → Int32) → Prop} (hy : plainName y.cls = true) (hc : y.cls = RX9) (hw : ws = Cond.code y cc maxL ret :: ws') (hAs : ∀ a, (lg_sl (As a)).length ≤ maxL)
    (body : ∀ (p : Program) (e : Env) (s : State) (m : MethodId) (args : Array Value) (below : List Frame) (meth : Method) (c : Code) (D : va_G) (Y : Nat → ClassId) (ad : Nat → Nat) (n b : Nat) (σ : Nat → va_E) (A : Nat → Prop) (ls : Array Slot), A = va_A (wl ad n σ) s.heap.size →
      p.tables.exec = Jvm.exec → c.code = cc → meth.sig.returnType = ret → c.maxLocals = maxL → (∀ w ∈ ws, w.before args s = true) → s.vm.findClass RX9 = some m.cls → meth.locks = false → va_K D vwCl (tyl Y) s → (∀ q, s.heap.size ≤ q → A q) → gM D Y ad n A s.heap b σ I B V s.heap [] → lv_has ls maxL (lv_args 0 (As (ad b))) →
      W p l e (rmD d) s m args below meth c s.heap [] 0 0 (MQ below (mEnd D Y ad n b σ s.heap.size post) args s 0 0 A) (F0 m 0 ls [])) : CM l y ws d I B V As post := by
  intro D Y ad n b σ hn hMt sz
  refine Met.ofW (cc := cc) (maxL := maxL) (ret := ret) hy hw ?_
  intro p e s m args below meth c s₁ Bd hml hv
  obtain ⟨rfl, hsz, hP, hK, hD0⟩ := hv
  subst hsz
  have hts := atoms_spec (ws := ws) Bd.pre
  have hown : s.vm.findClass y.cls = some m.cls := findClass_of_methodNamed Bd.named
  rw [hc] at hown
  have hl := lv_entry (As (ad b)) (n := maxL) (hAs (ad b))
  rw [lg_entry_eq]
  exact body p e s m _ below meth c D Y ad n b σ _ _ rfl Bd.exec Bd.bytes Bd.returns hml hts hown Bd.notSynchronized hK (fun q h => Or.inr h) ⟨σ, hn, hMt, fun _ _ => rfl, hP, hD0.self (sz := s.heap.size), va_S.rf⟩ hl
