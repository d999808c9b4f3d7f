/-! ONE STATE FOR ALL. A place k holds a cell of kind gK S k (0..9: an object of vwCl's class of that number; 10 char[], 11 int[], 12 boolean[], 13 Event[], 14 long[], 15 double[]); its ints (fields by slot, elements by index) are gX S k, its longs gZ S k, its references (places) gR S k, its doubles gF S k; gL S k is an array's length; gN S places are there. -/
abbrev GS : Type := Nat × (Nat → Nat) × (Nat → Nat) × (Nat → Nat → Int32) × (Nat → Nat → Int64) × (Nat → Nat → Option Nat) × (Nat → Nat → UInt64)
def gN (S : GS) : Nat := S.1
def gK (S : GS) : Nat → Nat := S.2.1
def gL (S : GS) : Nat → Nat := S.2.2.1
def gX (S : GS) : Nat → Nat → Int32 := S.2.2.2.1
def gZ (S : GS) : Nat → Nat → Int64 := S.2.2.2.2.1
def gR (S : GS) : Nat → Nat → Option Nat := S.2.2.2.2.2.1
def gF (S : GS) : Nat → Nat → UInt64 := S.2.2.2.2.2.2
def up2 {α : Type} (f : Nat → Nat → α) (k j : Nat) (v : α) : Nat → Nat → α := fun a i => if a = k ∧ i = j then v else f a i
def sX (S : GS) (k j : Nat) (v : Int32) : GS := (gN S, gK S, gL S, up2 (gX S) k j v, gZ S, gR S, gF S)
def sZ (S : GS) (k j : Nat) (v : Int64) : GS := (gN S, gK S, gL S, gX S, up2 (gZ S) k j v, gR S, gF S)
def sR (S : GS) (k j : Nat) (v : Option Nat) : GS := (gN S, gK S, gL S, gX S, gZ S, up2 (gR S) k j v, gF S)
def sF (S : GS) (k j : Nat) (v : UInt64) : GS := (gN S, gK S, gL S, gX S, gZ S, gR S, up2 (gF S) k j v)
def clean (n : Nat) (o : Option Nat) : Option Nat := match o with
  | none => none
  | some q => if q < n then some q else none
/-- a new cell of kind c (of length L) at the next place -/
def newS (S : GS) (c L : Nat) : GS := (gN S + 1, va_up (gK S) (gN S) c, va_up (gL S) (gN S) L, va_up (gX S) (gN S) (fun _ => 0), va_up (gZ S) (gN S) (fun _ => 0), fun k j => if k = gN S then none else clean (gN S) (gR S k j), va_up (gF S) (gN S) (fun _ => 0))
def rv (ad : Nat → Nat) (o : Option Nat) : Value := match o with
  | none => .null
  | some q => .ref (ad q)
def cR0 (ad : Nat → Nat) (x : Nat → Int32) (z : Nat → Int64) (r : Nat → Option Nat) : List Value := [rv ad (r 0), rv ad (r 1), rv ad (r 2), .int (x 3), .int (x 4)]
abbrev cF0 (ad : Nat → Nat) (S : GS) (k : Nat) : List Value := cR0 ad (gX S k) (gZ S k) (gR S k)
def cR1 (ad : Nat → Nat) (x : Nat → Int32) (z : Nat → Int64) (r : Nat → Option Nat) : List Value := [.int (x 0), .int (x 1), .int (x 2), .int (x 3), .int (x 4), .int (x 5), .int (x 6), .int (x 7), .int (x 8)]
abbrev cF1 (ad : Nat → Nat) (S : GS) (k : Nat) : List Value := cR1 ad (gX S k) (gZ S k) (gR S k)
def cR2 (ad : Nat → Nat) (x : Nat → Int32) (z : Nat → Int64) (r : Nat → Option Nat) : List Value := [.int (x 0), .int (x 1), .int (x 2), .int (x 3), .int (x 4), .int (x 5), .int (x 6), .int (x 7), .int (x 8), .int (x 9), .int (x 10), .int (x 11), .int (x 12), .int (x 13), .int (x 14)]
abbrev cF2 (ad : Nat → Nat) (S : GS) (k : Nat) : List Value := cR2 ad (gX S k) (gZ S k) (gR S k)
def cR3 (ad : Nat → Nat) (x : Nat → Int32) (z : Nat → Int64) (r : Nat → Option Nat) : List Value := [rv ad (r 0), .int (x 1)]
abbrev cF3 (ad : Nat → Nat) (S : GS) (k : Nat) : List Value := cR3 ad (gX S k) (gZ S k) (gR S k)
def cR4 (ad : Nat → Nat) (x : Nat → Int32) (z : Nat → Int64) (r : Nat → Option Nat) : List Value := [rv ad (r 0), .int (x 1), .int (x 2)]
abbrev cF4 (ad : Nat → Nat) (S : GS) (k : Nat) : List Value := cR4 ad (gX S k) (gZ S k) (gR S k)
def cR5 (ad : Nat → Nat) (x : Nat → Int32) (z : Nat → Int64) (r : Nat → Option Nat) : List Value := [rv ad (r 0), .int (x 1), .long (z 2), .long (z 3), .long (z 4), .long (z 5)]
abbrev cF5 (ad : Nat → Nat) (S : GS) (k : Nat) : List Value := cR5 ad (gX S k) (gZ S k) (gR S k)
def cR6 (ad : Nat → Nat) (x : Nat → Int32) (z : Nat → Int64) (r : Nat → Option Nat) : List Value := [rv ad (r 0), .int (x 1)]
abbrev cF6 (ad : Nat → Nat) (S : GS) (k : Nat) : List Value := cR6 ad (gX S k) (gZ S k) (gR S k)
def cR7 (ad : Nat → Nat) (x : Nat → Int32) (z : Nat → Int64) (r : Nat → Option Nat) : List Value := [.long (z 0), .int (x 1), .int (x 2)]
abbrev cF7 (ad : Nat → Nat) (S : GS) (k : Nat) : List Value := cR7 ad (gX S k) (gZ S k) (gR S k)
def cR8 (ad : Nat → Nat) (x : Nat → Int32) (z : Nat → Int64) (r : Nat → Option Nat) : List Value := [rv ad (r 0), rv ad (r 1), rv ad (r 2), rv ad (r 3), rv ad (r 4), rv ad (r 5), rv ad (r 6), rv ad (r 7), rv ad (r 8), .int (x 9), .int (x 10), .int (x 11)]
abbrev cF8 (ad : Nat → Nat) (S : GS) (k : Nat) : List Value := cR8 ad (gX S k) (gZ S k) (gR S k)
def cR9 (ad : Nat → Nat) (x : Nat → Int32) (z : Nat → Int64) (r : Nat → Option Nat) : List Value := [rv ad (r 0), .int (x 1), rv ad (r 2), .int (x 3), rv ad (r 4), .int (x 5), rv ad (r 6), .int (x 7), rv ad (r 8), rv ad (r 9), rv ad (r 10), rv ad (r 11), rv ad (r 12), rv ad (r 13), rv ad (r 14), rv ad (r 15), rv ad (r 16), rv ad (r 17), rv ad (r 18), .int (x 19), .int (x 20), rv ad (r 21), rv ad (r 22), rv ad (r 23), rv ad (r 24), .int (x 25), rv ad (r 26), rv ad (r 27), rv ad (r 28), .int (x 29), .int (x 30), .int (x 31), .int (x 32), .long (z 33), .long (z 34), .int (x 35)]
abbrev cF9 (ad : Nat → Nat) (S : GS) (k : Nat) : List Value := cR9 ad (gX S k) (gZ S k) (gR S k)
def gC (Y : Nat → ClassId) (ad : Nat → Nat) (K L : Nat) (x : Nat → Int32) (z : Nat → Int64) (r : Nat → Option Nat) (f : Nat → UInt64) : va_E := if K = 0 then .inr (0, cR0 ad x z r) else if K = 1 then .inr (1, cR1 ad x z r) else if K = 2 then .inr (2, cR2 ad x z r) else if K = 3 then .inr (3, cR3 ad x z r) else if K = 4 then .inr (4, cR4 ad x z r) else if K = 5 then .inr (5, cR5 ad x z r) else if K = 6 then .inr (6, cR6 ad x z r) else if K = 7 then .inr (7, cR7 ad x z r) else if K = 8 then .inr (8, cR8 ad x z r) else if K = 9 then .inr (9, cR9 ad x z r) else if K = 10 then .inl (Y 0, L, .inl x) else if K = 11 then .inl (Y 1, L, .inl x) else if K = 12 then .inl (Y 2, L, .inl x) else if K = 13 then .inl (Y 3, L, .inr (.inr (.inr (.inr (fun j => (r j).map ad))))) else if K = 14 then .inl (Y 4, L, .inr (.inl z)) else .inl (Y 5, L, .inr (.inr (.inr (.inl f))))
def gCell (Y : Nat → ClassId) (ad : Nat → Nat) (S : GS) (k : Nat) : va_E := gC Y ad (gK S k) (gL S k) (gX S k) (gZ S k) (gR S k) (gF S k)
theorem cell_0 {Y : Nat → ClassId} {ad : Nat → Nat} {S : GS} {k : Nat} (h : gK S k = 0) : gCell Y ad S k = .inr (0, cF0 ad S k) := by unfold gCell; rw [h]; rfl
theorem cell_1 {Y : Nat → ClassId} {ad : Nat → Nat} {S : GS} {k : Nat} (h : gK S k = 1) : gCell Y ad S k = .inr (1, cF1 ad S k) := by unfold gCell; rw [h]; rfl
theorem cell_2 {Y : Nat → ClassId} {ad : Nat → Nat} {S : GS} {k : Nat} (h : gK S k = 2) : gCell Y ad S k = .inr (2, cF2 ad S k) := by unfold gCell; rw [h]; rfl
theorem cell_3 {Y : Nat → ClassId} {ad : Nat → Nat} {S : GS} {k : Nat} (h : gK S k = 3) : gCell Y ad S k = .inr (3, cF3 ad S k) := by unfold gCell; rw [h]; rfl
theorem cell_4 {Y : Nat → ClassId} {ad : Nat → Nat} {S : GS} {k : Nat} (h : gK S k = 4) : gCell Y ad S k = .inr (4, cF4 ad S k) := by unfold gCell; rw [h]; rfl
theorem cell_5 {Y : Nat → ClassId} {ad : Nat → Nat} {S : GS} {k : Nat} (h : gK S k = 5) : gCell Y ad S k = .inr (5, cF5 ad S k) := by unfold gCell; rw [h]; rfl
theorem cell_6 {Y : Nat → ClassId} {ad : Nat → Nat} {S : GS} {k : Nat} (h : gK S k = 6) : gCell Y ad S k = .inr (6, cF6 ad S k) := by unfold gCell; rw [h]; rfl
theorem cell_7 {Y : Nat → ClassId} {ad : Nat → Nat} {S : GS} {k : Nat} (h : gK S k = 7) : gCell Y ad S k = .inr (7, cF7 ad S k) := by unfold gCell; rw [h]; rfl
theorem cell_8 {Y : Nat → ClassId} {ad : Nat → Nat} {S : GS} {k : Nat} (h : gK S k = 8) : gCell Y ad S k = .inr (8, cF8 ad S k) := by unfold gCell; rw [h]; rfl
theorem cell_9 {Y : Nat → ClassId} {ad : Nat → Nat} {S : GS} {k : Nat} (h : gK S k = 9) : gCell Y ad S k = .inr (9, cF9 ad S k) := by unfold gCell; rw [h]; rfl
theorem cell_10 {Y : Nat → ClassId} {ad : Nat → Nat} {S : GS} {k : Nat} (h : gK S k = 10) : gCell Y ad S k = .inl (Y 0, gL S k, .inl (gX S k)) := by unfold gCell; rw [h]; rfl
theorem cell_11 {Y : Nat → ClassId} {ad : Nat → Nat} {S : GS} {k : Nat} (h : gK S k = 11) : gCell Y ad S k = .inl (Y 1, gL S k, .inl (gX S k)) := by unfold gCell; rw [h]; rfl
theorem cell_12 {Y : Nat → ClassId} {ad : Nat → Nat} {S : GS} {k : Nat} (h : gK S k = 12) : gCell Y ad S k = .inl (Y 2, gL S k, .inl (gX S k)) := by unfold gCell; rw [h]; rfl
theorem cell_13 {Y : Nat → ClassId} {ad : Nat → Nat} {S : GS} {k : Nat} (h : gK S k = 13) : gCell Y ad S k = .inl (Y 3, gL S k, .inr (.inr (.inr (.inr (fun j => (gR S k j).map ad))))) := by unfold gCell; rw [h]; rfl
theorem cell_14 {Y : Nat → ClassId} {ad : Nat → Nat} {S : GS} {k : Nat} (h : gK S k = 14) : gCell Y ad S k = .inl (Y 4, gL S k, .inr (.inl (gZ S k))) := by unfold gCell; rw [h]; rfl
theorem cell_15 {Y : Nat → ClassId} {ad : Nat → Nat} {S : GS} {k : Nat} (h : gK S k = 15) : gCell Y ad S k = .inl (Y 5, gL S k, .inr (.inr (.inr (.inl (gF S k))))) := by unfold gCell; rw [h]; rfl
theorem up2_row {α : Type} (f : Nat → Nat → α) (k j : Nat) (v : α) {a : Nat} (h : a ≠ k) : up2 f k j v a = f a := by
  funext i
  simp [up2, h]
theorem up2_at {α : Type} (f : Nat → Nat → α) (k j : Nat) (v : α) {i : Nat} (h : i ≠ j) : up2 f k j v k i = f k i := by simp [up2, h]
theorem up2_self {α : Type} (f : Nat → Nat → α) (k j : Nat) (v : α) : up2 f k j v k j = v := by simp [up2]
theorem up2_upd (f : Nat → Nat → Int32) (k j : Nat) (v : Int32) : up2 f k j v k = upd (f k) j v := by
  funext i
  by_cases h : i = j
  · subst h; rw [up2_self, pk_us]
  · rw [up2_at _ _ _ _ h, pk_un h]
theorem up2_updL (f : Nat → Nat → Int64) (k j : Nat) (v : Int64) : up2 f k j v k = vp_updL (f k) j v := by
  funext i
  by_cases h : i = j
  · subst h; rw [up2_self, pk_uLs]
  · rw [up2_at _ _ _ _ h, pk_uLn h]
theorem sX_ne {Y : Nat → ClassId} {ad : Nat → Nat} {S : GS} {k j : Nat} {v : Int32} {a : Nat} (h : a ≠ k) : gCell Y ad (sX S k j v) a = gCell Y ad S a := by
  show gC Y ad (gK S a) (gL S a) (up2 (gX S) k j v a) (gZ S a) (gR S a) (gF S a) = _
  rw [up2_row _ k j v h]
  rfl
theorem sZ_ne {Y : Nat → ClassId} {ad : Nat → Nat} {S : GS} {k j : Nat} {v : Int64} {a : Nat} (h : a ≠ k) : gCell Y ad (sZ S k j v) a = gCell Y ad S a := by
  show gC Y ad (gK S a) (gL S a) (gX S a) (up2 (gZ S) k j v a) (gR S a) (gF S a) = _
  rw [up2_row _ k j v h]
  rfl
theorem sR_ne {Y : Nat → ClassId} {ad : Nat → Nat} {S : GS} {k j : Nat} {v : Option Nat} {a : Nat} (h : a ≠ k) : gCell Y ad (sR S k j v) a = gCell Y ad S a := by
  show gC Y ad (gK S a) (gL S a) (gX S a) (gZ S a) (up2 (gR S) k j v a) (gF S a) = _
  rw [up2_row _ k j v h]
  rfl
theorem sF_ne {Y : Nat → ClassId} {ad : Nat → Nat} {S : GS} {k j : Nat} {v : UInt64} {a : Nat} (h : a ≠ k) : gCell Y ad (sF S k j v) a = gCell Y ad S a := by
  show gC Y ad (gK S a) (gL S a) (gX S a) (gZ S a) (gR S a) (up2 (gF S) k j v a) = _
  rw [up2_row _ k j v h]
  rfl
theorem gPut {Y : Nat → ClassId} {ad : Nat → Nat} {S' S : GS} {k : Nat} {c : Nat} {fs fs' : List Value} (hne : ∀ a, a ≠ k → gCell Y ad S' a = gCell Y ad S a) (hk : gCell Y ad S' k = .inr (c, fs)) (he : fs = fs') : gCell Y ad S' = va_up (gCell Y ad S) k (.inr (c, fs')) := by
  funext a
  by_cases h : a = k
  · subst h; rw [va_up_self, hk, he]
  · rw [va_up_ne _ _ h, hne a h]
theorem pu_0_0 {Y : Nat → ClassId} {ad : Nat → Nat} {S : GS} {k : Nat} (h : gK S k = 0) (v : Option Nat) : gCell Y ad (sR S k 0 v) = va_up (gCell Y ad S) k (.inr (0, (cF0 ad S k).set 0 (rv ad v))) := gPut (fun a h => sR_ne h) (cell_0 h) (by simp [cR0, sR, gX, gZ, gR, up2])
theorem pu_0_1 {Y : Nat → ClassId} {ad : Nat → Nat} {S : GS} {k : Nat} (h : gK S k = 0) (v : Option Nat) : gCell Y ad (sR S k 1 v) = va_up (gCell Y ad S) k (.inr (0, (cF0 ad S k).set 1 (rv ad v))) := gPut (fun a h => sR_ne h) (cell_0 h) (by simp [cR0, sR, gX, gZ, gR, up2])
theorem pu_0_2 {Y : Nat → ClassId} {ad : Nat → Nat} {S : GS} {k : Nat} (h : gK S k = 0) (v : Option Nat) : gCell Y ad (sR S k 2 v) = va_up (gCell Y ad S) k (.inr (0, (cF0 ad S k).set 2 (rv ad v))) := gPut (fun a h => sR_ne h) (cell_0 h) (by simp [cR0, sR, gX, gZ, gR, up2])
theorem pu_0_3 {Y : Nat → ClassId} {ad : Nat → Nat} {S : GS} {k : Nat} (h : gK S k = 0) (v : Int32) : gCell Y ad (sX S k 3 v) = va_up (gCell Y ad S) k (.inr (0, (cF0 ad S k).set 3 (.int v))) := gPut (fun a h => sX_ne h) (cell_0 h) (by simp [cR0, sX, gX, gZ, gR, up2])
theorem pu_0_4 {Y : Nat → ClassId} {ad : Nat → Nat} {S : GS} {k : Nat} (h : gK S k = 0) (v : Int32) : gCell Y ad (sX S k 4 v) = va_up (gCell Y ad S) k (.inr (0, (cF0 ad S k).set 4 (.int v))) := gPut (fun a h => sX_ne h) (cell_0 h) (by simp [cR0, sX, gX, gZ, gR, up2])
theorem pu_1_0 {Y : Nat → ClassId} {ad : Nat → Nat} {S : GS} {k : Nat} (h : gK S k = 1) (v : Int32) : gCell Y ad (sX S k 0 v) = va_up (gCell Y ad S) k (.inr (1, (cF1 ad S k).set 0 (.int v))) := gPut (fun a h => sX_ne h) (cell_1 h) (by simp [cR1, sX, gX, gZ, gR, up2])
theorem pu_1_1 {Y : Nat → ClassId} {ad : Nat → Nat} {S : GS} {k : Nat} (h : gK S k = 1) (v : Int32) : gCell Y ad (sX S k 1 v) = va_up (gCell Y ad S) k (.inr (1, (cF1 ad S k).set 1 (.int v))) := gPut (fun a h => sX_ne h) (cell_1 h) (by simp [cR1, sX, gX, gZ, gR, up2])
theorem pu_1_2 {Y : Nat → ClassId} {ad : Nat → Nat} {S : GS} {k : Nat} (h : gK S k = 1) (v : Int32) : gCell Y ad (sX S k 2 v) = va_up (gCell Y ad S) k (.inr (1, (cF1 ad S k).set 2 (.int v))) := gPut (fun a h => sX_ne h) (cell_1 h) (by simp [cR1, sX, gX, gZ, gR, up2])
theorem pu_1_3 {Y : Nat → ClassId} {ad : Nat → Nat} {S : GS} {k : Nat} (h : gK S k = 1) (v : Int32) : gCell Y ad (sX S k 3 v) = va_up (gCell Y ad S) k (.inr (1, (cF1 ad S k).set 3 (.int v))) := gPut (fun a h => sX_ne h) (cell_1 h) (by simp [cR1, sX, gX, gZ, gR, up2])
theorem pu_1_4 {Y : Nat → ClassId} {ad : Nat → Nat} {S : GS} {k : Nat} (h : gK S k = 1) (v : Int32) : gCell Y ad (sX S k 4 v) = va_up (gCell Y ad S) k (.inr (1, (cF1 ad S k).set 4 (.int v))) := gPut (fun a h => sX_ne h) (cell_1 h) (by simp [cR1, sX, gX, gZ, gR, up2])
theorem pu_1_5 {Y : Nat → ClassId} {ad : Nat → Nat} {S : GS} {k : Nat} (h : gK S k = 1) (v : Int32) : gCell Y ad (sX S k 5 v) = va_up (gCell Y ad S) k (.inr (1, (cF1 ad S k).set 5 (.int v))) := gPut (fun a h => sX_ne h) (cell_1 h) (by simp [cR1, sX, gX, gZ, gR, up2])
theorem pu_1_6 {Y : Nat → ClassId} {ad : Nat → Nat} {S : GS} {k : Nat} (h : gK S k = 1) (v : Int32) : gCell Y ad (sX S k 6 v) = va_up (gCell Y ad S) k (.inr (1, (cF1 ad S k).set 6 (.int v))) := gPut (fun a h => sX_ne h) (cell_1 h) (by simp [cR1, sX, gX, gZ, gR, up2])
theorem pu_1_7 {Y : Nat → ClassId} {ad : Nat → Nat} {S : GS} {k : Nat} (h : gK S k = 1) (v : Int32) : gCell Y ad (sX S k 7 v) = va_up (gCell Y ad S) k (.inr (1, (cF1 ad S k).set 7 (.int v))) := gPut (fun a h => sX_ne h) (cell_1 h) (by simp [cR1, sX, gX, gZ, gR, up2])
theorem pu_1_8 {Y : Nat → ClassId} {ad : Nat → Nat} {S : GS} {k : Nat} (h : gK S k = 1) (v : Int32) : gCell Y ad (sX S k 8 v) = va_up (gCell Y ad S) k (.inr (1, (cF1 ad S k).set 8 (.int v))) := gPut (fun a h => sX_ne h) (cell_1 h) (by simp [cR1, sX, gX, gZ, gR, up2])
theorem pu_2_0 {Y : Nat → ClassId} {ad : Nat → Nat} {S : GS} {k : Nat} (h : gK S k = 2) (v : Int32) : gCell Y ad (sX S k 0 v) = va_up (gCell Y ad S) k (.inr (2, (cF2 ad S k).set 0 (.int v))) := gPut (fun a h => sX_ne h) (cell_2 h) (by simp [cR2, sX, gX, gZ, gR, up2])
theorem pu_2_1 {Y : Nat → ClassId} {ad : Nat → Nat} {S : GS} {k : Nat} (h : gK S k = 2) (v : Int32) : gCell Y ad (sX S k 1 v) = va_up (gCell Y ad S) k (.inr (2, (cF2 ad S k).set 1 (.int v))) := gPut (fun a h => sX_ne h) (cell_2 h) (by simp [cR2, sX, gX, gZ, gR, up2])
theorem pu_2_2 {Y : Nat → ClassId} {ad : Nat → Nat} {S : GS} {k : Nat} (h : gK S k = 2) (v : Int32) : gCell Y ad (sX S k 2 v) = va_up (gCell Y ad S) k (.inr (2, (cF2 ad S k).set 2 (.int v))) := gPut (fun a h => sX_ne h) (cell_2 h) (by simp [cR2, sX, gX, gZ, gR, up2])
theorem pu_2_3 {Y : Nat → ClassId} {ad : Nat → Nat} {S : GS} {k : Nat} (h : gK S k = 2) (v : Int32) : gCell Y ad (sX S k 3 v) = va_up (gCell Y ad S) k (.inr (2, (cF2 ad S k).set 3 (.int v))) := gPut (fun a h => sX_ne h) (cell_2 h) (by simp [cR2, sX, gX, gZ, gR, up2])
theorem pu_2_4 {Y : Nat → ClassId} {ad : Nat → Nat} {S : GS} {k : Nat} (h : gK S k = 2) (v : Int32) : gCell Y ad (sX S k 4 v) = va_up (gCell Y ad S) k (.inr (2, (cF2 ad S k).set 4 (.int v))) := gPut (fun a h => sX_ne h) (cell_2 h) (by simp [cR2, sX, gX, gZ, gR, up2])
theorem pu_2_5 {Y : Nat → ClassId} {ad : Nat → Nat} {S : GS} {k : Nat} (h : gK S k = 2) (v : Int32) : gCell Y ad (sX S k 5 v) = va_up (gCell Y ad S) k (.inr (2, (cF2 ad S k).set 5 (.int v))) := gPut (fun a h => sX_ne h) (cell_2 h) (by simp [cR2, sX, gX, gZ, gR, up2])
theorem pu_2_6 {Y : Nat → ClassId} {ad : Nat → Nat} {S : GS} {k : Nat} (h : gK S k = 2) (v : Int32) : gCell Y ad (sX S k 6 v) = va_up (gCell Y ad S) k (.inr (2, (cF2 ad S k).set 6 (.int v))) := gPut (fun a h => sX_ne h) (cell_2 h) (by simp [cR2, sX, gX, gZ, gR, up2])
theorem pu_2_7 {Y : Nat → ClassId} {ad : Nat → Nat} {S : GS} {k : Nat} (h : gK S k = 2) (v : Int32) : gCell Y ad (sX S k 7 v) = va_up (gCell Y ad S) k (.inr (2, (cF2 ad S k).set 7 (.int v))) := gPut (fun a h => sX_ne h) (cell_2 h) (by simp [cR2, sX, gX, gZ, gR, up2])
theorem pu_2_8 {Y : Nat → ClassId} {ad : Nat → Nat} {S : GS} {k : Nat} (h : gK S k = 2) (v : Int32) : gCell Y ad (sX S k 8 v) = va_up (gCell Y ad S) k (.inr (2, (cF2 ad S k).set 8 (.int v))) := gPut (fun a h => sX_ne h) (cell_2 h) (by simp [cR2, sX, gX, gZ, gR, up2])
theorem pu_2_9 {Y : Nat → ClassId} {ad : Nat → Nat} {S : GS} {k : Nat} (h : gK S k = 2) (v : Int32) : gCell Y ad (sX S k 9 v) = va_up (gCell Y ad S) k (.inr (2, (cF2 ad S k).set 9 (.int v))) := gPut (fun a h => sX_ne h) (cell_2 h) (by simp [cR2, sX, gX, gZ, gR, up2])
theorem pu_2_10 {Y : Nat → ClassId} {ad : Nat → Nat} {S : GS} {k : Nat} (h : gK S k = 2) (v : Int32) : gCell Y ad (sX S k 10 v) = va_up (gCell Y ad S) k (.inr (2, (cF2 ad S k).set 10 (.int v))) := gPut (fun a h => sX_ne h) (cell_2 h) (by simp [cR2, sX, gX, gZ, gR, up2])
theorem pu_2_11 {Y : Nat → ClassId} {ad : Nat → Nat} {S : GS} {k : Nat} (h : gK S k = 2) (v : Int32) : gCell Y ad (sX S k 11 v) = va_up (gCell Y ad S) k (.inr (2, (cF2 ad S k).set 11 (.int v))) := gPut (fun a h => sX_ne h) (cell_2 h) (by simp [cR2, sX, gX, gZ, gR, up2])
theorem pu_2_12 {Y : Nat → ClassId} {ad : Nat → Nat} {S : GS} {k : Nat} (h : gK S k = 2) (v : Int32) : gCell Y ad (sX S k 12 v) = va_up (gCell Y ad S) k (.inr (2, (cF2 ad S k).set 12 (.int v))) := gPut (fun a h => sX_ne h) (cell_2 h) (by simp [cR2, sX, gX, gZ, gR, up2])
theorem pu_2_13 {Y : Nat → ClassId} {ad : Nat → Nat} {S : GS} {k : Nat} (h : gK S k = 2) (v : Int32) : gCell Y ad (sX S k 13 v) = va_up (gCell Y ad S) k (.inr (2, (cF2 ad S k).set 13 (.int v))) := gPut (fun a h => sX_ne h) (cell_2 h) (by simp [cR2, sX, gX, gZ, gR, up2])
theorem pu_2_14 {Y : Nat → ClassId} {ad : Nat → Nat} {S : GS} {k : Nat} (h : gK S k = 2) (v : Int32) : gCell Y ad (sX S k 14 v) = va_up (gCell Y ad S) k (.inr (2, (cF2 ad S k).set 14 (.int v))) := gPut (fun a h => sX_ne h) (cell_2 h) (by simp [cR2, sX, gX, gZ, gR, up2])
theorem pu_3_0 {Y : Nat → ClassId} {ad : Nat → Nat} {S : GS} {k : Nat} (h : gK S k = 3) (v : Option Nat) : gCell Y ad (sR S k 0 v) = va_up (gCell Y ad S) k (.inr (3, (cF3 ad S k).set 0 (rv ad v))) := gPut (fun a h => sR_ne h) (cell_3 h) (by simp [cR3, sR, gX, gZ, gR, up2])
theorem pu_3_1 {Y : Nat → ClassId} {ad : Nat → Nat} {S : GS} {k : Nat} (h : gK S k = 3) (v : Int32) : gCell Y ad (sX S k 1 v) = va_up (gCell Y ad S) k (.inr (3, (cF3 ad S k).set 1 (.int v))) := gPut (fun a h => sX_ne h) (cell_3 h) (by simp [cR3, sX, gX, gZ, gR, up2])
theorem pu_4_0 {Y : Nat → ClassId} {ad : Nat → Nat} {S : GS} {k : Nat} (h : gK S k = 4) (v : Option Nat) : gCell Y ad (sR S k 0 v) = va_up (gCell Y ad S) k (.inr (4, (cF4 ad S k).set 0 (rv ad v))) := gPut (fun a h => sR_ne h) (cell_4 h) (by simp [cR4, sR, gX, gZ, gR, up2])
theorem pu_4_1 {Y : Nat → ClassId} {ad : Nat → Nat} {S : GS} {k : Nat} (h : gK S k = 4) (v : Int32) : gCell Y ad (sX S k 1 v) = va_up (gCell Y ad S) k (.inr (4, (cF4 ad S k).set 1 (.int v))) := gPut (fun a h => sX_ne h) (cell_4 h) (by simp [cR4, sX, gX, gZ, gR, up2])
theorem pu_4_2 {Y : Nat → ClassId} {ad : Nat → Nat} {S : GS} {k : Nat} (h : gK S k = 4) (v : Int32) : gCell Y ad (sX S k 2 v) = va_up (gCell Y ad S) k (.inr (4, (cF4 ad S k).set 2 (.int v))) := gPut (fun a h => sX_ne h) (cell_4 h) (by simp [cR4, sX, gX, gZ, gR, up2])
theorem pu_5_0 {Y : Nat → ClassId} {ad : Nat → Nat} {S : GS} {k : Nat} (h : gK S k = 5) (v : Option Nat) : gCell Y ad (sR S k 0 v) = va_up (gCell Y ad S) k (.inr (5, (cF5 ad S k).set 0 (rv ad v))) := gPut (fun a h => sR_ne h) (cell_5 h) (by simp [cR5, sR, gX, gZ, gR, up2])
theorem pu_5_1 {Y : Nat → ClassId} {ad : Nat → Nat} {S : GS} {k : Nat} (h : gK S k = 5) (v : Int32) : gCell Y ad (sX S k 1 v) = va_up (gCell Y ad S) k (.inr (5, (cF5 ad S k).set 1 (.int v))) := gPut (fun a h => sX_ne h) (cell_5 h) (by simp [cR5, sX, gX, gZ, gR, up2])
theorem pu_5_2 {Y : Nat → ClassId} {ad : Nat → Nat} {S : GS} {k : Nat} (h : gK S k = 5) (v : Int64) : gCell Y ad (sZ S k 2 v) = va_up (gCell Y ad S) k (.inr (5, (cF5 ad S k).set 2 (.long v))) := gPut (fun a h => sZ_ne h) (cell_5 h) (by simp [cR5, sZ, gX, gZ, gR, up2])
theorem pu_5_3 {Y : Nat → ClassId} {ad : Nat → Nat} {S : GS} {k : Nat} (h : gK S k = 5) (v : Int64) : gCell Y ad (sZ S k 3 v) = va_up (gCell Y ad S) k (.inr (5, (cF5 ad S k).set 3 (.long v))) := gPut (fun a h => sZ_ne h) (cell_5 h) (by simp [cR5, sZ, gX, gZ, gR, up2])
theorem pu_5_4 {Y : Nat → ClassId} {ad : Nat → Nat} {S : GS} {k : Nat} (h : gK S k = 5) (v : Int64) : gCell Y ad (sZ S k 4 v) = va_up (gCell Y ad S) k (.inr (5, (cF5 ad S k).set 4 (.long v))) := gPut (fun a h => sZ_ne h) (cell_5 h) (by simp [cR5, sZ, gX, gZ, gR, up2])
theorem pu_5_5 {Y : Nat → ClassId} {ad : Nat → Nat} {S : GS} {k : Nat} (h : gK S k = 5) (v : Int64) : gCell Y ad (sZ S k 5 v) = va_up (gCell Y ad S) k (.inr (5, (cF5 ad S k).set 5 (.long v))) := gPut (fun a h => sZ_ne h) (cell_5 h) (by simp [cR5, sZ, gX, gZ, gR, up2])
theorem pu_6_0 {Y : Nat → ClassId} {ad : Nat → Nat} {S : GS} {k : Nat} (h : gK S k = 6) (v : Option Nat) : gCell Y ad (sR S k 0 v) = va_up (gCell Y ad S) k (.inr (6, (cF6 ad S k).set 0 (rv ad v))) := gPut (fun a h => sR_ne h) (cell_6 h) (by simp [cR6, sR, gX, gZ, gR, up2])
theorem pu_6_1 {Y : Nat → ClassId} {ad : Nat → Nat} {S : GS} {k : Nat} (h : gK S k = 6) (v : Int32) : gCell Y ad (sX S k 1 v) = va_up (gCell Y ad S) k (.inr (6, (cF6 ad S k).set 1 (.int v))) := gPut (fun a h => sX_ne h) (cell_6 h) (by simp [cR6, sX, gX, gZ, gR, up2])
theorem pu_7_0 {Y : Nat → ClassId} {ad : Nat → Nat} {S : GS} {k : Nat} (h : gK S k = 7) (v : Int64) : gCell Y ad (sZ S k 0 v) = va_up (gCell Y ad S) k (.inr (7, (cF7 ad S k).set 0 (.long v))) := gPut (fun a h => sZ_ne h) (cell_7 h) (by simp [cR7, sZ, gX, gZ, gR, up2])
theorem pu_7_1 {Y : Nat → ClassId} {ad : Nat → Nat} {S : GS} {k : Nat} (h : gK S k = 7) (v : Int32) : gCell Y ad (sX S k 1 v) = va_up (gCell Y ad S) k (.inr (7, (cF7 ad S k).set 1 (.int v))) := gPut (fun a h => sX_ne h) (cell_7 h) (by simp [cR7, sX, gX, gZ, gR, up2])
theorem pu_7_2 {Y : Nat → ClassId} {ad : Nat → Nat} {S : GS} {k : Nat} (h : gK S k = 7) (v : Int32) : gCell Y ad (sX S k 2 v) = va_up (gCell Y ad S) k (.inr (7, (cF7 ad S k).set 2 (.int v))) := gPut (fun a h => sX_ne h) (cell_7 h) (by simp [cR7, sX, gX, gZ, gR, up2])
theorem pu_8_0 {Y : Nat → ClassId} {ad : Nat → Nat} {S : GS} {k : Nat} (h : gK S k = 8) (v : Option Nat) : gCell Y ad (sR S k 0 v) = va_up (gCell Y ad S) k (.inr (8, (cF8 ad S k).set 0 (rv ad v))) := gPut (fun a h => sR_ne h) (cell_8 h) (by simp [cR8, sR, gX, gZ, gR, up2])
theorem pu_8_1 {Y : Nat → ClassId} {ad : Nat → Nat} {S : GS} {k : Nat} (h : gK S k = 8) (v : Option Nat) : gCell Y ad (sR S k 1 v) = va_up (gCell Y ad S) k (.inr (8, (cF8 ad S k).set 1 (rv ad v))) := gPut (fun a h => sR_ne h) (cell_8 h) (by simp [cR8, sR, gX, gZ, gR, up2])
theorem pu_8_2 {Y : Nat → ClassId} {ad : Nat → Nat} {S : GS} {k : Nat} (h : gK S k = 8) (v : Option Nat) : gCell Y ad (sR S k 2 v) = va_up (gCell Y ad S) k (.inr (8, (cF8 ad S k).set 2 (rv ad v))) := gPut (fun a h => sR_ne h) (cell_8 h) (by simp [cR8, sR, gX, gZ, gR, up2])
theorem pu_8_3 {Y : Nat → ClassId} {ad : Nat → Nat} {S : GS} {k : Nat} (h : gK S k = 8) (v : Option Nat) : gCell Y ad (sR S k 3 v) = va_up (gCell Y ad S) k (.inr (8, (cF8 ad S k).set 3 (rv ad v))) := gPut (fun a h => sR_ne h) (cell_8 h) (by simp [cR8, sR, gX, gZ, gR, up2])
theorem pu_8_4 {Y : Nat → ClassId} {ad : Nat → Nat} {S : GS} {k : Nat} (h : gK S k = 8) (v : Option Nat) : gCell Y ad (sR S k 4 v) = va_up (gCell Y ad S) k (.inr (8, (cF8 ad S k).set 4 (rv ad v))) := gPut (fun a h => sR_ne h) (cell_8 h) (by simp [cR8, sR, gX, gZ, gR, up2])
theorem pu_8_5 {Y : Nat → ClassId} {ad : Nat → Nat} {S : GS} {k : Nat} (h : gK S k = 8) (v : Option Nat) : gCell Y ad (sR S k 5 v) = va_up (gCell Y ad S) k (.inr (8, (cF8 ad S k).set 5 (rv ad v))) := gPut (fun a h => sR_ne h) (cell_8 h) (by simp [cR8, sR, gX, gZ, gR, up2])
theorem pu_8_6 {Y : Nat → ClassId} {ad : Nat → Nat} {S : GS} {k : Nat} (h : gK S k = 8) (v : Option Nat) : gCell Y ad (sR S k 6 v) = va_up (gCell Y ad S) k (.inr (8, (cF8 ad S k).set 6 (rv ad v))) := gPut (fun a h => sR_ne h) (cell_8 h) (by simp [cR8, sR, gX, gZ, gR, up2])
theorem pu_8_7 {Y : Nat → ClassId} {ad : Nat → Nat} {S : GS} {k : Nat} (h : gK S k = 8) (v : Option Nat) : gCell Y ad (sR S k 7 v) = va_up (gCell Y ad S) k (.inr (8, (cF8 ad S k).set 7 (rv ad v))) := gPut (fun a h => sR_ne h) (cell_8 h) (by simp [cR8, sR, gX, gZ, gR, up2])
theorem pu_8_8 {Y : Nat → ClassId} {ad : Nat → Nat} {S : GS} {k : Nat} (h : gK S k = 8) (v : Option Nat) : gCell Y ad (sR S k 8 v) = va_up (gCell Y ad S) k (.inr (8, (cF8 ad S k).set 8 (rv ad v))) := gPut (fun a h => sR_ne h) (cell_8 h) (by simp [cR8, sR, gX, gZ, gR, up2])
theorem pu_8_9 {Y : Nat → ClassId} {ad : Nat → Nat} {S : GS} {k : Nat} (h : gK S k = 8) (v : Int32) : gCell Y ad (sX S k 9 v) = va_up (gCell Y ad S) k (.inr (8, (cF8 ad S k).set 9 (.int v))) := gPut (fun a h => sX_ne h) (cell_8 h) (by simp [cR8, sX, gX, gZ, gR, up2])
theorem pu_8_10 {Y : Nat → ClassId} {ad : Nat → Nat} {S : GS} {k : Nat} (h : gK S k = 8) (v : Int32) : gCell Y ad (sX S k 10 v) = va_up (gCell Y ad S) k (.inr (8, (cF8 ad S k).set 10 (.int v))) := gPut (fun a h => sX_ne h) (cell_8 h) (by simp [cR8, sX, gX, gZ, gR, up2])
theorem pu_8_11 {Y : Nat → ClassId} {ad : Nat → Nat} {S : GS} {k : Nat} (h : gK S k = 8) (v : Int32) : gCell Y ad (sX S k 11 v) = va_up (gCell Y ad S) k (.inr (8, (cF8 ad S k).set 11 (.int v))) := gPut (fun a h => sX_ne h) (cell_8 h) (by simp [cR8, sX, gX, gZ, gR, up2])
theorem pu_9_0 {Y : Nat → ClassId} {ad : Nat → Nat} {S : GS} {k : Nat} (h : gK S k = 9) (v : Option Nat) : gCell Y ad (sR S k 0 v) = va_up (gCell Y ad S) k (.inr (9, (cF9 ad S k).set 0 (rv ad v))) := gPut (fun a h => sR_ne h) (cell_9 h) (by simp [cR9, sR, gX, gZ, gR, up2])
theorem pu_9_1 {Y : Nat → ClassId} {ad : Nat → Nat} {S : GS} {k : Nat} (h : gK S k = 9) (v : Int32) : gCell Y ad (sX S k 1 v) = va_up (gCell Y ad S) k (.inr (9, (cF9 ad S k).set 1 (.int v))) := gPut (fun a h => sX_ne h) (cell_9 h) (by simp [cR9, sX, gX, gZ, gR, up2])
theorem pu_9_2 {Y : Nat → ClassId} {ad : Nat → Nat} {S : GS} {k : Nat} (h : gK S k = 9) (v : Option Nat) : gCell Y ad (sR S k 2 v) = va_up (gCell Y ad S) k (.inr (9, (cF9 ad S k).set 2 (rv ad v))) := gPut (fun a h => sR_ne h) (cell_9 h) (by simp [cR9, sR, gX, gZ, gR, up2])
theorem pu_9_3 {Y : Nat → ClassId} {ad : Nat → Nat} {S : GS} {k : Nat} (h : gK S k = 9) (v : Int32) : gCell Y ad (sX S k 3 v) = va_up (gCell Y ad S) k (.inr (9, (cF9 ad S k).set 3 (.int v))) := gPut (fun a h => sX_ne h) (cell_9 h) (by simp [cR9, sX, gX, gZ, gR, up2])
theorem pu_9_4 {Y : Nat → ClassId} {ad : Nat → Nat} {S : GS} {k : Nat} (h : gK S k = 9) (v : Option Nat) : gCell Y ad (sR S k 4 v) = va_up (gCell Y ad S) k (.inr (9, (cF9 ad S k).set 4 (rv ad v))) := gPut (fun a h => sR_ne h) (cell_9 h) (by simp [cR9, sR, gX, gZ, gR, up2])
theorem pu_9_5 {Y : Nat → ClassId} {ad : Nat → Nat} {S : GS} {k : Nat} (h : gK S k = 9) (v : Int32) : gCell Y ad (sX S k 5 v) = va_up (gCell Y ad S) k (.inr (9, (cF9 ad S k).set 5 (.int v))) := gPut (fun a h => sX_ne h) (cell_9 h) (by simp [cR9, sX, gX, gZ, gR, up2])
theorem pu_9_6 {Y : Nat → ClassId} {ad : Nat → Nat} {S : GS} {k : Nat} (h : gK S k = 9) (v : Option Nat) : gCell Y ad (sR S k 6 v) = va_up (gCell Y ad S) k (.inr (9, (cF9 ad S k).set 6 (rv ad v))) := gPut (fun a h => sR_ne h) (cell_9 h) (by simp [cR9, sR, gX, gZ, gR, up2])
theorem pu_9_7 {Y : Nat → ClassId} {ad : Nat → Nat} {S : GS} {k : Nat} (h : gK S k = 9) (v : Int32) : gCell Y ad (sX S k 7 v) = va_up (gCell Y ad S) k (.inr (9, (cF9 ad S k).set 7 (.int v))) := gPut (fun a h => sX_ne h) (cell_9 h) (by simp [cR9, sX, gX, gZ, gR, up2])
theorem pu_9_8 {Y : Nat → ClassId} {ad : Nat → Nat} {S : GS} {k : Nat} (h : gK S k = 9) (v : Option Nat) : gCell Y ad (sR S k 8 v) = va_up (gCell Y ad S) k (.inr (9, (cF9 ad S k).set 8 (rv ad v))) := gPut (fun a h => sR_ne h) (cell_9 h) (by simp [cR9, sR, gX, gZ, gR, up2])
theorem pu_9_9 {Y : Nat → ClassId} {ad : Nat → Nat} {S : GS} {k : Nat} (h : gK S k = 9) (v : Option Nat) : gCell Y ad (sR S k 9 v) = va_up (gCell Y ad S) k (.inr (9, (cF9 ad S k).set 9 (rv ad v))) := gPut (fun a h => sR_ne h) (cell_9 h) (by simp [cR9, sR, gX, gZ, gR, up2])
theorem pu_9_10 {Y : Nat → ClassId} {ad : Nat → Nat} {S : GS} {k : Nat} (h : gK S k = 9) (v : Option Nat) : gCell Y ad (sR S k 10 v) = va_up (gCell Y ad S) k (.inr (9, (cF9 ad S k).set 10 (rv ad v))) := gPut (fun a h => sR_ne h) (cell_9 h) (by simp [cR9, sR, gX, gZ, gR, up2])
theorem pu_9_11 {Y : Nat → ClassId} {ad : Nat → Nat} {S : GS} {k : Nat} (h : gK S k = 9) (v : Option Nat) : gCell Y ad (sR S k 11 v) = va_up (gCell Y ad S) k (.inr (9, (cF9 ad S k).set 11 (rv ad v))) := gPut (fun a h => sR_ne h) (cell_9 h) (by simp [cR9, sR, gX, gZ, gR, up2])
theorem pu_9_12 {Y : Nat → ClassId} {ad : Nat → Nat} {S : GS} {k : Nat} (h : gK S k = 9) (v : Option Nat) : gCell Y ad (sR S k 12 v) = va_up (gCell Y ad S) k (.inr (9, (cF9 ad S k).set 12 (rv ad v))) := gPut (fun a h => sR_ne h) (cell_9 h) (by simp [cR9, sR, gX, gZ, gR, up2])
theorem pu_9_13 {Y : Nat → ClassId} {ad : Nat → Nat} {S : GS} {k : Nat} (h : gK S k = 9) (v : Option Nat) : gCell Y ad (sR S k 13 v) = va_up (gCell Y ad S) k (.inr (9, (cF9 ad S k).set 13 (rv ad v))) := gPut (fun a h => sR_ne h) (cell_9 h) (by simp [cR9, sR, gX, gZ, gR, up2])
theorem pu_9_14 {Y : Nat → ClassId} {ad : Nat → Nat} {S : GS} {k : Nat} (h : gK S k = 9) (v : Option Nat) : gCell Y ad (sR S k 14 v) = va_up (gCell Y ad S) k (.inr (9, (cF9 ad S k).set 14 (rv ad v))) := gPut (fun a h => sR_ne h) (cell_9 h) (by simp [cR9, sR, gX, gZ, gR, up2])
theorem pu_9_15 {Y : Nat → ClassId} {ad : Nat → Nat} {S : GS} {k : Nat} (h : gK S k = 9) (v : Option Nat) : gCell Y ad (sR S k 15 v) = va_up (gCell Y ad S) k (.inr (9, (cF9 ad S k).set 15 (rv ad v))) := gPut (fun a h => sR_ne h) (cell_9 h) (by simp [cR9, sR, gX, gZ, gR, up2])
theorem pu_9_16 {Y : Nat → ClassId} {ad : Nat → Nat} {S : GS} {k : Nat} (h : gK S k = 9) (v : Option Nat) : gCell Y ad (sR S k 16 v) = va_up (gCell Y ad S) k (.inr (9, (cF9 ad S k).set 16 (rv ad v))) := gPut (fun a h => sR_ne h) (cell_9 h) (by simp [cR9, sR, gX, gZ, gR, up2])
theorem pu_9_17 {Y : Nat → ClassId} {ad : Nat → Nat} {S : GS} {k : Nat} (h : gK S k = 9) (v : Option Nat) : gCell Y ad (sR S k 17 v) = va_up (gCell Y ad S) k (.inr (9, (cF9 ad S k).set 17 (rv ad v))) := gPut (fun a h => sR_ne h) (cell_9 h) (by simp [cR9, sR, gX, gZ, gR, up2])
theorem pu_9_18 {Y : Nat → ClassId} {ad : Nat → Nat} {S : GS} {k : Nat} (h : gK S k = 9) (v : Option Nat) : gCell Y ad (sR S k 18 v) = va_up (gCell Y ad S) k (.inr (9, (cF9 ad S k).set 18 (rv ad v))) := gPut (fun a h => sR_ne h) (cell_9 h) (by simp [cR9, sR, gX, gZ, gR, up2])
theorem pu_9_19 {Y : Nat → ClassId} {ad : Nat → Nat} {S : GS} {k : Nat} (h : gK S k = 9) (v : Int32) : gCell Y ad (sX S k 19 v) = va_up (gCell Y ad S) k (.inr (9, (cF9 ad S k).set 19 (.int v))) := gPut (fun a h => sX_ne h) (cell_9 h) (by simp [cR9, sX, gX, gZ, gR, up2])
theorem pu_9_20 {Y : Nat → ClassId} {ad : Nat → Nat} {S : GS} {k : Nat} (h : gK S k = 9) (v : Int32) : gCell Y ad (sX S k 20 v) = va_up (gCell Y ad S) k (.inr (9, (cF9 ad S k).set 20 (.int v))) := gPut (fun a h => sX_ne h) (cell_9 h) (by simp [cR9, sX, gX, gZ, gR, up2])
theorem pu_9_21 {Y : Nat → ClassId} {ad : Nat → Nat} {S : GS} {k : Nat} (h : gK S k = 9) (v : Option Nat) : gCell Y ad (sR S k 21 v) = va_up (gCell Y ad S) k (.inr (9, (cF9 ad S k).set 21 (rv ad v))) := gPut (fun a h => sR_ne h) (cell_9 h) (by simp [cR9, sR, gX, gZ, gR, up2])
theorem pu_9_22 {Y : Nat → ClassId} {ad : Nat → Nat} {S : GS} {k : Nat} (h : gK S k = 9) (v : Option Nat) : gCell Y ad (sR S k 22 v) = va_up (gCell Y ad S) k (.inr (9, (cF9 ad S k).set 22 (rv ad v))) := gPut (fun a h => sR_ne h) (cell_9 h) (by simp [cR9, sR, gX, gZ, gR, up2])
theorem pu_9_23 {Y : Nat → ClassId} {ad : Nat → Nat} {S : GS} {k : Nat} (h : gK S k = 9) (v : Option Nat) : gCell Y ad (sR S k 23 v) = va_up (gCell Y ad S) k (.inr (9, (cF9 ad S k).set 23 (rv ad v))) := gPut (fun a h => sR_ne h) (cell_9 h) (by simp [cR9, sR, gX, gZ, gR, up2])
theorem pu_9_24 {Y : Nat → ClassId} {ad : Nat → Nat} {S : GS} {k : Nat} (h : gK S k = 9) (v : Option Nat) : gCell Y ad (sR S k 24 v) = va_up (gCell Y ad S) k (.inr (9, (cF9 ad S k).set 24 (rv ad v))) := gPut (fun a h => sR_ne h) (cell_9 h) (by simp [cR9, sR, gX, gZ, gR, up2])
theorem pu_9_25 {Y : Nat → ClassId} {ad : Nat → Nat} {S : GS} {k : Nat} (h : gK S k = 9) (v : Int32) : gCell Y ad (sX S k 25 v) = va_up (gCell Y ad S) k (.inr (9, (cF9 ad S k).set 25 (.int v))) := gPut (fun a h => sX_ne h) (cell_9 h) (by simp [cR9, sX, gX, gZ, gR, up2])
theorem pu_9_26 {Y : Nat → ClassId} {ad : Nat → Nat} {S : GS} {k : Nat} (h : gK S k = 9) (v : Option Nat) : gCell Y ad (sR S k 26 v) = va_up (gCell Y ad S) k (.inr (9, (cF9 ad S k).set 26 (rv ad v))) := gPut (fun a h => sR_ne h) (cell_9 h) (by simp [cR9, sR, gX, gZ, gR, up2])
theorem pu_9_27 {Y : Nat → ClassId} {ad : Nat → Nat} {S : GS} {k : Nat} (h : gK S k = 9) (v : Option Nat) : gCell Y ad (sR S k 27 v) = va_up (gCell Y ad S) k (.inr (9, (cF9 ad S k).set 27 (rv ad v))) := gPut (fun a h => sR_ne h) (cell_9 h) (by simp [cR9, sR, gX, gZ, gR, up2])
theorem pu_9_28 {Y : Nat → ClassId} {ad : Nat → Nat} {S : GS} {k : Nat} (h : gK S k = 9) (v : Option Nat) : gCell Y ad (sR S k 28 v) = va_up (gCell Y ad S) k (.inr (9, (cF9 ad S k).set 28 (rv ad v))) := gPut (fun a h => sR_ne h) (cell_9 h) (by simp [cR9, sR, gX, gZ, gR, up2])
theorem pu_9_29 {Y : Nat → ClassId} {ad : Nat → Nat} {S : GS} {k : Nat} (h : gK S k = 9) (v : Int32) : gCell Y ad (sX S k 29 v) = va_up (gCell Y ad S) k (.inr (9, (cF9 ad S k).set 29 (.int v))) := gPut (fun a h => sX_ne h) (cell_9 h) (by simp [cR9, sX, gX, gZ, gR, up2])
theorem pu_9_30 {Y : Nat → ClassId} {ad : Nat → Nat} {S : GS} {k : Nat} (h : gK S k = 9) (v : Int32) : gCell Y ad (sX S k 30 v) = va_up (gCell Y ad S) k (.inr (9, (cF9 ad S k).set 30 (.int v))) := gPut (fun a h => sX_ne h) (cell_9 h) (by simp [cR9, sX, gX, gZ, gR, up2])
theorem pu_9_31 {Y : Nat → ClassId} {ad : Nat → Nat} {S : GS} {k : Nat} (h : gK S k = 9) (v : Int32) : gCell Y ad (sX S k 31 v) = va_up (gCell Y ad S) k (.inr (9, (cF9 ad S k).set 31 (.int v))) := gPut (fun a h => sX_ne h) (cell_9 h) (by simp [cR9, sX, gX, gZ, gR, up2])
theorem pu_9_32 {Y : Nat → ClassId} {ad : Nat → Nat} {S : GS} {k : Nat} (h : gK S k = 9) (v : Int32) : gCell Y ad (sX S k 32 v) = va_up (gCell Y ad S) k (.inr (9, (cF9 ad S k).set 32 (.int v))) := gPut (fun a h => sX_ne h) (cell_9 h) (by simp [cR9, sX, gX, gZ, gR, up2])
theorem pu_9_33 {Y : Nat → ClassId} {ad : Nat → Nat} {S : GS} {k : Nat} (h : gK S k = 9) (v : Int64) : gCell Y ad (sZ S k 33 v) = va_up (gCell Y ad S) k (.inr (9, (cF9 ad S k).set 33 (.long v))) := gPut (fun a h => sZ_ne h) (cell_9 h) (by simp [cR9, sZ, gX, gZ, gR, up2])
theorem pu_9_34 {Y : Nat → ClassId} {ad : Nat → Nat} {S : GS} {k : Nat} (h : gK S k = 9) (v : Int64) : gCell Y ad (sZ S k 34 v) = va_up (gCell Y ad S) k (.inr (9, (cF9 ad S k).set 34 (.long v))) := gPut (fun a h => sZ_ne h) (cell_9 h) (by simp [cR9, sZ, gX, gZ, gR, up2])
theorem pu_9_35 {Y : Nat → ClassId} {ad : Nat → Nat} {S : GS} {k : Nat} (h : gK S k = 9) (v : Int32) : gCell Y ad (sX S k 35 v) = va_up (gCell Y ad S) k (.inr (9, (cF9 ad S k).set 35 (.int v))) := gPut (fun a h => sX_ne h) (cell_9 h) (by simp [cR9, sX, gX, gZ, gR, up2])
theorem pa_i {Y : Nat → ClassId} {ad : Nat → Nat} {S : GS} {k c y : Nat} (hc : ∀ S : GS, gK S k = c → gCell Y ad S k = .inl (Y y, gL S k, .inl (gX S k))) (h : gK S k = c) (j : Nat) (v : Int32) : gCell Y ad (sX S k j v) = va_up (gCell Y ad S) k (.inl (Y y, gL S k, .inl (upd (gX S k) j v))) := by
  funext a
  by_cases q : a = k
  · subst q
    rw [va_up_self, hc (sX S a j v) h, ← up2_upd]
    rfl
  · rw [va_up_ne _ _ q, sX_ne q]
theorem pa_l {Y : Nat → ClassId} {ad : Nat → Nat} {S : GS} {k : Nat} (h : gK S k = 14) (j : Nat) (v : Int64) : gCell Y ad (sZ S k j v) = va_up (gCell Y ad S) k (.inl (Y 4, gL S k, .inr (.inl (vp_updL (gZ S k) j v)))) := by
  funext a
  by_cases q : a = k
  · subst q
    rw [va_up_self, cell_14 (S := sZ S a j v) h, ← up2_updL]
    rfl
  · rw [va_up_ne _ _ q, sZ_ne q]
theorem pa_r {Y : Nat → ClassId} {ad : Nat → Nat} {S : GS} {k : Nat} (h : gK S k = 13) (j : Nat) (v : Option Nat) : gCell Y ad (sR S k j v) = va_up (gCell Y ad S) k (.inl (Y 3, gL S k, .inr (.inr (.inr (.inr (va_up (fun j => (gR S k j).map ad) j (v.map ad))))))) := by
  funext a
  by_cases q : a = k
  · subst q
    rw [va_up_self, cell_13 (S := sR S a j v) h]
    have e : (fun i => (gR (sR S a j v) a i).map ad) = va_up (fun j => (gR S a j).map ad) j (v.map ad) := by
      funext i
      by_cases q : i = j
      · subst q; rw [va_up_self]; show (up2 (gR S) a i v a i).map ad = _; rw [up2_self]
      · rw [va_up_ne _ _ q]; show (up2 (gR S) a j v a i).map ad = _; rw [up2_at _ _ _ _ q]
    rw [e]
    rfl
  · rw [va_up_ne _ _ q, sR_ne q]
