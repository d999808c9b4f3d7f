/-! THE INVARIANT between the class (places 0..13, its events behind 39) and the reference (14..36). Rows of the reference: 19 log, 20 inTime, 21 taken, 22 owner, 23 shape, 24 kind, 25 cause, 26 time, 27 id, 28 sizes, 29 took, 30 beginLine, 31 endLine, 32 edenLine, 33 oldLine, 34 problem, 35 problemLine, 36 problemFault. -/
/-- the size j of the line x, or NONE -/
def szo (sz : Nat → Int32) (x : Int32) (j : Nat) : Int32 := if x = -1 then -1 else sz (3 * x.toNatClampNeg + j)
def one (x : Int32) : Nat := if x = -1 then 0 else 1
/-- no line, or one before n -/
def lno (n : Nat) (x : Int32) : Prop := x = -1 ∨ ∃ j, j < n ∧ x = nI j
/-- line j was read, and its numbers have a text -/
def Rng (S : GS) (j : Nat) : Prop := (∃ s k c, s ≤ 6 ∧ k ≤ 2 ∧ c ≤ 2 ∧ gX S 23 j = nI s ∧ gX S 24 j = nI k ∧ gX S 25 j = nI c ∧ okT s (gX S 27 j) (gX S 26 j) (gX S 28 (3 * j)) (gX S 28 (3 * j + 1)) (gX S 28 (3 * j + 2)) (gX S 29 j))
/-- a line of an event or of an open one: taken, of shape s, with the id of line b -/
def Ln (S : GS) (n : Nat) (b : Nat) (s : Int32) (x : Int32) : Prop := x = -1 ∨ ∃ j, j < n ∧ x = nI j ∧ gX S 21 j = 1 ∧ gX S 23 j = s ∧ gX S 27 j = gX S 27 b
def tkO (S : GS) (b e : Nat) : Int32 := if gX S 23 e = 6 then Int64.toInt32 (if 2147483647 < 1000 * (Int32.toInt64 (gX S 26 e - gX S 26 b)) then 2147483647 else 1000 * (Int32.toInt64 (gX S 26 e - gX S 26 b))) else gX S 29 e
/-- the event i of the reference is the object at place q -/
def EvI (S : GS) (n i q : Nat) : Prop := ∃ b e : Nat, b < n ∧ e < n ∧ b < e ∧ gX S 30 i = nI b ∧ gX S 31 i = nI e ∧ gX S 21 b = 1 ∧ gX S 21 e = 1 ∧ gX S 27 e = gX S 27 b
  ∧ ((gX S 23 e = 1 ∧ gX S 23 b = 0 ∧ gX S 24 e = gX S 24 b ∧ gX S 25 e = gX S 25 b ∧ gX S q 4 = gX S 24 b ∧ gX S q 2 = gX S 25 b ∧ gX S q 6 = gX S 28 (3 * e) ∧ gX S q 7 = gX S 28 (3 * e + 1) ∧ gX S q 8 = gX S 28 (3 * e + 2))
    ∨ ((gX S 23 e = 5 ∨ gX S 23 e = 6) ∧ gX S 23 b = 4 ∧ gX S q 4 = (if gX S 23 e = 5 then 3 else 4) ∧ gX S q 2 = -1 ∧ gX S q 6 = -1 ∧ gX S q 7 = -1 ∧ gX S q 8 = -1 ∧ gX S 32 i = -1 ∧ gX S 33 i = -1))
  ∧ gX S q 1 = gX S 27 b ∧ gX S q 3 = gX S 26 b ∧ gX S q 5 = gX S 26 e ∧ gX S q 9 = tkO S b e
  ∧ gX S q 10 = szo (gX S 28) (gX S 32 i) 0 ∧ gX S q 11 = szo (gX S 28) (gX S 32 i) 1 ∧ gX S q 12 = szo (gX S 28) (gX S 33 i) 0 ∧ gX S q 13 = szo (gX S 28) (gX S 33 i) 1
  ∧ gX S q 14 = nI (2 + one (gX S 32 i) + one (gX S 33 i))
  ∧ Ln S n b 2 (gX S 32 i) ∧ Ln S n b 3 (gX S 33 i)
/-- a place of an event -/
def evP (S : GS) (q : Nat) : Prop := 39 ≤ q ∧ q < gN S ∧ gK S q = 2
/-- the open pause is at place q, begun on line b; d, o: its lines of eden and old -/
def OpP (S : GS) (n q b : Nat) (d o : Int32) : Prop := evP S q ∧ b < n ∧ gX S 14 30 = nI b ∧ gX S 21 b = 1 ∧ gX S 23 b = 0 ∧ gX S 22 b = 0
  ∧ gX S q 0 = nI (b + 1) ∧ gX S q 1 = gX S 27 b ∧ gX S q 2 = gX S 25 b ∧ gX S q 3 = gX S 26 b ∧ gX S q 4 = gX S 24 b ∧ gX S q 6 = -1 ∧ gX S q 7 = -1 ∧ gX S q 8 = -1
  ∧ gX S q 10 = szo (gX S 28) d 0 ∧ gX S q 11 = szo (gX S 28) d 1 ∧ gX S q 12 = szo (gX S 28) o 0 ∧ gX S q 13 = szo (gX S 28) o 1
  ∧ gX S q 14 = nI (1 + one d + one o)
  ∧ Ln S n b 2 d ∧ Ln S n b 3 o
  ∧ (d = -1 ∨ gX S 22 d.toNatClampNeg = 0 ∧ b < d.toNatClampNeg) ∧ (o = -1 ∨ gX S 22 o.toNatClampNeg = 0 ∧ b < o.toNatClampNeg)
  ∧ (∀ j, b < j → j < n → gX S 21 j = 1 → gX S 23 j = 2 → d = nI j) ∧ (∀ j, b < j → j < n → gX S 21 j = 1 → gX S 23 j = 3 → o = nI j)
def OpM (S : GS) (n q b : Nat) : Prop := evP S q ∧ b < n ∧ gX S 14 31 = nI b ∧ gX S 21 b = 1 ∧ gX S 23 b = 4 ∧ gX S 22 b = 0
  ∧ gX S q 0 = nI (b + 1) ∧ gX S q 1 = gX S 27 b ∧ gX S q 2 = -1 ∧ gX S q 3 = gX S 26 b ∧ gX S q 4 = 3 ∧ gX S q 6 = -1 ∧ gX S q 7 = -1 ∧ gX S q 8 = -1
  ∧ gX S q 10 = -1 ∧ gX S q 11 = -1 ∧ gX S q 12 = -1 ∧ gX S q 13 = -1 ∧ gX S q 14 = 1
/-- is event i a pause -/
def isP (sh eL : Nat → Int32) (i : Nat) : Bool := decide (sh (eL i).toNatClampNeg = 1)
def cntP (sh eL : Nat → Int32) : Nat → Nat
  | 0 => 0
  | i + 1 => cntP sh eL i + if isP sh eL i then 1 else 0
def tkE (S : GS) (i : Nat) : Int32 := tkO S (gX S 30 i).toNatClampNeg (gX S 31 i).toNatClampNeg
def sumT (S : GS) : Nat → Int64
  | 0 => 0
  | i + 1 => if isP (gX S 23) (gX S 31) i then sumT S i + (tkE S i).toInt64 else sumT S i
def sumO (S : GS) : Nat → Int64
  | 0 => 0
  | i + 1 => if gX S 33 i = -1 then sumO S i else sumO S i + (szo (gX S 28) (gX S 33 i) 1 - szo (gX S 28) (gX S 33 i) 0).toInt64
/-- the last pause of the first i events, if it is of log x -/
def ahd (S : GS) (x : Int32) : Nat → Option Nat
  | 0 => none
  | i + 1 => if isP (gX S 23) (gX S 31) i then (if gX S 19 (gX S 31 i).toNatClampNeg = x then some i else none) else ahd S x i
def aI (S : GS) (i : Nat) : Option Nat := if isP (gX S 23) (gX S 31) i then ahd S (gX S 19 (gX S 31 i).toNatClampNeg) i else none
def sumA (S : GS) : Nat → Int64
  | 0 => 0
  | i + 1 => match aI S i with
    | none => sumA S i
    | some j => sumA S i + (gX S 28 (3 * (gX S 31 i).toNatClampNeg) - gX S 28 (3 * (gX S 31 j).toNatClampNeg + 1)).toInt64
def sumB (S : GS) : Nat → Int64
  | 0 => 0
  | i + 1 => match aI S i with
    | none => sumB S i
    | some j => sumB S i + (gX S 26 (gX S 30 i).toNatClampNeg - gX S 26 (gX S 31 j).toNatClampNeg).toInt64
/-- the span over the first n lines, and the last line in time -/
def spn (S : GS) : Nat → Int64 × Option Nat
  | 0 => (0, none)
  | n + 1 => if gX S 20 n = 0 then spn S n else match (spn S n).2 with
    | none => ((spn S n).1, some n)
    | some b => (if gX S 19 b = gX S 19 n then (spn S n).1 + (gX S 26 n - gX S 26 b).toInt64 else (spn S n).1, some n)
def bit (x : Int32) : Prop := x = 0 ∨ x = 1
/-- the lines -/
def I4 (S : GS) (n lg : Nat) : Prop := ∀ j, j < n → (∃ m, m ≤ lg ∧ gX S 19 j = nI m) ∧ bit (gX S 20 j) ∧ bit (gX S 21 j) ∧ (gX S 21 j = 1 → gX S 20 j = 1) ∧ (gX S 20 j = 1 → Rng S j) ∧ (gX S 22 j = 0 ∨ gX S 22 j = 1 ∨ gX S 22 j = 2)
def I5 (S : GS) (P : Nat) : Prop := gX S 14 29 = nI P ∧ gX S 8 3 = nI P ∧ ∀ k, k < 12 → k < P → gX S 9 k = gX S 34 (P - 1 - k) ∧ gX S 10 k = gX S 35 (P - 1 - k) + 1 ∧ gX S 11 k = gX S 36 (P - 1 - k)
def I6 (S : GS) (n E : Nat) : Prop := gX S 6 1 = nI E ∧ gX S 14 25 = nI E ∧ ∀ i, i < E → ∃ q, gR S 7 i = some q ∧ evP S q ∧ EvI S n i q
def I7 (S : GS) (n E : Nat) (oP : Option Nat) (dP : Int32 × Int32) : Prop := match oP with
  | none => gR S 0 7 = none ∧ gX S 14 30 = -1
  | some q => gR S 0 7 = some q ∧ (∃ b, OpP S n q b dP.1 dP.2) ∧ ∀ i, i < E → gR S 7 i ≠ some q
def I8 (S : GS) (n E : Nat) (oP oM : Option Nat) : Prop := match oM with
  | none => gR S 0 8 = none ∧ gX S 14 31 = -1
  | some q => gR S 0 8 = some q ∧ (∃ b, OpM S n q b) ∧ (∀ i, i < E → gR S 7 i ≠ some q) ∧ oP ≠ some q
def I9 (S : GS) (E lg : Nat) : Prop := gX S 13 1 = nI (cntP (gX S 23) (gX S 31) E) ∧ gZ S 13 2 = sumT S E ∧ gZ S 13 5 = sumO S E ∧ gZ S 13 3 = sumA S E ∧ gZ S 13 4 = sumB S E ∧ gR S 13 0 = (ahd S (nI lg) E).bind (gR S 7)
def I10 (S : GS) (n lg : Nat) : Prop := gZ S 12 0 + (gX S 12 2 - gX S 12 1).toInt64 = (spn S n).1 ∧ ((gX S 12 1 = -1 ∧ gX S 12 2 = -1 ∧ ∀ b, (spn S n).2 = some b → gX S 19 b ≠ nI lg) ∨ (0 ≤ (gX S 12 1).toInt ∧ (gX S 12 1).toInt ≤ (gX S 12 2).toInt ∧ (gX S 12 2).toInt ≤ 99999999 ∧ ∃ b, (spn S n).2 = some b ∧ gX S 19 b = nI lg ∧ gX S 26 b = gX S 12 2))
def I11 (S : GS) (n lg : Nat) : Prop := (∀ j, j < n → gX S 19 j = nI lg → gX S 20 j = 1 → (gX S 26 j).toInt ≤ (gX S 12 2).toInt) ∧ (gX S 12 2 = -1 ∨ ∃ j, j < n ∧ gX S 19 j = nI lg ∧ gX S 20 j = 1 ∧ gX S 26 j = gX S 12 2)
  ∧ (∀ j, j < n → gX S 19 j = nI lg → gX S 21 j = 1 → (gX S 23 j = 0 ∨ gX S 23 j = 4) → (gX S 27 j).toInt ≤ (gX S 0 9).toInt) ∧ (gX S 0 9 = -1 ∨ ∃ j, j < n ∧ gX S 19 j = nI lg ∧ gX S 21 j = 1 ∧ (gX S 23 j = 0 ∨ gX S 23 j = 4) ∧ gX S 27 j = gX S 0 9)
def lnP (oP : Option Nat) (dP : Int32 × Int32) : Nat := match oP with
  | none => 0
  | some _ => 1 + one dP.1 + one dP.2
def lnM (oM : Option Nat) : Nat := match oM with
  | none => 0
  | some _ => 1
def I12 (S : GS) (n : Nat) (oP oM : Option Nat) (dP : Int32 × Int32) : Prop := cnt (gX S 22) 0 n = lnP oP dP + lnM oM ∧ gX S 0 11 = nI (cnt (gX S 22) 1 n) ∧ gX S 8 4 = nI (cnt (gX S 22) 2 n)
def oc (o : Option Nat) : Nat := match o with
  | none => 0
  | some _ => 1
def I2 (S : GS) (pl : Nat) : Prop := pl ≤ 72 ∧ gX S 1 1 = nI pl ∧ gX S 14 1 = nI pl ∧ ∀ i, gX S 2 i = gX S 15 i
def I3 (S : GS) (cap n E P lg : Nat) (oP oM : Option Nat) : Prop := cap ≤ 48 ∧ n ≤ cap ∧ P ≤ 2 * cap ∧ lg ≤ cap ∧ 2 * E + oc oP + oc oM ≤ n ∧ gX S 0 10 = nI n ∧ gX S 14 19 = nI n ∧ gX S 14 20 = nI lg
def Inw (S : GS) (cap n E P lg pl : Nat) (oP oM : Option Nat) (dP : Int32 × Int32) : Prop := (Fix S ∧ closed S) ∧ I2 S pl ∧ I3 S cap n E P lg oP oM ∧ I4 S n lg ∧ I5 S P ∧ I6 S n E ∧ I7 S n E oP dP ∧ I8 S n E oP oM ∧ I9 S E lg ∧ I10 S n lg ∧ I11 S n lg ∧ I12 S n oP oM dP
def Inv (S : GS) (cap : Nat) : Prop := ∃ n E P lg pl oP oM dP, Inw S cap n E P lg pl oP oM dP
