/-! THE PURE READING. T: the pad's row, n: how much of it stands. -/
def gt (T : Nat → Int32) (n p : Nat) : Int32 := if p < n then T p else -1
def pg (T : Nat → Int32) (n p : Nat) : Bool := decide (p < n ∧ 48 ≤ T p ∧ T p ≤ 57)
def rdg (T : Nat → Int32) (n : Nat) : Nat → Nat → Int32 → Nat × Int32
  | 0, p, v => (p, v)
  | m + 1, p, v => if pg T n p then rdg T n m (p + 1) (10 * v + T p - 48) else (p, v)
def pm (T : Nat → Int32) (n : Nat) (x : Int32) (p : Nat) : Nat := if x = 300 then 3 else if p < n ∧ T p = 48 then 1 else (x - 200).toNatClampNeg
def pe (T : Nat → Int32) (n : Nat) (x : Int32) (p : Nat) : Nat × List Int32 :=
  if x < 200 then (if p < n ∧ T p = x then p + 1 else p, [])
  else if x = 400 then (if p < n ∧ (T p = 75 ∨ T p = 77) then p + 1 else p, [if p < n ∧ T p = 77 then 1 else 0])
  else ((rdg T n (pm T n x p) p 0).1, [(rdg T n (pm T n x p) p 0).2])
def pf (T : Nat → Int32) (n : Nat) (x : Int32) (p : Nat) : Bool := decide ((pe T n x p).1 = p ∨ (x = 300 ∧ (pe T n x p).1 < p + 3))
def rch (T : Nat → Int32) (n : Nat) : List Int32 → Nat → List Int32 → Bool × Nat × List Int32
  | [], p, ns => (true, p, ns)
  | x :: L, p, ns => if pf T n x p then (false, (pe T n x p).1, ns ++ (pe T n x p).2) else rch T n L (pe T n x p).1 (ns ++ (pe T n x p).2)
theorem rch_nil (T : Nat → Int32) (n p : Nat) (ns : List Int32) : rch T n [] p ns = (true, p, ns) := rfl
theorem rch_cons (T : Nat → Int32) (n : Nat) (x : Int32) (L : List Int32) (p : Nat) (ns : List Int32) : rch T n (x :: L) p ns = if pf T n x p then (false, (pe T n x p).1, ns ++ (pe T n x p).2) else rch T n L (pe T n x p).1 (ns ++ (pe T n x p).2) := rfl
theorem rch_app (T : Nat → Int32) (n : Nat) (A B : List Int32) : ∀ (p : Nat) (ns : List Int32), rch T n (A ++ B) p ns = if (rch T n A p ns).1 then rch T n B (rch T n A p ns).2.1 (rch T n A p ns).2.2 else rch T n A p ns := by
  induction A with
  | nil => intro p ns; simp [rch_nil]
  | cons x A ih =>
    intro p ns
    rw [List.cons_append, rch_cons, rch_cons]
    cases h : pf T n x p with
    | true => simp
    | false => simp [ih]
theorem rdg_ge (T : Nat → Int32) (n : Nat) (m : Nat) : ∀ (p : Nat) (v : Int32), p ≤ (rdg T n m p v).1 := by
  induction m with
  | zero => intro p v; exact Nat.le_refl _
  | succ m ih =>
    intro p v
    unfold rdg
    split
    · exact Nat.le_trans (Nat.le_succ p) (ih _ _)
    · exact Nat.le_refl _
theorem rdg_le (T : Nat → Int32) (n : Nat) (m : Nat) : ∀ (p : Nat) (v : Int32), p ≤ n → (rdg T n m p v).1 ≤ n := by
  induction m with
  | zero => intro p v h; exact h
  | succ m ih =>
    intro p v h
    unfold rdg
    split
    · rename_i hp
      have : p < n := by simp [pg] at hp; exact hp.1
      exact ih _ _ this
    · exact h
theorem pe_ge (T : Nat → Int32) (n : Nat) (x : Int32) (p : Nat) : p ≤ (pe T n x p).1 := by
  unfold pe
  split
  · simp only; split <;> omega
  · split
    · simp only; split <;> omega
    · exact rdg_ge T n _ _ _
theorem pe_le (T : Nat → Int32) (n : Nat) (x : Int32) (p : Nat) (h : p ≤ n) : (pe T n x p).1 ≤ n := by
  unfold pe
  split
  · simp only; split <;> omega
  · split
    · simp only; split <;> omega
    · exact rdg_le T n _ _ _ h
theorem rch_ge (T : Nat → Int32) (n : Nat) (L : List Int32) : ∀ (p : Nat) (ns : List Int32), p ≤ (rch T n L p ns).2.1 := by
  induction L with
  | nil => intro p ns; exact Nat.le_refl _
  | cons x L ih =>
    intro p ns
    rw [rch_cons]
    split
    · exact pe_ge T n x p
    · exact Nat.le_trans (pe_ge T n x p) (ih _ _)
theorem rch_le (T : Nat → Int32) (n : Nat) (L : List Int32) : ∀ (p : Nat) (ns : List Int32), p ≤ n → (rch T n L p ns).2.1 ≤ n := by
  induction L with
  | nil => intro p ns h; exact h
  | cons x L ih =>
    intro p ns h
    rw [rch_cons]
    split
    · exact pe_le T n x p h
    · exact ih _ _ (pe_le T n x p h)
theorem rch_ns (T : Nat → Int32) (n : Nat) (L : List Int32) : ∀ (p : Nat) (ns : List Int32), rch T n L p ns = ((rch T n L p []).1, (rch T n L p []).2.1, ns ++ (rch T n L p []).2.2) := by
  induction L with
  | nil => intro p ns; simp [rch_nil]
  | cons x L ih =>
    intro p ns
    rw [rch_cons, rch_cons]
    split
    · simp
    · rw [ih _ (ns ++ (pe T n x p).2), ih _ ([] ++ (pe T n x p).2)]
      simp
theorem rch_miss (T : Nat → Int32) (n : Nat) (x : Int32) (L : List Int32) (p : Nat) (ns : List Int32) (hx : x < 200) (h : gt T n p ≠ x) : rch T n (x :: L) p ns = (false, p, ns) := by
  have h1 : ¬ (p < n ∧ T p = x) := by
    intro hh
    apply h
    simp [gt, hh.1, hh.2]
  have h2 : pe T n x p = (p, []) := by simp [pe, hx, h1]
  rw [rch_cons]
  simp [pf, h2]
theorem rch_hit (T : Nat → Int32) (n : Nat) (x : Int32) (L : List Int32) (p : Nat) (ns : List Int32) (hx : x < 200) (h1 : p < n) (h : T p = x) : rch T n (x :: L) p ns = rch T n L (p + 1) ns := by
  have h2 : pe T n x p = (p + 1, []) := by simp [pe, hx, h1, h]
  have h3 : x ≠ 300 := by
    intro h3
    rw [h3] at hx
    exact absurd hx (by decide)
  rw [rch_cons]
  simp [pf, h2, h3]
/-- the moulds -/
def mH : List Int32 := [91, 205, 46, 300, 115, 93, 71, 67, 40, 203, 41, 32]
def mW : List Int32 := [80, 97, 117, 115, 101, 32]
def mK : Nat → List Int32
  | 0 => [89, 111, 117, 110, 103]
  | 1 => [77, 105, 120, 101, 100]
  | _ => [70, 117, 108, 108]
def mC : Nat → List Int32
  | 0 => [65, 108, 108, 111, 99]
  | 1 => [77, 101, 116, 97]
  | _ => [85, 115, 101, 114]
def mP (k c : Nat) : List Int32 := mW ++ (mK k ++ ([32, 40] ++ (mC c ++ [41])))
def mSz : List Int32 := [204, 400]
def mAr : List Int32 := mSz ++ ([45, 62] ++ mSz)
def mTk : List Int32 := [204, 46, 300, 109, 115]
def mE : List Int32 := 32 :: (mAr ++ (40 :: (mSz ++ ([41, 32] ++ mTk))))
def mM : List Int32 := [77, 97, 114, 107]
def mA : List Int32 := [65, 98, 111, 114, 116]
def mT (s k c : Nat) : List Int32 :=
  if s = 0 then mP k c else if s = 1 then mP k c ++ mE else if s = 2 then [69, 100, 101, 110, 32] ++ mAr
  else if s = 3 then [79, 108, 100, 32] ++ mAr else if s = 4 then mM else if s = 5 then mM ++ 32 :: mTk else mM ++ 32 :: mA
def mld (s k c : Nat) : List Int32 := mH ++ mT s k c
/-- A is no match, and reaches no further than B -/
def bad (T : Nat → Int32) (n : Nat) (A B : List Int32) : Prop := ¬ ((rch T n A 0 []).1 = true ∧ (rch T n A 0 []).2.1 = n) ∧ (rch T n A 0 []).2.1 ≤ (rch T n B 0 []).2.1
theorem bad_m (T : Nat → Int32) (n : Nat) (P A B : List Int32) (h : (rch T n P 0 []).1 = true → (rch T n A (rch T n P 0 []).2.1 (rch T n P 0 []).2.2).1 = false ∧ (rch T n A (rch T n P 0 []).2.1 (rch T n P 0 []).2.2).2.1 = (rch T n P 0 []).2.1) : bad T n (P ++ A) (P ++ B) := by
  unfold bad
  rw [rch_app, rch_app]
  cases hp : (rch T n P 0 []).1 with
  | false => simp [hp]
  | true =>
    obtain ⟨h1, h2⟩ := h hp
    simp only [if_true, h1, h2]
    exact ⟨by simp, rch_ge T n _ _ _⟩
theorem bad_e (T : Nat → Int32) (n : Nat) (P B : List Int32) (h : (rch T n P 0 []).1 = true → (rch T n P 0 []).2.1 ≠ n) : bad T n P (P ++ B) := by
  unfold bad
  rw [rch_app]
  cases hp : (rch T n P 0 []).1 with
  | false => simp
  | true =>
    have h2 := h hp
    simp only [if_true]
    exact ⟨fun hh => h2 hh.2, rch_ge T n _ _ _⟩
theorem miss2 (T : Nat → Int32) (n : Nat) (x : Int32) (L : List Int32) (p : Nat) (ns : List Int32) (hx : x < 200) (h : gt T n p ≠ x) : (rch T n (x :: L) p ns).1 = false ∧ (rch T n (x :: L) p ns).2.1 = p := by
  rw [rch_miss T n x L p ns hx h]; exact ⟨rfl, rfl⟩
theorem pe_dig (T : Nat → Int32) (n : Nat) (p : Nat) (h : gt T n p = 65) (ns L) : (rch T n (204 :: L) p ns).1 = false ∧ (rch T n (204 :: L) p ns).2.1 = p := by
  have h0 : p < n ∧ T p = 65 := by
    unfold gt at h
    split at h
    · rename_i h1; exact ⟨h1, h⟩
    · exact absurd h (by decide)
  have h1 : pg T n p = false := by
    simp only [pg, h0.2, decide_eq_false_iff_not]
    intro hh
    exact absurd hh.2.2 (by decide)
  have h4 : ∀ m v, rdg T n m p v = (p, v) := by
    intro m v
    cases m with
    | zero => rfl
    | succ m => simp [rdg, h1]
  have h2 : pe T n 204 p = (p, [0]) := by
    unfold pe
    rw [if_neg (by decide), if_neg (by decide), h4]
  rw [rch_cons]
  simp [pf, h2]
