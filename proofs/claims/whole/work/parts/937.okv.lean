/-! WHAT WAS READ HAS A TEXT. -/
def rgV (x v : Int32) : Prop := 0 ≤ v.toInt ∧ v.toInt < (if x = 400 then 2 else if x = 300 then 1000 else if x = 203 then 1000 else if x = 204 then 10000 else 100000)
def okV : List Int32 → List Int32 → Prop
  | [], _ => True
  | x :: L, ns => if x < 200 then okV L ns else (rgV x (ns.getD 0 0) ∧ okV L ns.tail)
theorem rdg_rng (T : Nat → Int32) (n : Nat) : ∀ (m a p : Nat) (v : Int32), a + m ≤ 5 → 0 ≤ v.toInt → v.toInt < 10 ^ a → 0 ≤ (rdg T n m p v).2.toInt ∧ (rdg T n m p v).2.toInt < 10 ^ (a + m) := by
  intro m
  induction m with
  | zero => intro a p v _ h0 h1; exact ⟨h0, h1⟩
  | succ m ih =>
    intro a p v ha h0 h1
    unfold rdg
    split
    · rename_i hp
      have hd := (pg_iff _ _ _).mp hp
      have hk : (10 : Int) ^ a ≤ 10000 := by
        have : a = 0 ∨ a = 1 ∨ a = 2 ∨ a = 3 ∨ a = 4 := by omega
        rcases this with z | z | z | z | z <;> subst z <;> decide
      have hb := dig_bounds hd.2.1 hd.2.2 h0 h1 hk
      have := ih (a + 1) (p + 1) (10 * v + T p - 48) (by omega) (by rw [hb.1]; omega) (by rw [hb.1, Int.pow_succ]; omega)
      rw [show a + (m + 1) = a + 1 + m by omega]
      exact this
    · refine ⟨h0, Int.lt_of_lt_of_le h1 ?_⟩
      have hk : a + (m + 1) ≤ 5 := ha
      have : a ≤ a + (m + 1) := by omega
      have ha5 : a = 0 ∨ a = 1 ∨ a = 2 ∨ a = 3 ∨ a = 4 := by omega
      have hm5 : m = 0 ∨ m = 1 ∨ m = 2 ∨ m = 3 ∨ m = 4 := by omega
      rcases ha5 with z | z | z | z | z <;> rcases hm5 with y | y | y | y | y <;> subst z <;> subst y <;> first | decide | (exfalso; omega)
theorem rdg_pm {T : Nat → Int32} {n p d : Nat} (hd : d ≤ 5) (hd1 : 1 ≤ d) : 0 ≤ (rdg T n (if p < n ∧ T p = 48 then 1 else d) p 0).2.toInt ∧ (rdg T n (if p < n ∧ T p = 48 then 1 else d) p 0).2.toInt < 10 ^ d := by
  have e0 : (0 : Int32).toInt = 0 := by decide
  split
  · have := rdg_rng T n 1 0 p 0 (by omega) (by rw [e0]; omega) (by rw [e0]; decide)
    refine ⟨this.1, Int.lt_of_lt_of_le this.2 ?_⟩
    have : d = 1 ∨ d = 2 ∨ d = 3 ∨ d = 4 ∨ d = 5 := by omega
    rcases this with z | z | z | z | z <;> subst z <;> decide
  · have := rdg_rng T n d 0 p 0 (by omega) (by rw [e0]; omega) (by rw [e0]; decide)
    rw [Nat.zero_add] at this
    exact this
theorem pm300 (T : Nat → Int32) (n p : Nat) : pm T n 300 p = 3 := by unfold pm; rw [if_pos rfl]
theorem pm203 (T : Nat → Int32) (n p : Nat) : pm T n 203 p = if p < n ∧ T p = 48 then 1 else 3 := by
  have e : ((203 : Int32) - 200).toNatClampNeg = 3 := by decide
  unfold pm; rw [if_neg (by decide), e]
theorem pm204 (T : Nat → Int32) (n p : Nat) : pm T n 204 p = if p < n ∧ T p = 48 then 1 else 4 := by
  have e : ((204 : Int32) - 200).toNatClampNeg = 4 := by decide
  unfold pm; rw [if_neg (by decide), e]
theorem pm205 (T : Nat → Int32) (n p : Nat) : pm T n 205 p = if p < n ∧ T p = 48 then 1 else 5 := by
  have e : ((205 : Int32) - 200).toNatClampNeg = 5 := by decide
  unfold pm; rw [if_neg (by decide), e]
theorem rg400 {v : Int32} (h : 0 ≤ v.toInt ∧ v.toInt < 2) : rgV 400 v := by unfold rgV; rw [if_pos rfl]; exact h
theorem rg300 {v : Int32} (h : 0 ≤ v.toInt ∧ v.toInt < 1000) : rgV 300 v := by unfold rgV; rw [if_neg (by decide), if_pos rfl]; exact h
theorem rg203 {v : Int32} (h : 0 ≤ v.toInt ∧ v.toInt < 1000) : rgV 203 v := by unfold rgV; rw [if_neg (by decide), if_neg (by decide), if_pos rfl]; exact h
theorem rg204 {v : Int32} (h : 0 ≤ v.toInt ∧ v.toInt < 10000) : rgV 204 v := by unfold rgV; rw [if_neg (by decide), if_neg (by decide), if_neg (by decide), if_pos rfl]; exact h
theorem rg205 {v : Int32} (h : 0 ≤ v.toInt ∧ v.toInt < 100000) : rgV 205 v := by unfold rgV; rw [if_neg (by decide), if_neg (by decide), if_neg (by decide), if_neg (by decide)]; exact h
theorem pe_rg (T : Nat → Int32) (n : Nat) {x : Int32} (hx : okE x) (h2 : ¬ x < 200) (p : Nat) : ∃ v, (pe T n x p).2 = [v] ∧ rgV x v := by
  have e0 : (0 : Int32).toInt = 0 := by decide
  have e1 : (1 : Int32).toInt = 1 := by decide
  unfold pe
  rw [if_neg h2]
  unfold okE at hx
  rcases hx with z | z | z | z | z | z
  · exact absurd z h2
  · rw [z, if_pos rfl]
    refine ⟨_, rfl, rg400 ?_⟩
    split
    · rw [e1]; omega
    · rw [e0]; omega
  · rw [z, if_neg (by decide), pm300]
    exact ⟨_, rfl, rg300 (rdg_rng T n 3 0 p 0 (by omega) (by rw [e0]; omega) (by rw [e0]; decide))⟩
  · rw [z, if_neg (by decide), pm203]
    exact ⟨_, rfl, rg203 (rdg_pm (d := 3) (by omega) (by omega))⟩
  · rw [z, if_neg (by decide), pm204]
    exact ⟨_, rfl, rg204 (rdg_pm (d := 4) (by omega) (by omega))⟩
  · rw [z, if_neg (by decide), pm205]
    exact ⟨_, rfl, rg205 (rdg_pm (d := 5) (by omega) (by omega))⟩
theorem rch_okV (T : Nat → Int32) (n : Nat) (L : List Int32) : ∀ p, (∀ x ∈ L, okE x) → (rch T n L p []).1 = true → okV L (rch T n L p []).2.2 := by
  induction L with
  | nil => intro p _ _; trivial
  | cons x L ih =>
    intro p hx h
    rw [rch_cons] at h ⊢
    by_cases hp : pf T n x p = true
    · rw [if_pos hp] at h; simp at h
    · rw [if_neg hp] at h ⊢
      rw [List.nil_append, rch_ns] at h ⊢
      have ih := ih _ (fun y hy => hx y (List.mem_cons_of_mem _ hy)) h
      unfold okV
      by_cases h2 : x < 200
      · rw [if_pos h2]
        have : (pe T n x p).2 = [] := by
          have := pe_len T n x p
          rw [if_pos h2] at this
          exact List.length_eq_zero_iff.mp this
        rw [this, List.nil_append]
        exact ih
      · rw [if_neg h2]
        obtain ⟨v, hv, hr⟩ := pe_rg T n (hx x (by simp)) h2 p
        rw [hv]
        exact ⟨hr, ih⟩
theorem okV_word (W : List Int32) (L ns : List Int32) (h : ∀ x ∈ W, x < 200) : okV (W ++ L) ns ↔ okV L ns := by
  induction W with
  | nil => exact Iff.rfl
  | cons x W ih =>
    have hx := h x (by simp)
    rw [List.cons_append, okV, if_pos hx]
    exact ih (fun y hy => h y (List.mem_cons_of_mem _ hy))
theorem okV_num {x : Int32} (h : ¬ x < 200) (L ns : List Int32) : okV (x :: L) ns ↔ rgV x (ns.getD 0 0) ∧ okV L ns.tail := by
  rw [okV, if_neg h]
theorem okV_head (X ns : List Int32) (h : okV (mH ++ X) ns) : rgV 205 (ns.getD 0 0) ∧ rgV 300 (ns.getD 1 0) ∧ rgV 203 (ns.getD 2 0) ∧ okV X (ns.drop 3) := by
  have h : okV ([91] ++ (205 :: ([46] ++ (300 :: ([115, 93, 71, 67, 40] ++ (203 :: ([41, 32] ++ X))))))) ns := h
  rw [okV_word _ _ _ (by decide), okV_num (by decide), okV_word _ _ _ (by decide), okV_num (by decide), okV_word _ _ _ (by decide), okV_num (by decide), okV_word _ _ _ (by decide)] at h
  obtain ⟨a, b, c, d⟩ := h
  have t1 : ns.tail = ns.drop 1 := List.drop_one.symm
  rw [t1] at b c d
  rw [List.tail_drop] at c d
  rw [List.tail_drop] at d
  rw [getD_drop] at b c
  exact ⟨a, b, c, d⟩
theorem rg_dec {a b : Int32} {k : Int} (ha : 0 ≤ a.toInt ∧ a.toInt < k) (hk : k ≤ 100000) (hb : 0 ≤ b.toInt ∧ b.toInt < 1000) : (1000 * a + b).toInt = 1000 * a.toInt + b.toInt := by
  have m1 : (1000 * a).toInt = 1000 * a.toInt := by
    rw [i32_mul] <;> rw [t1000] <;> omega
  rw [i32_add] <;> rw [m1] <;> omega
theorem rg_size {a u : Int32} (ha : rgV 204 a) (hu : rgV 400 u) : okS (if u = 1 then 1024 * a else a) := by
  unfold rgV at ha hu
  rw [if_neg (by decide), if_neg (by decide), if_neg (by decide), if_pos rfl] at ha
  unfold okS
  split
  · have m1 : (1024 * a).toInt = 1024 * a.toInt := by
      rw [i32_mul] <;> rw [t1024] <;> omega
    rw [m1]; omega
  · omega
theorem okV_sz (X ns : List Int32) (i : Nat) (h : okV (204 :: 400 :: X) (ns.drop i)) : okS (if ns.getD (i + 1) 0 = 1 then 1024 * ns.getD i 0 else ns.getD i 0) ∧ okV X (ns.drop (i + 2)) := by
  rw [okV_num (by decide), okV_num (by decide), List.tail_drop, List.tail_drop, getD_drop, getD_drop] at h
  exact ⟨rg_size h.1 h.2.1, h.2.2⟩
theorem okV_tk (ns : List Int32) (i : Nat) (h : okV mTk (ns.drop i)) : 0 ≤ (1000 * ns.getD i 0 + ns.getD (i + 1) 0).toInt ∧ (1000 * ns.getD i 0 + ns.getD (i + 1) 0).toInt ≤ 9999999 := by
  have h : okV (204 :: ([46] ++ (300 :: ([109, 115] ++ [])))) (ns.drop i) := h
  rw [okV_num (by decide), okV_word _ _ _ (by decide), okV_num (by decide), List.tail_drop, getD_drop, getD_drop] at h
  obtain ⟨a, b, _⟩ := h
  unfold rgV at a b
  rw [if_neg (by decide), if_neg (by decide), if_neg (by decide), if_pos rfl] at a
  rw [if_neg (by decide), if_pos rfl] at b
  rw [Nat.add_zero] at a b
  rw [rg_dec (k := 10000) a (by omega) b]
  omega
theorem ns_okT {T : Nat → Int32} {n s k c : Nat} (hs : s ≤ 6) (hk : k ≤ 2) (hc : c ≤ 2) (h : rok T n (mld s k c) = true) : okT s (fId (rnm T n (mld s k c))) (fTm (rnm T n (mld s k c))) (fSz (rnm T n (mld s k c)) 0) (fSz (rnm T n (mld s k c)) 1) (fSz (rnm T n (mld s k c)) 2) (fTk s (rnm T n (mld s k c))) := by
  have hv := rch_okV T n (mld s k c) 0 (mld_ok s hs k hk c hc).1 h
  have e : (rch T n (mld s k c) 0 []).2.2 = rnm T n (mld s k c) := rfl
  rw [e] at hv
  generalize hns : rnm T n (mld s k c) = ns at *
  obtain ⟨a, b, d, x⟩ := okV_head (mT s k c) ns hv
  have hid : 0 ≤ (fId ns).toInt ∧ (fId ns).toInt ≤ 999 := by
    unfold rgV at d
    rw [if_neg (by decide), if_neg (by decide), if_pos rfl] at d
    unfold fId
    omega
  have htm : 0 ≤ (fTm ns).toInt ∧ (fTm ns).toInt ≤ 99999999 := by
    unfold rgV at a b
    rw [if_neg (by decide), if_neg (by decide), if_neg (by decide), if_neg (by decide)] at a
    rw [if_neg (by decide), if_pos rfl] at b
    unfold fTm
    rw [rg_dec (k := 100000) a (by omega) b]
    omega
  have : s = 0 ∨ s = 1 ∨ s = 2 ∨ s = 3 ∨ s = 4 ∨ s = 5 ∨ s = 6 := by omega
  rcases this with z | z | z | z | z | z | z <;> subst z
  · exact ⟨hid, htm, fun y => absurd y (by omega), fun y => absurd y (by omega), fun y => absurd y (by omega)⟩
  · have eT : mT 1 k c = mP k c ++ ([32] ++ (204 :: 400 :: ([45, 62] ++ (204 :: 400 :: ([40] ++ (204 :: 400 :: ([41, 32] ++ mTk))))))) := by simp [mT, mE, mAr, mSz]
    rw [eT, okV_word _ _ _ (mP_lit k c), okV_word _ _ _ (by decide)] at x
    obtain ⟨x1, x⟩ := okV_sz _ _ _ x
    rw [okV_word _ _ _ (by decide)] at x
    obtain ⟨x2, x⟩ := okV_sz _ _ _ x
    rw [okV_word _ _ _ (by decide)] at x
    obtain ⟨x3, x⟩ := okV_sz _ _ _ x
    rw [okV_word _ _ _ (by decide)] at x
    exact ⟨hid, htm, fun _ => ⟨x1, x2⟩, fun _ => x3, fun _ => okV_tk _ _ x⟩
  · have eT : mT 2 k c = [69, 100, 101, 110, 32] ++ (204 :: 400 :: ([45, 62] ++ (204 :: 400 :: []))) := by simp [mT, mAr, mSz]
    rw [eT, okV_word _ _ _ (by decide)] at x
    obtain ⟨x1, x⟩ := okV_sz _ _ _ x
    rw [okV_word _ _ _ (by decide)] at x
    obtain ⟨x2, x⟩ := okV_sz _ _ _ x
    exact ⟨hid, htm, fun _ => ⟨x1, x2⟩, fun y => absurd y (by omega), fun y => absurd y (by omega)⟩
  · have eT : mT 3 k c = [79, 108, 100, 32] ++ (204 :: 400 :: ([45, 62] ++ (204 :: 400 :: []))) := by simp [mT, mAr, mSz]
    rw [eT, okV_word _ _ _ (by decide)] at x
    obtain ⟨x1, x⟩ := okV_sz _ _ _ x
    rw [okV_word _ _ _ (by decide)] at x
    obtain ⟨x2, x⟩ := okV_sz _ _ _ x
    exact ⟨hid, htm, fun _ => ⟨x1, x2⟩, fun y => absurd y (by omega), fun y => absurd y (by omega)⟩
  · exact ⟨hid, htm, fun y => absurd y (by omega), fun y => absurd y (by omega), fun y => absurd y (by omega)⟩
  · have eT : mT 5 k c = [77, 97, 114, 107, 32] ++ mTk := by simp [mT, mM]
    rw [eT, okV_word _ _ _ (by decide)] at x
    exact ⟨hid, htm, fun y => absurd y (by omega), fun y => absurd y (by omega), fun _ => okV_tk _ _ x⟩
  · exact ⟨hid, htm, fun y => absurd y (by omega), fun y => absurd y (by omega), fun y => absurd y (by omega)⟩
