/-! WHICH MOULD THE CLASS READS ALONG, and that no other fits or reaches further. -/
def rok (T : Nat → Int32) (n : Nat) (P : List Int32) : Bool := (rch T n P 0 []).1
def rto (T : Nat → Int32) (n : Nat) (P : List Int32) : Nat := (rch T n P 0 []).2.1
def rnm (T : Nat → Int32) (n : Nat) (P : List Int32) : List Int32 := (rch T n P 0 []).2.2
/-- s, k, c: shape, kind and cause that the letters choose -/
def Sel (T : Nat → Int32) (n s k c : Nat) : Prop :=
  (rok T n mH = true → ((s = 2 ↔ gt T n (rto T n mH) = 69) ∧ (s = 3 ↔ gt T n (rto T n mH) = 79) ∧ (4 ≤ s ↔ gt T n (rto T n mH) = 77)))
  ∧ (s ≤ 1 → rok T n (mH ++ mW) = true → ((k = 1 ↔ gt T n (rto T n (mH ++ mW)) = 77) ∧ (k = 2 ↔ gt T n (rto T n (mH ++ mW)) = 70)))
  ∧ (s ≤ 1 → rok T n (mH ++ (mW ++ (mK k ++ [32, 40]))) = true → ((c = 1 ↔ gt T n (rto T n (mH ++ (mW ++ (mK k ++ [32, 40])))) = 77) ∧ (c = 2 ↔ gt T n (rto T n (mH ++ (mW ++ (mK k ++ [32, 40])))) = 85)))
  ∧ (s ≤ 1 → rok T n (mH ++ mP k c) = true → (s = 0 ↔ rto T n (mH ++ mP k c) = n))
  ∧ (4 ≤ s → rok T n (mH ++ mM) = true → (s = 4 ↔ rto T n (mH ++ mM) = n))
  ∧ (5 ≤ s → rok T n (mH ++ (mM ++ [32])) = true → (s = 6 ↔ gt T n (rto T n (mH ++ (mM ++ [32]))) = 65))
def vld (s k c : Nat) : Prop := (s ≤ 1 ∧ k ≤ 2 ∧ c ≤ 2) ∨ (2 ≤ s ∧ s ≤ 6 ∧ k = 0 ∧ c = 0)
def ltS (s : Nat) : Int32 := if s ≤ 1 then 80 else if s = 2 then 69 else if s = 3 then 79 else 77
theorem mT_ltS (s k c : Nat) (h : s ≤ 6) : ∃ A, mT s k c = ltS s :: A := by
  have : s = 0 ∨ s = 1 ∨ s = 2 ∨ s = 3 ∨ s = 4 ∨ s = 5 ∨ s = 6 := by omega
  rcases this with h | h | h | h | h | h | h <;> subst h <;> exact ⟨_, rfl⟩
theorem ltS_lit (s : Nat) : ltS s < 200 := by
  unfold ltS
  split
  · decide
  · split
    · decide
    · split <;> decide
def grp (s : Nat) : Nat := if s ≤ 1 then 0 else if s = 2 then 2 else if s = 3 then 3 else 4
theorem sel0 {T : Nat → Int32} {n s k c s' k' c' : Nat} (hs : Sel T n s k c) (h6 : s ≤ 6) (h6' : s' ≤ 6) (hg : grp s ≠ grp s') : bad T n (mld s' k' c') (mld s k c) := by
  obtain ⟨A, hA⟩ := mT_ltS s' k' c' h6'
  unfold mld
  rw [hA]
  refine bad_m T n mH _ _ (fun hok => miss2 T n _ _ _ _ (ltS_lit s') ?_)
  obtain ⟨h2, h3, h4⟩ := hs.1 hok
  unfold rto at h2 h3 h4
  intro he
  unfold grp at hg
  unfold ltS at he
  by_cases a1 : s' ≤ 1
  · rw [if_pos a1] at he
    by_cases b2 : s = 2
    · rw [h2.mp b2] at he; exact absurd he (by decide)
    · by_cases b3 : s = 3
      · rw [h3.mp b3] at he; exact absurd he (by decide)
      · by_cases b4 : 4 ≤ s
        · rw [h4.mp b4] at he; exact absurd he (by decide)
        · apply hg
          rw [if_pos a1, if_pos (by omega)]
  · rw [if_neg a1] at he
    by_cases a2 : s' = 2
    · rw [if_pos a2] at he
      have := h2.mpr he
      apply hg; subst a2; subst this; rfl
    · rw [if_neg a2] at he
      by_cases a3 : s' = 3
      · rw [if_pos a3] at he
        have := h3.mpr he
        apply hg; subst a3; subst this; rfl
      · rw [if_neg a3] at he
        have := h4.mpr he
        apply hg
        rw [if_neg a1, if_neg a2, if_neg a3, if_neg (by omega), if_neg (by omega), if_neg (by omega)]
def ltK (k : Nat) : Int32 := if k = 0 then 89 else if k = 1 then 77 else 70
def ltC (c : Nat) : Int32 := if c = 0 then 65 else if c = 1 then 77 else 85
theorem mK_lt (k : Nat) (h : k ≤ 2) : ∃ A, mK k = ltK k :: A ∧ ltK k < 200 := by
  have : k = 0 ∨ k = 1 ∨ k = 2 := by omega
  rcases this with h | h | h <;> subst h <;> exact ⟨_, rfl, by decide⟩
theorem mC_lt (k : Nat) (h : k ≤ 2) : ∃ A, mC k = ltC k :: A ∧ ltC k < 200 := by
  have : k = 0 ∨ k = 1 ∨ k = 2 := by omega
  rcases this with h | h | h <;> subst h <;> exact ⟨_, rfl, by decide⟩
theorem mT_le1 {s k c : Nat} (h : s ≤ 1) : ∃ B, mT s k c = mP k c ++ B := by
  have : s = 0 ∨ s = 1 := by omega
  rcases this with h | h <;> subst h
  · exact ⟨[], by simp [mT]⟩
  · exact ⟨mE, by simp [mT]⟩
theorem sel1 {T : Nat → Int32} {n s k c s' k' c' : Nat} (hs : Sel T n s k c) (h1 : s ≤ 1) (h1' : s' ≤ 1) (hk : k ≤ 2) (hk' : k' ≤ 2) (hne : k ≠ k') : bad T n (mld s' k' c') (mld s k c) := by
  obtain ⟨B, hB⟩ := mT_le1 (s := s) (k := k) (c := c) h1
  obtain ⟨B', hB'⟩ := mT_le1 (s := s') (k := k') (c := c') h1'
  obtain ⟨A, hA, hl⟩ := mK_lt k' hk'
  have e1 : mld s' k' c' = (mH ++ mW) ++ (ltK k' :: (A ++ ([32, 40] ++ (mC c' ++ ([41] ++ B'))))) := by
    unfold mld; rw [hB']; unfold mP; rw [hA]; simp
  have e2 : mld s k c = (mH ++ mW) ++ (mK k ++ ([32, 40] ++ (mC c ++ ([41] ++ B)))) := by
    unfold mld; rw [hB]; unfold mP; simp
  rw [e1, e2]
  refine bad_m T n (mH ++ mW) _ _ (fun hok => miss2 T n _ _ _ _ hl ?_)
  obtain ⟨h2, h3⟩ := hs.2.1 h1 hok
  unfold rto at h2 h3
  intro he
  unfold ltK at he
  by_cases a0 : k' = 0
  · rw [if_pos a0] at he
    have b1 : k ≠ 1 := fun hh => by rw [h2.mp hh] at he; exact absurd he (by decide)
    have b2 : k ≠ 2 := fun hh => by rw [h3.mp hh] at he; exact absurd he (by decide)
    omega
  · rw [if_neg a0] at he
    by_cases a1 : k' = 1
    · rw [if_pos a1] at he
      exact hne ((h2.mpr he).trans a1.symm)
    · rw [if_neg a1] at he
      have := h3.mpr he
      omega
theorem sel2 {T : Nat → Int32} {n s k c s' c' : Nat} (hs : Sel T n s k c) (h1 : s ≤ 1) (h1' : s' ≤ 1) (hc : c ≤ 2) (hc' : c' ≤ 2) (hne : c ≠ c') : bad T n (mld s' k c') (mld s k c) := by
  obtain ⟨B, hB⟩ := mT_le1 (s := s) (k := k) (c := c) h1
  obtain ⟨B', hB'⟩ := mT_le1 (s := s') (k := k) (c := c') h1'
  obtain ⟨A, hA, hl⟩ := mC_lt c' hc'
  have e1 : mld s' k c' = (mH ++ (mW ++ (mK k ++ [32, 40]))) ++ (ltC c' :: (A ++ ([41] ++ B'))) := by
    unfold mld; rw [hB']; unfold mP; rw [hA]; simp
  have e2 : mld s k c = (mH ++ (mW ++ (mK k ++ [32, 40]))) ++ (mC c ++ ([41] ++ B)) := by
    unfold mld; rw [hB]; unfold mP; simp
  rw [e1, e2]
  refine bad_m T n (mH ++ (mW ++ (mK k ++ [32, 40]))) _ _ (fun hok => miss2 T n _ _ _ _ hl ?_)
  obtain ⟨h2, h3⟩ := hs.2.2.1 h1 hok
  unfold rto at h2 h3
  intro he
  unfold ltC at he
  by_cases a0 : c' = 0
  · rw [if_pos a0] at he
    have b1 : c ≠ 1 := fun hh => by rw [h2.mp hh] at he; exact absurd he (by decide)
    have b2 : c ≠ 2 := fun hh => by rw [h3.mp hh] at he; exact absurd he (by decide)
    omega
  · rw [if_neg a0] at he
    by_cases a1 : c' = 1
    · rw [if_pos a1] at he
      exact hne ((h2.mpr he).trans a1.symm)
    · rw [if_neg a1] at he
      have := h3.mpr he
      omega
theorem gt_end (T : Nat → Int32) (n p : Nat) (h : p = n) (x : Int32) (hx : x ≠ -1) : gt T n p ≠ x := by
  unfold gt
  rw [if_neg (by omega)]
  exact fun hh => hx hh.symm
theorem sel3 {T : Nat → Int32} {n s k c s' : Nat} (hs : Sel T n s k c) (h1 : s ≤ 1) (h1' : s' ≤ 1) (hne : s ≠ s') : bad T n (mld s' k c) (mld s k c) := by
  have h3 := hs.2.2.2.1 h1
  by_cases h0 : s = 0
  · have a1 : s' = 1 := by omega
    subst a1
    have e1 : mld 1 k c = (mH ++ mP k c) ++ mE := by simp [mld, mT]
    have e2 : mld s k c = (mH ++ mP k c) ++ [] := by subst h0; simp [mld, mT]
    rw [e1, e2]
    refine bad_m T n _ _ _ (fun hok => miss2 T n _ _ _ _ (by decide) ?_)
    exact gt_end T n _ ((h3 hok).mp h0) _ (by decide)
  · have a1 : s' = 0 := by omega
    subst a1
    have b1 : s = 1 := by omega
    have e2 : mld s k c = (mld 0 k c) ++ mE := by subst b1; simp [mld, mT]
    rw [e2]
    refine bad_e T n _ _ (fun hok hh => h0 ((h3 ?_).mpr ?_))
    · exact hok
    · exact hh
theorem sel4 {T : Nat → Int32} {n s k c s' k' c' : Nat} (hs : Sel T n s k c) (h4 : 4 ≤ s) (h4' : 4 ≤ s') (h6 : s ≤ 6) (h6' : s' ≤ 6) (hne : s ≠ s') : bad T n (mld s' k' c') (mld s k c) := by
  have h3 := hs.2.2.2.2.1 h4
  by_cases h0 : s = 4
  · have e2 : mld s k c = (mH ++ mM) ++ [] := by subst h0; simp [mld, mT]
    have : s' = 5 ∨ s' = 6 := by omega
    rcases this with a1 | a1 <;> subst a1
    · have e1 : mld 5 k' c' = (mH ++ mM) ++ 32 :: mTk := by simp [mld, mT]
      rw [e1, e2]
      refine bad_m T n _ _ _ (fun hok => miss2 T n _ _ _ _ (by decide) ?_)
      exact gt_end T n _ ((h3 hok).mp h0) _ (by decide)
    · have e1 : mld 6 k' c' = (mH ++ mM) ++ 32 :: mA := by simp [mld, mT]
      rw [e1, e2]
      refine bad_m T n _ _ _ (fun hok => miss2 T n _ _ _ _ (by decide) ?_)
      exact gt_end T n _ ((h3 hok).mp h0) _ (by decide)
  · by_cases h0' : s' = 4
    · have e1 : mld s' k' c' = mH ++ mM := by subst h0'; simp [mld, mT]
      have : s = 5 ∨ s = 6 := by omega
      have e2 : ∃ B, mld s k c = (mH ++ mM) ++ B := by
        rcases this with a1 | a1 <;> subst a1
        · exact ⟨32 :: mTk, by simp [mld, mT]⟩
        · exact ⟨32 :: mA, by simp [mld, mT]⟩
      obtain ⟨B, e2⟩ := e2
      rw [e1, e2]
      exact bad_e T n _ _ (fun hok hh => h0 ((h3 hok).mpr hh))
    · have h5 := hs.2.2.2.2.2 (by omega)
      by_cases a5 : s = 5
      · have a6 : s' = 6 := by omega
        have e1 : mld s' k' c' = (mH ++ (mM ++ [32])) ++ mA := by subst a6; simp [mld, mT]
        have e2 : mld s k c = (mH ++ (mM ++ [32])) ++ mTk := by subst a5; simp [mld, mT]
        rw [e1, e2]
        refine bad_m T n _ _ _ (fun hok => miss2 T n _ _ _ _ (by decide) ?_)
        intro hh
        have := (h5 hok).mpr hh
        omega
      · have a5' : s' = 5 := by omega
        have a6 : s = 6 := by omega
        have e1 : mld s' k' c' = (mH ++ (mM ++ [32])) ++ mTk := by subst a5'; simp [mld, mT]
        have e2 : mld s k c = (mH ++ (mM ++ [32])) ++ mA := by subst a6; simp [mld, mT]
        rw [e1, e2]
        exact bad_m T n _ _ _ (fun hok => pe_dig T n _ ((h5 hok).mp a6) _ _)
theorem sel_all {T : Nat → Int32} {n s k c s' k' c' : Nat} (hs : Sel T n s k c) (hv : vld s k c) (hv' : vld s' k' c') (hne : (s', k', c') ≠ (s, k, c)) : bad T n (mld s' k' c') (mld s k c) := by
  have h6 : s ≤ 6 := by unfold vld at hv; omega
  have h6' : s' ≤ 6 := by unfold vld at hv'; omega
  by_cases hg : grp s = grp s'
  · by_cases h1 : s ≤ 1
    · have h1' : s' ≤ 1 := by
        unfold grp at hg
        rw [if_pos h1] at hg
        by_cases a : s' ≤ 1
        · exact a
        · exfalso; rw [if_neg a] at hg; split at hg
          · omega
          · split at hg <;> omega
      have hk : k ≤ 2 ∧ c ≤ 2 := by unfold vld at hv; omega
      have hk' : k' ≤ 2 ∧ c' ≤ 2 := by unfold vld at hv'; omega
      by_cases ek : k = k'
      · subst ek
        by_cases ec : c = c'
        · subst ec
          by_cases es : s = s'
          · subst es; exact absurd rfl hne
          · exact sel3 hs h1 h1' es
        · exact sel2 hs h1 h1' hk.2 hk'.2 ec
      · exact sel1 hs h1 h1' hk.1 hk'.1 ek
    · have hk : k = 0 ∧ c = 0 := by unfold vld at hv; omega
      have h1' : ¬ s' ≤ 1 := by
        intro a
        unfold grp at hg
        rw [if_neg h1, if_pos a] at hg
        split at hg
        · omega
        · split at hg <;> omega
      have hk' : k' = 0 ∧ c' = 0 := by unfold vld at hv'; omega
      by_cases es : s = s'
      · exact absurd (by rw [es, hk.1, hk.2, hk'.1, hk'.2]) hne
      · have h4 : 4 ≤ s ∧ 4 ≤ s' := by
          unfold grp at hg
          rw [if_neg h1, if_neg h1'] at hg
          split at hg <;> split at hg <;> (try split at hg) <;> (try split at hg) <;> omega
        exact sel4 hs h4.1 h4.2 h6 h6' es
  · exact sel0 hs h6 h6' hg
def fit (T : Nat → Int32) (n : Nat) (t : Nat × Nat × Nat) : Prop := rok T n (mld t.1 t.2.1 t.2.2) = true ∧ rto T n (mld t.1 t.2.1 t.2.2) = n
def rea (T : Nat → Int32) (n : Nat) (t : Nat × Nat × Nat) : Nat := rto T n (mld t.1 t.2.1 t.2.2)
def fitb (T : Nat → Int32) (n : Nat) (t : Nat × Nat × Nat) : Bool := rok T n (mld t.1 t.2.1 t.2.2) && decide (rto T n (mld t.1 t.2.1 t.2.2) = n)
theorem fitb_iff (T : Nat → Int32) (n : Nat) (t : Nat × Nat × Nat) : fitb T n t = true ↔ fit T n t := by
  simp [fitb, fit]
def rdF (T : Nat → Int32) (n : Nat) : List (Nat × Nat × Nat) → Nat → Option (Nat × Nat × Nat) × Nat
  | [], f => (none, f)
  | t :: ts, f => if fitb T n t then (some t, 0) else rdF T n ts (if f < rea T n t then rea T n t else f)
theorem rdF_fit {T : Nat → Int32} {n : Nat} {t : Nat × Nat × Nat} (hf : fit T n t) : ∀ (l : List (Nat × Nat × Nat)) (f : Nat), t ∈ l → (∀ t' ∈ l, t' ≠ t → ¬ fit T n t') → rdF T n l f = (some t, 0) := by
  intro l
  induction l with
  | nil => intro f h; exact absurd h (by simp)
  | cons a l ih =>
    intro f hm ho
    by_cases e : a = t
    · subst e
      simp [rdF, (fitb_iff T n a).mpr hf]
    · have h1 : ¬ fitb T n a = true := fun hh => ho a (by simp) e ((fitb_iff T n a).mp hh)
      simp only [rdF, if_neg h1]
      refine ih _ ?_ (fun t' ht' => ho t' (List.mem_cons_of_mem _ ht'))
      rcases List.mem_cons.mp hm with h2 | h2
      · exact absurd h2.symm e
      · exact h2
theorem rdF_none {T : Nat → Int32} {n : Nat} {R : Nat} : ∀ (l : List (Nat × Nat × Nat)) (f : Nat), (∀ t' ∈ l, ¬ fit T n t' ∧ rea T n t' ≤ R) → f ≤ R → (f = R ∨ ∃ t ∈ l, rea T n t = R) → rdF T n l f = (none, R) := by
  intro l
  induction l with
  | nil =>
    intro f _ _ h
    rcases h with h | ⟨t, ht, _⟩
    · simp [rdF, h]
    · exact absurd ht (by simp)
  | cons a l ih =>
    intro f ha hf hR
    have h1 : ¬ fitb T n a = true := fun hh => (ha a (by simp)).1 ((fitb_iff T n a).mp hh)
    have h2 := (ha a (by simp)).2
    simp only [rdF, if_neg h1]
    refine ih _ (fun t' ht' => ha t' (List.mem_cons_of_mem _ ht')) ?_ ?_
    · split <;> omega
    · rcases hR with h | ⟨t, ht, h⟩
      · left; split <;> omega
      · rcases List.mem_cons.mp ht with e | e
        · subst e
          left; split <;> omega
        · exact Or.inr ⟨t, e, h⟩
def allM : List (Nat × Nat × Nat) := [(0, 0, 0), (0, 0, 1), (0, 0, 2), (0, 1, 0), (0, 1, 1), (0, 1, 2), (0, 2, 0), (0, 2, 1), (0, 2, 2), (1, 0, 0), (1, 0, 1), (1, 0, 2), (1, 1, 0), (1, 1, 1), (1, 1, 2), (1, 2, 0), (1, 2, 1), (1, 2, 2), (2, 0, 0), (3, 0, 0), (4, 0, 0), (5, 0, 0), (6, 0, 0)]
theorem allM_vld : ∀ t ∈ allM, vld t.1 t.2.1 t.2.2 := by
  intro t ht
  simp only [allM, List.mem_cons, List.not_mem_nil, or_false] at ht
  unfold vld
  rcases ht with h | h | h | h | h | h | h | h | h | h | h | h | h | h | h | h | h | h | h | h | h | h | h <;> subst h <;> simp
theorem vld_allM {s k c : Nat} (h : vld s k c) : (s, k, c) ∈ allM := by
  unfold vld at h
  have hs : s = 0 ∨ s = 1 ∨ s = 2 ∨ s = 3 ∨ s = 4 ∨ s = 5 ∨ s = 6 := by omega
  have hk : k = 0 ∨ k = 1 ∨ k = 2 := by omega
  have hc : c = 0 ∨ c = 1 ∨ c = 2 := by omega
  rcases hs with a | a | a | a | a | a | a <;> rcases hk with b | b | b <;> rcases hc with d | d | d <;> subst a <;> subst b <;> subst d <;> first | (exfalso; omega) | simp [allM]
/-- what the reference's search over all moulds finds, by the class's own mould -/
theorem rd_main {T : Nat → Int32} {n s k c : Nat} (hs : Sel T n s k c) (hv : vld s k c) : (fit T n (s, k, c) → rdF T n allM 0 = (some (s, k, c), 0)) ∧ (¬ fit T n (s, k, c) → rdF T n allM 0 = (none, rea T n (s, k, c))) := by
  have hb : ∀ t' ∈ allM, t' ≠ (s, k, c) → bad T n (mld t'.1 t'.2.1 t'.2.2) (mld s k c) := fun t' ht' hne => sel_all hs hv (allM_vld t' ht') hne
  refine ⟨fun hf => rdF_fit hf allM 0 (vld_allM hv) (fun t' ht' hne => (hb t' ht' hne).1), fun hf => ?_⟩
  refine rdF_none allM 0 (fun t' ht' => ?_) (Nat.zero_le _) (Or.inr ⟨_, vld_allM hv, rfl⟩)
  by_cases e : t' = (s, k, c)
  · subst e; exact ⟨hf, Nat.le_refl _⟩
  · exact hb t' ht' e
