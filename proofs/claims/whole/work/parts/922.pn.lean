/-! THE POURED TEXT IS THE CLASS'S TEXT. -/
theorem prL_word (W : List Int32) (L ns : List Int32) (h : ∀ x ∈ W, x < 200) : prL (W ++ L) ns = W ++ prL L ns := by
  induction W with
  | nil => rfl
  | cons x W ih =>
    have hx := h x (by simp)
    rw [List.cons_append, prL, if_pos hx, ih (fun y hy => h y (List.mem_cons_of_mem _ hy))]
    rfl
theorem okN_word (W : List Int32) (L ns : List Int32) (h : ∀ x ∈ W, x < 200) : okN (W ++ L) ns ↔ okN L ns := by
  induction W with
  | nil => exact Iff.rfl
  | cons x W ih =>
    have hx := h x (by simp)
    rw [List.cons_append, okN, if_pos hx]
    exact ih (fun y hy => h y (List.mem_cons_of_mem _ hy))
theorem prL_num {x : Int32} (h : ¬ x < 200 ∧ x ≠ 400 ∧ x ≠ 300) (L ns : List Int32) (v : Int32) : prL (x :: L) (v :: ns) = dgs v ++ prL L ns := by
  rw [prL, if_neg h.1, if_neg h.2.1, if_neg h.2.2]
  rfl
theorem okN_num {x : Int32} (h : ¬ x < 200 ∧ x ≠ 400 ∧ x ≠ 300) (L ns : List Int32) (v : Int32) (hv : 0 ≤ v.toInt ∧ v.toInt < 100000) (hn : okN L ns) : okN (x :: L) (v :: ns) := by
  rw [okN, if_neg h.1]
  refine ⟨by simp, fun _ => ?_, hn⟩
  rw [if_neg h.2.2]
  exact hv
theorem prL_dec {x : Int32} (h : ¬ x < 200 ∧ x ≠ 400 ∧ x ≠ 300) (L ns : List Int32) (t : Int32) : prL (x :: 46 :: 300 :: L) (gpL t ++ ns) = dcL t ++ prL L ns := by
  show prL (x :: 46 :: 300 :: L) (t / 1000 :: ((t - t / 1000 * 1000) :: ns)) = _
  rw [prL_num h, prL, if_pos (by decide), prL, if_neg (by decide), if_neg (by decide), if_pos rfl]
  simp [dcL]
theorem okN_dec {x : Int32} (h : ¬ x < 200 ∧ x ≠ 400 ∧ x ≠ 300) (L ns : List Int32) {t : Int32} (ht : 0 ≤ t.toInt ∧ t.toInt < 100000000) (hn : okN L ns) : okN (x :: 46 :: 300 :: L) (gpL t ++ ns) := by
  have hr := rem_nn (m := 1000) ht.1
  have hd := div_nn (m := 1000) ht.1 (by decide)
  rw [t1000] at hr hd
  show okN (x :: 46 :: 300 :: L) (t / 1000 :: ((t - t / 1000 * 1000) :: ns))
  refine okN_num h _ _ _ (by rw [hd]; omega) ?_
  rw [okN, if_pos (by decide), okN, if_neg (by decide)]
  refine ⟨by simp, fun _ => ?_, hn⟩
  rw [if_pos rfl]
  show 0 ≤ (t - t / 1000 * 1000).toInt ∧ (t - t / 1000 * 1000).toInt < 1000
  rw [hr]; omega
theorem prL_size (L ns : List Int32) (x : Int32) : prL (204 :: 400 :: L) (gsL x ++ ns) = szL x ++ prL L ns := by
  unfold gsL szL
  cases inM x with
  | true =>
    simp only [if_true]
    show prL (204 :: 400 :: L) (x / 1024 :: (1 :: ns)) = _
    rw [prL_num (by decide), prL, if_neg (by decide), if_pos rfl]
    simp
  | false =>
    simp only [Bool.false_eq_true, if_false]
    show prL (204 :: 400 :: L) (x :: (0 :: ns)) = _
    rw [prL_num (by decide), prL, if_neg (by decide), if_pos rfl, if_neg (by simp)]
    simp
/-- a size that a text has -/
def okS (x : Int32) : Prop := 0 ≤ x.toInt ∧ (x.toInt ≤ 9999 ∨ (x.toInt % 1024 = 0 ∧ x.toInt / 1024 ≤ 9999))
theorem t1024 : (1024 : Int32).toInt = 1024 := by decide
theorem inM_iff {x : Int32} (h : 0 ≤ x.toInt) : inM x = true ↔ x.toInt ≠ 0 ∧ x.toInt % 1024 = 0 := by
  have hr := rem_nn (m := 1024) h
  rw [t1024] at hr
  simp only [inM, decide_eq_true_eq]
  rw [← hr]
  constructor
  · intro a
    refine ⟨fun b => a.1 (Int32.toInt_inj.mp (by rw [b, t0])), by rw [a.2, t0]⟩
  · intro a
    refine ⟨fun b => a.1 (by rw [b, t0]), Int32.toInt_inj.mp (by rw [a.2, t0])⟩
theorem okS_num {x : Int32} (h : okS x) : (inM x = true → 0 ≤ (x / 1024).toInt ∧ (x / 1024).toInt ≤ 9999) ∧ (inM x = false → x.toInt ≤ 9999) := by
  have hd := div_nn (m := 1024) h.1 (by decide)
  rw [t1024] at hd
  have hi := inM_iff h.1
  obtain ⟨h0, h1⟩ := h
  refine ⟨fun a => ?_, fun a => ?_⟩
  · have := hi.mp a
    rw [hd]; omega
  · have : ¬ (x.toInt ≠ 0 ∧ x.toInt % 1024 = 0) := fun b => by rw [hi.mpr b] at a; exact absurd a (by decide)
    omega
theorem okN_size (L ns : List Int32) {x : Int32} (h : okS x) (hn : okN L ns) : okN (204 :: 400 :: L) (gsL x ++ ns) := by
  obtain ⟨h1, h2⟩ := okS_num h
  unfold gsL
  cases hm : inM x with
  | true =>
    simp only [if_true]
    have := h1 hm
    refine okN_num (by decide) _ _ _ (by omega) ?_
    rw [okN, if_neg (by decide)]
    exact ⟨by simp, fun a => absurd rfl a, hn⟩
  | false =>
    simp only [Bool.false_eq_true, if_false]
    have := h2 hm
    have := h.1
    refine okN_num (by decide) _ _ _ (by omega) ?_
    rw [okN, if_neg (by decide)]
    exact ⟨by simp, fun a => absurd rfl a, hn⟩
theorem dgs_len4 {x : Int32} (h : x.toInt ≤ 9999) : (dgs x).length ≤ 4 := by
  have a := du_neg (x := x) (u := 10000) (by rw [t10000]; omega)
  have b := du_len x 1000
  have c := du_len x 100
  have d := du_len x 10
  simp only [dgs, a, List.length_append, List.length_cons, List.length_nil]
  omega
theorem dgs_len3 {x : Int32} (h : x.toInt ≤ 999) : (dgs x).length ≤ 3 := by
  have a := du_neg (x := x) (u := 10000) (by rw [t10000]; omega)
  have b := du_neg (x := x) (u := 1000) (by rw [t1000]; omega)
  have c := du_len x 100
  have d := du_len x 10
  simp only [dgs, a, b, List.length_append, List.length_cons, List.length_nil]
  omega
theorem szL_len {x : Int32} (h : okS x) : (szL x).length ≤ 5 := by
  obtain ⟨h1, h2⟩ := okS_num h
  unfold szL
  cases hm : inM x with
  | true =>
    have := dgs_len4 (h1 hm).2
    simp only [if_true, List.length_append, List.length_cons, List.length_nil]
    omega
  | false =>
    have := dgs_len4 (h2 hm)
    simp only [Bool.false_eq_true, if_false, List.length_append, List.length_cons, List.length_nil]
    omega
theorem dcL_len9 (t : Int32) : (dcL t).length ≤ 9 := by
  have := dgs_len (t / 1000)
  simp only [dcL, d3, List.length_append, List.length_cons, List.length_nil]
  omega
theorem dcL_len8 {t : Int32} (h0 : 0 ≤ t.toInt) (h : t.toInt ≤ 9999999) : (dcL t).length ≤ 8 := by
  have := dgs_len4 (x := t / 1000) (by rw [div_nn h0 (by decide), t1000]; omega)
  simp only [dcL, d3, List.length_append, List.length_cons, List.length_nil]
  omega
def hdL (t nm : Int32) : List Int32 := 91 :: (dcL t ++ ([115, 93, 71, 67, 40] ++ (dgs nm ++ [41, 32])))
def arL (a b : Int32) : List Int32 := szL a ++ ([45, 62] ++ szL b)
def tkL (t : Int32) : List Int32 := dcL t ++ [109, 115]
def edL (a b c t : Int32) : List Int32 := 32 :: (arL a b ++ (40 :: (szL c ++ ([41, 32] ++ tkL t))))
/-- the class's text of a line -/
def wrL (s k c : Nat) (nm t a b cp tk : Int32) : List Int32 := hdL t nm ++ (if s = 0 then mP k c else if s = 1 then mP k c ++ edL a b cp tk else if s = 2 then [69, 100, 101, 110, 32] ++ arL a b else if s = 3 then [79, 108, 100, 32] ++ arL a b else if s = 4 then mM else if s = 5 then [77, 97, 114, 107, 32] ++ tkL tk else [77, 97, 114, 107, 32, 65, 98, 111, 114, 116])
theorem pr_head (X ns : List Int32) (t nm : Int32) : prL (mH ++ X) (gpL t ++ ([nm] ++ ns)) = hdL t nm ++ prL X ns := by
  show prL ([91] ++ (205 :: 46 :: 300 :: ([115, 93, 71, 67, 40] ++ (203 :: ([41, 32] ++ X))))) (gpL t ++ (nm :: ns)) = _
  rw [prL_word [91] _ _ (by decide), prL_dec (by decide), prL_word [115, 93, 71, 67, 40] _ _ (by decide), prL_num (by decide), prL_word [41, 32] _ _ (by decide)]
  simp [hdL]
theorem ok_head (X ns : List Int32) {t nm : Int32} (ht : 0 ≤ t.toInt ∧ t.toInt < 100000000) (hn : 0 ≤ nm.toInt ∧ nm.toInt < 100000) (h : okN X ns) : okN (mH ++ X) (gpL t ++ ([nm] ++ ns)) := by
  show okN ([91] ++ (205 :: 46 :: 300 :: ([115, 93, 71, 67, 40] ++ (203 :: ([41, 32] ++ X))))) (gpL t ++ (nm :: ns))
  rw [okN_word [91] _ _ (by decide)]
  refine okN_dec (by decide) _ _ ht ?_
  rw [okN_word [115, 93, 71, 67, 40] _ _ (by decide)]
  refine okN_num (by decide) _ _ _ hn ?_
  rw [okN_word [41, 32] _ _ (by decide)]
  exact h
theorem pr_ar (X ns : List Int32) (a b : Int32) : prL (mAr ++ X) (gsL a ++ (gsL b ++ ns)) = arL a b ++ prL X ns := by
  show prL (204 :: 400 :: ([45, 62] ++ (204 :: 400 :: X))) _ = _
  rw [prL_size, prL_word [45, 62] _ _ (by decide), prL_size]
  simp [arL]
theorem ok_ar (X ns : List Int32) {a b : Int32} (ha : okS a) (hb : okS b) (h : okN X ns) : okN (mAr ++ X) (gsL a ++ (gsL b ++ ns)) := by
  show okN (204 :: 400 :: ([45, 62] ++ (204 :: 400 :: X))) _
  refine okN_size _ _ ha ?_
  rw [okN_word [45, 62] _ _ (by decide)]
  exact okN_size _ _ hb h
theorem pr_tk (tk : Int32) : prL mTk (gpL tk) = tkL tk := by
  have := prL_dec (x := 204) (by decide) ([109, 115] ++ []) [] tk
  rw [prL_word [109, 115] _ _ (by decide), List.append_nil, List.append_nil] at this
  simpa [tkL, prL, mTk] using this
theorem ok_tk {tk : Int32} (h : 0 ≤ tk.toInt ∧ tk.toInt < 100000000) : okN mTk (gpL tk) := by
  have := okN_dec (x := 204) (by decide) ([109, 115] ++ []) [] h (by rw [okN_word [109, 115] _ _ (by decide)]; trivial)
  rw [List.append_nil] at this
  exact this
theorem mP_lit (k c : Nat) : ∀ x ∈ mP k c, x < 200 := by
  have hk : ∀ x ∈ mK k, x < 200 := by
    match k with
    | 0 => decide
    | 1 => decide
    | _ + 2 => exact (by decide : ∀ x ∈ mK 2, x < 200)
  have hc : ∀ x ∈ mC c, x < 200 := by
    match c with
    | 0 => decide
    | 1 => decide
    | _ + 2 => exact (by decide : ∀ x ∈ mC 2, x < 200)
  intro x hx
  simp only [mP, List.mem_append] at hx
  rcases hx with h | h | h | h | h
  · exact (by decide : ∀ x ∈ mW, x < 200) x h
  · exact hk x h
  · exact (by decide : ∀ x ∈ ([32, 40] : List Int32), x < 200) x h
  · exact hc x h
  · exact (by decide : ∀ x ∈ ([41] : List Int32), x < 200) x h
/-- the numbers that a shape needs have a text -/
def okT (s : Nat) (nm t a b c tk : Int32) : Prop := (0 ≤ nm.toInt ∧ nm.toInt ≤ 999) ∧ (0 ≤ t.toInt ∧ t.toInt ≤ 99999999) ∧ ((s = 1 ∨ s = 2 ∨ s = 3) → okS a ∧ okS b) ∧ (s = 1 → okS c) ∧ ((s = 1 ∨ s = 5) → 0 ≤ tk.toInt ∧ tk.toInt ≤ 9999999)
theorem wr_pr {s k c : Nat} (hs : s ≤ 6) {nm t a b cp tk : Int32} (h : okT s nm t a b cp tk) : prL (mld s k c) (nsL s nm t a b cp tk) = wrL s k c nm t a b cp tk ∧ okN (mld s k c) (nsL s nm t a b cp tk) ∧ (wrL s k c nm t a b cp tk).length ≤ 70 := by
  obtain ⟨h1, h2, h3, h4, h5⟩ := h
  have l1 := dcL_len9 t
  have l2 := dgs_len3 (x := nm) (by omega)
  have hh : (hdL t nm).length ≤ 20 := by
    simp only [hdL, List.length_append, List.length_cons, List.length_nil]
    omega
  have hP := mP_len k c
  unfold mld nsL wrL
  rw [pr_head]
  have hok : ∀ X ns, okN X ns → okN (mH ++ X) (gpL t ++ ([nm] ++ ns)) := fun X ns => ok_head X ns (by omega) (by omega)
  have : s = 0 ∨ s = 1 ∨ s = 2 ∨ s = 3 ∨ s = 4 ∨ s = 5 ∨ s = 6 := by omega
  rcases this with e | e | e | e | e | e | e <;> subst e
  · refine ⟨?_, hok _ _ ?_, ?_⟩
    · have := prL_word (mP k c) [] [] (mP_lit k c)
      simpa [mT, prL] using this
    · have := (okN_word (mP k c) [] [] (mP_lit k c)).mpr trivial
      simpa [mT] using this
    · simp only [if_true, List.length_append]; omega
  · have a1 := h3 (Or.inl rfl)
    have a2 := h4 rfl
    have a3 := h5 (Or.inl rfl)
    have s1 := szL_len a1.1
    have s2 := szL_len a1.2
    have s3 := szL_len a2
    have s4 := dcL_len8 a3.1 a3.2
    have eT : mT 1 k c = mP k c ++ ([32] ++ (mAr ++ ([40] ++ (204 :: 400 :: ([41, 32] ++ mTk))))) := by simp [mT, mE, mSz]
    have eN : (if 1 = 1 ∨ 1 = 2 ∨ 1 = 3 then gsL a ++ gsL b else []) ++ ((if 1 = 1 then gsL cp else []) ++ if 1 = 1 ∨ 1 = 5 then gpL tk else []) = gsL a ++ (gsL b ++ (gsL cp ++ gpL tk)) := by simp
    rw [eT, eN]
    refine ⟨?_, hok _ _ ?_, ?_⟩
    · rw [prL_word _ _ _ (mP_lit k c), prL_word [32] _ _ (by decide), pr_ar, prL_word [40] _ _ (by decide), prL_size, prL_word [41, 32] _ _ (by decide), pr_tk]
      simp [edL]
    · rw [okN_word _ _ _ (mP_lit k c), okN_word [32] _ _ (by decide)]
      refine ok_ar _ _ a1.1 a1.2 ?_
      rw [okN_word [40] _ _ (by decide)]
      refine okN_size _ _ a2 ?_
      rw [okN_word [41, 32] _ _ (by decide)]
      exact ok_tk (by omega)
    · rw [if_neg (by omega), if_pos rfl]
      simp only [List.length_append, edL, arL, tkL, List.length_cons, List.length_nil]
      omega
  · have a1 := h3 (Or.inr (Or.inl rfl))
    have s1 := szL_len a1.1
    have s2 := szL_len a1.2
    have eT : mT 2 k c = [69, 100, 101, 110, 32] ++ (mAr ++ []) := by simp [mT]
    have eN : (if 2 = 1 ∨ 2 = 2 ∨ 2 = 3 then gsL a ++ gsL b else []) ++ ((if 2 = 1 then gsL cp else []) ++ if 2 = 1 ∨ 2 = 5 then gpL tk else []) = gsL a ++ (gsL b ++ []) := by simp
    rw [eT, eN]
    refine ⟨?_, hok _ _ ?_, ?_⟩
    · rw [prL_word _ _ _ (by decide), pr_ar]
      simp [prL]
    · rw [okN_word _ _ _ (by decide)]
      exact ok_ar _ _ a1.1 a1.2 trivial
    · rw [if_neg (by omega), if_neg (by omega), if_pos rfl]
      simp only [List.length_append, arL, List.length_cons, List.length_nil]
      omega
  · have a1 := h3 (Or.inr (Or.inr rfl))
    have s1 := szL_len a1.1
    have s2 := szL_len a1.2
    have eT : mT 3 k c = [79, 108, 100, 32] ++ (mAr ++ []) := by simp [mT]
    have eN : (if 3 = 1 ∨ 3 = 2 ∨ 3 = 3 then gsL a ++ gsL b else []) ++ ((if 3 = 1 then gsL cp else []) ++ if 3 = 1 ∨ 3 = 5 then gpL tk else []) = gsL a ++ (gsL b ++ []) := by simp
    rw [eT, eN]
    refine ⟨?_, hok _ _ ?_, ?_⟩
    · rw [prL_word _ _ _ (by decide), pr_ar]
      simp [prL]
    · rw [okN_word _ _ _ (by decide)]
      exact ok_ar _ _ a1.1 a1.2 trivial
    · rw [if_neg (by omega), if_neg (by omega), if_neg (by omega), if_pos rfl]
      simp only [List.length_append, arL, List.length_cons, List.length_nil]
      omega
  · refine ⟨?_, hok _ _ ?_, ?_⟩
    · have := prL_word mM [] [] (by decide)
      simpa [mT, prL] using this
    · have := (okN_word mM [] [] (by decide)).mpr trivial
      simpa [mT] using this
    · rw [if_neg (by omega), if_neg (by omega), if_neg (by omega), if_neg (by omega), if_pos rfl]
      simp only [List.length_append, mM, List.length_cons, List.length_nil]; omega
  · have a3 := h5 (Or.inr rfl)
    have s4 := dcL_len8 a3.1 a3.2
    have eT : mT 5 k c = [77, 97, 114, 107, 32] ++ mTk := by simp [mT, mM]
    have eN : (if 5 = 1 ∨ 5 = 2 ∨ 5 = 3 then gsL a ++ gsL b else []) ++ ((if 5 = 1 then gsL cp else []) ++ if 5 = 1 ∨ 5 = 5 then gpL tk else []) = gpL tk := by simp
    rw [eT, eN]
    refine ⟨?_, hok _ _ ?_, ?_⟩
    · rw [prL_word _ _ _ (by decide), pr_tk]
      simp
    · rw [okN_word _ _ _ (by decide)]
      exact ok_tk (by omega)
    · rw [if_neg (by omega), if_neg (by omega), if_neg (by omega), if_neg (by omega), if_neg (by omega), if_pos rfl]
      simp only [List.length_append, tkL, List.length_cons, List.length_nil]; omega
  · refine ⟨?_, hok _ _ ?_, ?_⟩
    · have := prL_word [77, 97, 114, 107, 32, 65, 98, 111, 114, 116] [] [] (by decide)
      simpa [mT, prL, mM, mA] using this
    · have := (okN_word [77, 97, 114, 107, 32, 65, 98, 111, 114, 116] [] [] (by decide)).mpr trivial
      simpa [mT, mM, mA] using this
    · rw [if_neg (by omega), if_neg (by omega), if_neg (by omega), if_neg (by omega), if_neg (by omega), if_neg (by omega)]
      simp only [List.length_append, List.length_cons, List.length_nil]; omega
