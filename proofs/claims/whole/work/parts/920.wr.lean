/-! WRITING A LINE: the class's text (place tx, row rw) and the reference's out. -/
theorem rem_nn {a m : Int32} (h : 0 ≤ a.toInt) : (a - a / m * m).toInt = a.toInt % m.toInt := by
  rw [rem_toInt, Int.tmod_eq_emod_of_nonneg h]
theorem div_nn {a m : Int32} (h : 0 ≤ a.toInt) (hm : 0 < m.toInt) : (a / m).toInt = a.toInt / m.toInt := lg_idiv_nonneg h hm
theorem t10 : (10 : Int32).toInt = 10 := by decide
theorem t48 : (48 : Int32).toInt = 48 := by decide
theorem t1000 : (1000 : Int32).toInt = 1000 := by decide
theorem t100 : (100 : Int32).toInt = 100 := by decide
theorem t10000 : (10000 : Int32).toInt = 10000 := by decide
theorem t1 : (1 : Int32).toInt = 1 := by decide
theorem t0 : (0 : Int32).toInt = 0 := by decide
/-- the digit of x at the unit u -/
def dv (x u : Int32) : Int32 := 48 + ((x / u) - (x / u) / 10 * 10)
theorem dv_int {x u : Int32} (hx : 0 ≤ x.toInt) (hu : 0 < u.toInt) : (dv x u).toInt = 48 + x.toInt / u.toInt % 10 := by
  have h1 : 0 ≤ (x / u).toInt := by rw [div_nn hx hu]; exact Int.ediv_nonneg hx (by omega)
  have h2 := rem_nn (m := 10) h1
  rw [t10, div_nn hx hu] at h2
  unfold dv
  rw [i32_add, h2, t48]
  · rw [h2, t48]; omega
  · rw [h2, t48]; omega
theorem dv_ch {x u : Int32} (hx : 0 ≤ x.toInt) (hu : 0 < u.toInt) : 0 ≤ (dv x u).toInt ∧ (dv x u).toInt < 65536 := by
  rw [dv_int hx hu]; omega
theorem i2c {x : Int32} (h : 0 ≤ x.toInt ∧ x.toInt < 65536) : UInt32.toInt32 ((Int32.toUInt32 x) % 65536) = x := lg_i2c_word h.1 h.2
theorem nar_c {x : Int32} (h : 0 ≤ x.toInt ∧ x.toInt < 65536) : vp_nar .char x = x := by rw [vp_nar_char, lg_i2c_small h.1 h.2]
def pT (tx rw k j : Nat) : Prop := k = rw ∨ (k = tx ∧ j = 1)
def isT (tx rw : Nat) : Prop := (tx = 1 ∧ rw = 2) ∨ (tx = 3 ∧ rw = 4)
def Tx (S0 S : GS) (tx rw : Nat) (L : List Int32) : Prop := Fix S0 ∧ isT tx rw ∧ Ag (pT tx rw) S0 S ∧ gX S tx 1 = nI L.length ∧ L.length ≤ 72 ∧ (∀ i, i < L.length → gX S rw i = L.getD i 0) ∧ (∀ i, L.length ≤ i → gX S rw i = gX S0 rw i)
theorem Tx.fix {S0 S : GS} {tx rw : Nat} {L : List Int32} (h : Tx S0 S tx rw L) : Fix S := h.1.ag h.2.2.1
theorem Tx.eq {S0 S : GS} {tx rw : Nat} {L L' : List Int32} (h : Tx S0 S tx rw L) (e : L = L') : Tx S0 S tx rw L' := e ▸ h
theorem Tx.pl {S0 S : GS} {tx rw : Nat} {L : List Int32} (h : Tx S0 S tx rw L) : tx < gN S ∧ gK S tx = 6 ∧ gR S tx 0 = some rw ∧ rw < gN S ∧ gK S rw = 10 ∧ gL S rw = 72 := by
  have hF := h.fix
  rcases h.2.1 with ⟨a, b⟩ | ⟨a, b⟩ <;> subst a <;> subst b
  · exact ⟨fn_1 hF, fk_1 hF, fr_1_0 hF, fn_2 hF, fk_2 hF, fl_2 hF⟩
  · exact ⟨fn_3 hF, fk_3 hF, fr_3_0 hF, fn_4 hF, fk_4 hF, fl_4 hF⟩
theorem getD_snoc_l {L : List Int32} {x : Int32} {i : Nat} (h : i < L.length) : (L ++ [x]).getD i 0 = L.getD i 0 := by
  simp only [List.getD_eq_getElem?_getD]
  rw [List.getElem?_append_left h]
theorem getD_snoc_e {L : List Int32} {x : Int32} : (L ++ [x]).getD L.length 0 = x := by simp
theorem q_add {S0 S : GS} {tx rw : Nat} {L : List Int32} {x : Int32} {Q : Int32 → GS → Prop} (h : Tx S0 S tx rw L) (hl : L.length < 72) (hx : 0 ≤ x.toInt ∧ x.toInt < 65536) (hQ : ∀ S2, Tx S0 S2 tx rw (L ++ [x]) → Q 1 S2) : wX6_add S tx x Q := by
  obtain ⟨p1, p2, p3, p4, p5, p6⟩ := h.pl
  obtain ⟨h0, hT, ha, hm, _, hi, ho⟩ := h
  have hne : tx ≠ rw := by unfold isT at hT; omega
  unfold wX6_add
  rw [hm]
  refine ⟨p1, p2, fun a => absurd a (nj_nneg (by omega)), fun _ => ⟨rw, p3, p4, p5, ?_⟩⟩
  rw [p6, nj_clamp (by omega), nar_c hx]
  refine ⟨fun _ => ⟨nj_in hl (by omega), fun S8 e8 S13 e13 => hQ S13 ?_⟩, fun a => absurd ((nj_lt (by omega) (by omega)).mpr hl) a⟩
  have e8m : gX S8 tx 1 = nI L.length := by rw [e8, x_sX, if_neg (fun a => hne a.1)]; exact hm
  rw [e8m, nj_succ] at e13
  subst e13
  subst e8
  refine ⟨h0, hT, (ha.x _ _ _ (Or.inl rfl)).x _ _ _ (Or.inr ⟨rfl, rfl⟩), ?_, ?_, ?_, ?_⟩
  · rw [x_sX, if_pos ⟨rfl, rfl⟩]; simp
  · simp only [List.length_append, List.length_cons, List.length_nil]; omega
  · intro i hi2
    simp only [List.length_append, List.length_cons, List.length_nil] at hi2
    rw [x_sX, if_neg (fun a => hne a.1.symm), x_sX]
    by_cases e : i = L.length
    · subst e
      rw [if_pos ⟨rfl, rfl⟩, getD_snoc_e]
    · rw [if_neg (fun a => e a.2), getD_snoc_l (by omega)]
      exact hi i (by omega)
  · intro i hi2
    simp only [List.length_append, List.length_cons, List.length_nil] at hi2
    rw [x_sX, if_neg (fun a => hne a.1.symm), x_sX, if_neg (by omega)]
    exact ho i (by omega)
def du (x u : Int32) : List Int32 := if u ≤ x then [dv x u] else []
def dgs (x : Int32) : List Int32 := du x 10000 ++ (du x 1000 ++ (du x 100 ++ (du x 10 ++ [dv x 1])))
theorem du_len (x u : Int32) : (du x u).length ≤ 1 := by unfold du; split <;> simp
theorem dgs_len (x : Int32) : (dgs x).length ≤ 5 := by
  have a := du_len x 10000
  have b := du_len x 1000
  have c := du_len x 100
  have d := du_len x 10
  simp only [dgs, List.length_append, List.length_cons, List.length_nil]
  omega
/-- one turn of the class's digits -/
theorem q_dig {S0 S : GS} {tx rw f : Nat} {L : List Int32} {x u u' : Int32} {Q : GS → Prop} (hu : 1 < u.toInt) (hu' : u / 10 = u') (hx : 0 ≤ x.toInt) (h : Tx S0 S tx rw L) (hl : L.length < 72) (hQ : ∀ S2, Tx S0 S2 tx rw (L ++ du x u) → wX6_addNumber_4 Q tx f x u' S2) : wX6_addNumber_4 Q tx (f + 1) x u S := by
  have hu0 : ¬ u ≤ 0 := by intro a; have := Int32.le_iff_toInt_le.mp a; rw [t0] at this; omega
  have huz : ¬ u = 0 := by intro a; rw [a, t0] at hu; omega
  have hu1 : ¬ u = 1 := by intro a; rw [a, t1] at hu; omega
  unfold wX6_addNumber_4 wX6_addNumber_18 wX6_addNumber_33
  rw [hu']
  have hc := dv_ch hx (show 0 < u.toInt by omega)
  refine ⟨fun a => absurd a hu0, fun _ => ⟨fun a => ⟨huz, h.pl.1, h.pl.2.1, ?_⟩, fun a => ⟨fun _ => hQ S (h.eq (by rw [du, if_neg a]; simp)), fun b => absurd b hu1⟩⟩⟩
  have e := i2c hc
  unfold dv at e
  rw [e]
  refine q_add h hl hc (fun S2 h2 _ => hQ S2 (h2.eq ?_))
  rw [du, if_pos a]
  rfl
theorem q_addNumber {S0 S : GS} {tx rw : Nat} {L : List Int32} {x : Int32} {Q : GS → Prop} (hx : 0 ≤ x.toInt) (h : Tx S0 S tx rw L) (hl : L.length + (dgs x).length ≤ 72) (hQ : ∀ S2, Tx S0 S2 tx rw (L ++ dgs x) → Q S2) : wX6_addNumber S tx x Q := by
  simp only [dgs, List.length_append, List.length_cons, List.length_nil] at hl
  refine ⟨6, q_dig (u' := 1000) (by decide) (by decide) hx h (by omega) (fun S2 h2 => q_dig (u' := 100) (by decide) (by decide) hx h2 (by rw [List.length_append]; omega) (fun S3 h3 => q_dig (u' := 10) (by decide) (by decide) hx h3 (by simp only [List.length_append]; omega) (fun S4 h4 => q_dig (u' := 1) (by decide) (by decide) hx h4 (by simp only [List.length_append]; omega) (fun S5 h5 => ?_))))⟩
  have hc := dv_ch hx (u := 1) (by decide)
  have e := i2c hc
  unfold dv at e
  have hfin : wX6_addNumber_18 Q (wX6_addNumber_4 Q tx 1) tx x 1 S5 := by
    unfold wX6_addNumber_18 wX6_addNumber_33
    refine ⟨by decide, h5.pl.1, h5.pl.2.1, ?_⟩
    rw [e]
    refine q_add h5 (by simp only [List.length_append]; omega) hc (fun S6 h6 _ => ?_)
    unfold wX6_addNumber_4
    refine ⟨fun _ => hQ S6 (h6.eq ?_), fun a => absurd (by decide) a⟩
    simp only [dgs, List.append_assoc]
    rfl
  unfold wX6_addNumber_4
  exact ⟨fun a => absurd a (by decide), fun _ => ⟨fun _ => hfin, fun _ => ⟨fun a => absurd rfl a, fun _ => hfin⟩⟩⟩
def d3 (x : Int32) : List Int32 := [dv x 100, dv x 10, dv x 1]
theorem sub3 {t : Int32} (ht : 0 ≤ t.toInt) : 48 + ((t / 100) - (t / 100) / 10 * 10) = dv (t - t / 1000 * 1000) 100 ∧ 48 + ((t / 10) - (t / 10) / 10 * 10) = dv (t - t / 1000 * 1000) 10 ∧ 48 + (t - t / 10 * 10) = dv (t - t / 1000 * 1000) 1 := by
  have hr := rem_nn (m := 1000) ht
  rw [t1000] at hr
  have hr0 : 0 ≤ (t - t / 1000 * 1000).toInt := by rw [hr]; omega
  refine ⟨?_, ?_, ?_⟩
  · apply Int32.toInt_inj.mp
    rw [dv_int hr0 (by decide), hr, t100]
    have := dv_int ht (u := 100) (by decide)
    unfold dv at this
    rw [this, t100]
    omega
  · apply Int32.toInt_inj.mp
    rw [dv_int hr0 (by decide), hr, t10]
    have := dv_int ht (u := 10) (by decide)
    unfold dv at this
    rw [this, t10]
    omega
  · apply Int32.toInt_inj.mp
    rw [dv_int hr0 (by decide), hr, t1]
    have h2 := rem_nn (m := 10) ht
    rw [t10] at h2
    rw [i32_add, h2, t48]
    · omega
    · rw [h2, t48]; omega
    · rw [h2, t48]; omega
def dcL (t : Int32) : List Int32 := dgs (t / 1000) ++ (46 :: d3 (t - t / 1000 * 1000))
theorem q_addDecimal {S0 S : GS} {tx rw : Nat} {L : List Int32} {t : Int32} {Q : GS → Prop} (ht : 0 ≤ t.toInt) (h : Tx S0 S tx rw L) (hl : L.length + (dcL t).length ≤ 72) (hQ : ∀ S2, Tx S0 S2 tx rw (L ++ dcL t) → Q S2) : wX6_addDecimal S tx t Q := by
  have hq0 : 0 ≤ (t / 1000).toInt := by rw [div_nn ht (by decide), t1000]; omega
  have hr := rem_nn (m := 1000) ht
  rw [t1000] at hr
  have hr0 : 0 ≤ (t - t / 1000 * 1000).toInt := by rw [hr]; omega
  obtain ⟨s1, s2, s3⟩ := sub3 ht
  have hl2 : L.length + (dgs (t / 1000)).length + 4 ≤ 72 := by
    simp only [dcL, d3, List.length_append, List.length_cons, List.length_nil] at hl
    omega
  unfold wX6_addDecimal
  rw [s1, s2, s3, i2c (dv_ch hr0 (by decide)), i2c (dv_ch hr0 (by decide)), i2c (dv_ch hr0 (by decide))]
  refine ⟨h.pl.1, h.pl.2.1, q_addNumber hq0 h (by omega) (fun S3 h3 _ => q_add h3 (by simp only [List.length_append]; omega) (by decide) (fun S4 h4 _ => q_add h4 (by simp only [List.length_append, List.length_cons, List.length_nil]; omega) (dv_ch hr0 (by decide)) (fun S5 h5 _ => q_add h5 (by simp only [List.length_append, List.length_cons, List.length_nil]; omega) (dv_ch hr0 (by decide)) (fun S6 h6 _ => q_add h6 (by simp only [List.length_append, List.length_cons, List.length_nil]; omega) (dv_ch hr0 (by decide)) (fun S7 h7 _ => hQ S7 (h7.eq ?_))))))⟩
  simp [dcL, d3]
def inM (x : Int32) : Bool := decide (x ≠ 0 ∧ x - x / 1024 * 1024 = 0)
def szL (x : Int32) : List Int32 := if inM x then dgs (x / 1024) ++ [77] else dgs x ++ [75]
theorem q_addSize {S0 S : GS} {tx rw : Nat} {L : List Int32} {x : Int32} {Q : GS → Prop} (hx : 0 ≤ x.toInt) (h : Tx S0 S tx rw L) (hl : L.length + (szL x).length ≤ 72) (hQ : ∀ S2, Tx S0 S2 tx rw (L ++ szL x) → Q S2) : wX6_addSize S tx x Q := by
  have hK : inM x = false → wX6_addSize_16 Q tx x S := by
    intro hm
    unfold szL at hl hQ
    rw [hm] at hl hQ
    simp only [Bool.false_eq_true, if_false, List.length_append, List.length_cons, List.length_nil] at hl hQ
    unfold wX6_addSize_16 wX6_addSize_17 wX6_addSize_32 wX6_addSize_47
    refine ⟨fun _ => ⟨h.pl.1, h.pl.2.1, q_addNumber hx h (by omega) (fun S2 h2 _ => ⟨fun _ => ⟨h2.pl.1, h2.pl.2.1, q_add h2 (by rw [List.length_append]; omega) (by decide) (fun S3 h3 _ => hQ S3 (h3.eq (by simp)))⟩, fun a => absurd rfl a⟩)⟩, fun a => absurd rfl a⟩
  unfold wX6_addSize
  refine ⟨fun a => hK ?_, fun a => ⟨fun b => hK ?_, fun b => ?_⟩⟩
  · simp [inM, a]
  · simp [inM, b]
  · have hm : inM x = true := by simp only [inM, decide_eq_true_eq]; exact ⟨a, b⟩
    unfold szL at hl hQ
    rw [hm] at hl hQ
    simp only [if_true, List.length_append, List.length_cons, List.length_nil] at hl hQ
    have hq : 0 ≤ (x / 1024).toInt := by
      rw [div_nn hx (by decide)]
      have : (1024 : Int32).toInt = 1024 := by decide
      rw [this]; omega
    unfold wX6_addSize_17 wX6_addSize_32 wX6_addSize_47
    refine ⟨fun c => absurd c (by decide), fun _ => ⟨h.pl.1, h.pl.2.1, q_addNumber hq h (by omega) (fun S2 h2 _ => ⟨fun c => absurd c (by decide), fun _ => ⟨h2.pl.1, h2.pl.2.1, q_add h2 (by rw [List.length_append]; omega) (by decide) (fun S3 h3 _ => hQ S3 (h3.eq (by simp)))⟩⟩)⟩⟩
