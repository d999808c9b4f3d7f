theorem getD_app3 {N M : List Int32} (h : N.length = 3) (i : Nat) : (N ++ M).getD (3 + i) 0 = M.getD i 0 := by
  simp only [List.getD_eq_getElem?_getD]
  rw [List.getElem?_append_right (by omega)]
  congr 2
  omega
theorem getD_app0 {N M : List Int32} (h : N.length = 3) (i : Nat) (hi : i < 3) : (N ++ M).getD i 0 = N.getD i 0 := by
  simp only [List.getD_eq_getElem?_getD]
  rw [List.getElem?_append_left (by omega)]
theorem fSz_app {N M : List Int32} (h : N.length = 3) (j : Nat) : fSz (N ++ M) j = if M.getD (2 * j + 1) 0 = 1 then 1024 * M.getD (2 * j) 0 else M.getD (2 * j) 0 := by
  unfold fSz
  rw [show 3 + 2 * j + 1 = 3 + (2 * j + 1) by omega, getD_app3 h, getD_app3 h]
theorem fTk1_app {N M : List Int32} (h : N.length = 3) : fTk 1 (N ++ M) = 1000 * M.getD 6 0 + M.getD 7 0 := by
  unfold fTk
  rw [if_pos rfl, show 9 = 3 + 6 by rfl, show 10 = 3 + 7 by rfl, getD_app3 h, getD_app3 h]
theorem fTk5_app {N M : List Int32} (h : N.length = 3) : fTk 5 (N ++ M) = 1000 * M.getD 0 0 + M.getD 1 0 := by
  unfold fTk
  rw [if_neg (by omega), if_pos rfl]
  show 1000 * (N ++ M).getD (3 + 0) 0 + (N ++ M).getD (3 + 1) 0 = _
  rw [getD_app3 h, getD_app3 h]
def Ef (T : Nat → Int32) (n s k c : Nat) (e : Nat → Int32) : Prop := rok T n (mld s k c) = true → ((s = 1 ∨ s = 2 ∨ s = 3) → e 5 = fSz (rnm T n (mld s k c)) 0 ∧ e 6 = fSz (rnm T n (mld s k c)) 1) ∧ (s = 1 → e 7 = fSz (rnm T n (mld s k c)) 2) ∧ ((s = 1 ∨ s = 5) → e 8 = fTk s (rnm T n (mld s k c)))
theorem cn_mHP (k c : Nat) : cn (mH ++ mP k c) = 3 := by
  have hk : k = 0 ∨ k = 1 ∨ 2 ≤ k := by omega
  have hc : c = 0 ∨ c = 1 ∨ 2 ≤ c := by omega
  have e2 : ∀ k, 2 ≤ k → mK k = mK 2 := by
    intro k h
    obtain ⟨j, rfl⟩ : ∃ j, k = j + 2 := ⟨k - 2, by omega⟩
    rfl
  have c2 : ∀ k, 2 ≤ k → mC k = mC 2 := by
    intro k h
    obtain ⟨j, rfl⟩ : ∃ j, k = j + 2 := ⟨k - 2, by omega⟩
    rfl
  rcases hk with a | a | a <;> rcases hc with b | b | b
  all_goals first | subst a | skip
  all_goals first | subst b | skip
  all_goals unfold mP
  all_goals first | rw [e2 _ (by assumption)] | skip
  all_goals first | rw [c2 _ (by assumption)] | skip
  all_goals decide +kernel
theorem mld1_eq (k c : Nat) : mld 1 k c = mH ++ mP k c ++ [32] ++ mAr ++ [40] ++ mSz ++ [41, 32] ++ mTk := by simp [mld, mT, mE]
theorem q_restPause {S0 S : GS} {rq n k c : Nat} {e : Nat → Int32} {Q : GS → Prop} (h : Rr S0 S rq n (mH ++ mP k c) e) (hQ : ∀ S2 s e2, s ≤ 1 → (s = 0 ↔ rto (gX S0 2) n (mH ++ mP k c) = n) → Rr S0 S2 rq n (mld s k c) e2 → e2 0 = nI s → e2 1 = e 1 → e2 2 = e 2 → e2 3 = e 3 → e2 4 = e 4 → Ef (gX S0 2) n s k c e2 → Q S2) : wX4_readRestOfPause S rq 5 Q := by
  refine ⟨h.rd.1, h.rd.2, q_atEnd h (fun _ => ?_)⟩
  by_cases hto : rto (gX S0 2) n (mH ++ mP k c) = n
  · rw [if_pos hto]
    refine ⟨fun a => absurd a (by decide), fun _ => ⟨fn_5 h.fix, fk_5 h.fix, fun S62 e62 => ?_⟩⟩
    have h62 := h.put 0 0
    rw [← e62] at h62
    refine hQ S62 0 _ (by omega) ⟨fun _ => hto, fun _ => rfl⟩ (h62.eq (by simp [mld, mT])) ?_ rfl rfl rfl rfl ?_
    · simp [eu] <;> decide
    · intro _
      exact ⟨fun a => absurd a (by omega), fun a => absurd a (by omega), fun a => absurd a (by omega)⟩
  · rw [if_neg hto]
    refine ⟨fun _ => ⟨fn_5 h.fix, fk_5 h.fix, fun S9 e9 => ?_⟩, fun a => absurd rfl a⟩
    have h9 := h.put 0 1
    rw [← e9] at h9
    refine q_passw 44 [32] (by decide) (by decide +kernel) h9 (fun S14 h14 _ => q_readSizes h14 (fun S20 v w h20 hn20 _ => q_passw 46 [40] (by decide) (by decide +kernel) h20 (fun S26 h26 _ => q_size h26 (fun S32 x h32 hn32 _ S38 e38 => ?_))))
    have h38 := h32.put 7 x
    rw [← e38] at h38
    refine q_passw 37 [41, 32] (by decide) (by decide +kernel) h38 (fun S43 h43 _ => q_took h43 (fun S49 y h49 hn49 _ S55 e55 => ?_))
    have h55 := h49.put 8 y
    rw [← e55] at h55
    rw [← mld1_eq] at h55 hn49
    refine hQ S55 1 _ (by omega) ⟨fun a => absurd a (by omega), fun a => absurd a hto⟩ h55 ?_ rfl rfl rfl rfl ?_
    · simp [eu] <;> decide
    · intro hok
      obtain ⟨a8, b8, m1, m2⟩ := hn49 hok
      rw [mld1_eq] at hok
      have o1 := r_pre hok
      have o2 := r_pre o1
      obtain ⟨a7, u7, m3, m4⟩ := hn32 o2
      have o3 := r_pre o2
      have o4 := r_pre o3
      obtain ⟨a5, u5, a6, u6, m5, m6, m7⟩ := hn20 o4
      have o5 := r_pre o4
      have o6 := r_pre o5
      have n3 := rnm_len o6
      rw [cn_mHP] at n3
      have hns : rnm (gX S0 2) n (mld 1 k c) = rnm (gX S0 2) n (mH ++ mP k c) ++ [a5, u5, a6, u6, a7, u7, a8, b8] := by
        rw [m1, rnm_word [41, 32] _ (by decide) o1, m3, rnm_word [40] _ (by decide) o3, m5, rnm_word [32] _ (by decide) o5]
        simp
      rw [hns]
      refine ⟨fun _ => ⟨?_, ?_⟩, fun _ => ?_, fun _ => ?_⟩
      · have : eu (eu (eu (eu (eu e 0 1) 5 v) 6 w) 7 x) 8 y 5 = v := by simp [eu]
        rw [this, m6, fSz_app n3]
        rfl
      · have : eu (eu (eu (eu (eu e 0 1) 5 v) 6 w) 7 x) 8 y 6 = w := by simp [eu]
        rw [this, m7, fSz_app n3]
        rfl
      · have : eu (eu (eu (eu (eu e 0 1) 5 v) 6 w) 7 x) 8 y 7 = x := by simp [eu]
        rw [this, m4, fSz_app n3]
        rfl
      · have : eu (eu (eu (eu (eu e 0 1) 5 v) 6 w) 7 x) 8 y 8 = y := by simp [eu]
        rw [this, m2, fTk1_app n3]
        rfl
theorem cn_mHM : cn (mH ++ mM) = 3 := by decide +kernel
theorem q_restMark {S0 S : GS} {rq n : Nat} {e : Nat → Int32} {Q : GS → Prop} (h : Rr S0 S rq n (mH ++ mM) e) (hQ : ∀ S2 s e2, 4 ≤ s → s ≤ 6 → (s = 4 ↔ rto (gX S0 2) n (mH ++ mM) = n) → (5 ≤ s → (s = 6 ↔ gt (gX S0 2) n (rto (gX S0 2) n (mH ++ (mM ++ [32]))) = 65)) → Rr S0 S2 rq n (mld s 0 0) e2 → e2 0 = nI s → e2 3 = e 3 → e2 4 = e 4 → Ef (gX S0 2) n s 0 0 e2 → Q S2) : wX4_readRestOfMark S rq 5 Q := by
  refine ⟨h.rd.1, h.rd.2, q_atEnd h (fun _ => ?_)⟩
  by_cases hto : rto (gX S0 2) n (mH ++ mM) = n
  · rw [if_pos hto]
    refine ⟨fun a => absurd a (by decide), fun _ => ⟨fn_5 h.fix, fk_5 h.fix, fun S62 e62 => ?_⟩⟩
    have h62 := h.put 0 4
    rw [← e62] at h62
    refine hQ S62 4 _ (by omega) (by omega) ⟨fun _ => hto, fun _ => rfl⟩ (fun a => absurd a (by omega)) (h62.eq (by simp [mld, mT])) ?_ rfl rfl ?_
    · simp [eu] <;> decide
    · intro _
      exact ⟨fun a => absurd a (by omega), fun a => absurd a (by omega), fun a => absurd a (by omega)⟩
  · rw [if_neg hto]
    refine ⟨fun _ => ?_, fun a => absurd rfl a⟩
    refine q_passw 44 [32] (by decide) (by decide +kernel) h (fun S7 h7 _ => ⟨1, h7.tx, fn_1 h7.fix, fk_1 h7.fix, q_getr h7 (fun _ => ⟨fun hg => ⟨fn_5 h7.fix, fk_5 h7.fix, fun S23 e23 => ?_⟩, fun hg => ?_⟩)⟩)
    · have h23 := h7.put 0 5
      rw [← e23] at h23
      refine q_took h23 (fun S30 y h30 hn30 _ S38 e38 => ?_)
      have h38 := h30.put 8 y
      rw [← e38] at h38
      have eL : mH ++ mM ++ [32] ++ mTk = mld 5 0 0 := by simp [mld, mT]
      rw [eL] at h38 hn30
      rw [List.append_assoc] at hg
      refine hQ S38 5 _ (by omega) (by omega) ⟨fun a => absurd a (by omega), fun a => absurd a hto⟩ (fun _ => ⟨fun a => absurd a (by omega), fun a => absurd a hg⟩) h38 ?_ rfl rfl ?_
      · simp [eu] <;> decide
      · intro hok
        refine ⟨fun a => absurd a (by omega), fun a => absurd a (by omega), fun _ => ?_⟩
        obtain ⟨a, b, m1, m2⟩ := hn30 hok
        rw [← eL] at hok
        have o1 := r_pre hok
        have o2 := r_pre o1
        have n3 := rnm_len o2
        rw [cn_mHM] at n3
        rw [m1, rnm_word [32] _ (by decide) o1]
        have : eu (eu e 0 5) 8 y 8 = y := by simp [eu]
        rw [this, m2, fTk5_app n3]
        rfl
    · refine q_passw 45 mA (by decide) (by decide +kernel) h7 (fun S45 h45 _ => ⟨fn_5 h45.fix, fk_5 h45.fix, fun S53 e53 => ?_⟩)
      have h53 := h45.put 0 6
      rw [← e53] at h53
      rw [List.append_assoc] at hg
      refine hQ S53 6 _ (by omega) (by omega) ⟨fun a => absurd a (by omega), fun a => absurd a hto⟩ (fun _ => ⟨fun _ => hg, fun _ => rfl⟩) (h53.eq (by simp [mld, mT])) ?_ rfl rfl ?_
      · simp [eu] <;> decide
      · intro _
        exact ⟨fun a => absurd a (by omega), fun a => absurd a (by omega), fun a => absurd a (by omega)⟩
theorem cn_mHs (W : List Int32) (h : cn (mH ++ W) = 3) {T : Nat → Int32} {n : Nat} (ho : rok T n (mH ++ W) = true) : (rnm T n (mH ++ W)).length = 3 := by rw [rnm_len ho, h]
theorem q_sizesMsg {S0 S : GS} {rq n s : Nat} {W : List Int32} {e : Nat → Int32} {Q : GS → Prop} (hs : s = 2 ∨ s = 3) (hW : mld s 0 0 = mH ++ W ++ mAr) (hcn : cn (mH ++ W) = 3) (h : Rr S0 S rq n (mH ++ W) e) {v0 : Int32} (hv0 : v0 = nI s) {S21 : GS} (e21 : S21 = sX S 5 0 v0) (hQ : ∀ S2 e2, Rr S0 S2 rq n (mld s 0 0) e2 → e2 0 = nI s → e2 3 = e 3 → e2 4 = e 4 → Ef (gX S0 2) n s 0 0 e2 → Q S2) : wX4_readSizes S21 rq 5 Q := by
  rw [hv0] at e21
  have h21 := h.put 0 (nI s)
  rw [← e21] at h21
  refine q_readSizes h21 (fun S2 v w h2 hn2 => ?_)
  rw [← hW] at h2 hn2
  refine hQ S2 _ h2 ?_ rfl rfl ?_
  · simp [eu]
  · intro hok
    refine ⟨fun _ => ?_, fun a => absurd a (by omega), fun a => absurd a (by omega)⟩
    obtain ⟨a5, u5, a6, u6, m5, m6, m7⟩ := hn2 hok
    rw [hW] at hok
    have n3 := cn_mHs W hcn (r_pre hok)
    rw [m5]
    refine ⟨?_, ?_⟩
    · have : eu (eu (eu e 0 (nI s)) 5 v) 6 w 5 = v := by simp [eu]
      rw [this, m6, fSz_app n3]
      rfl
    · have : eu (eu (eu e 0 (nI s)) 5 v) 6 w 6 = w := by simp [eu]
      rw [this, m7, fSz_app n3]
      rfl
/-- what the class has read: the reader stands where the mould of its choice leads -/
theorem q_readMessage {S0 S : GS} {rq n : Nat} {e : Nat → Int32} {Q : GS → Prop} (h : Rr S0 S rq n mH e) (hQ : ∀ S2 s k c e2, vld s k c → Sel (gX S0 2) n s k c → Rr S0 S2 rq n (mld s k c) e2 → e2 0 = nI s → (s ≤ 1 → e2 1 = nI k ∧ e2 2 = nI c) → e2 3 = e 3 → e2 4 = e 4 → Ef (gX S0 2) n s k c e2 → Q S2) : wX4_readMessage S rq 5 Q := by
  unfold wX4_readMessage wX4_readMessage_135
  refine ⟨h.rd.1, h.rd.2, 1, h.tx, fn_1 h.fix, fk_1 h.fix, q_getr h (fun _ => ⟨fun hg => ?_, fun hg => ?_, fun hg => ?_, fun g1 g2 g3 => ?_⟩)⟩
  · refine q_passw 38 [69, 100, 101, 110, 32] (by decide) (by decide +kernel) h (fun S13 h13 _ => ⟨fn_5 h13.fix, fk_5 h13.fix, fun S21 e21 => ?_⟩)
    refine q_sizesMsg (s := 2) (Or.inl rfl) (by simp [mld, mT]) (by decide +kernel) h13 (by decide) e21 (fun S2 e2 h2 b0 b3 b4 hE _ => hQ S2 2 0 0 e2 (Or.inr (by omega)) ?_ h2 b0 (fun a => absurd a (by omega)) b3 b4 hE)
    refine ⟨fun _ => ⟨⟨fun _ => hg, fun _ => rfl⟩, ⟨fun a => absurd a (by omega), fun a => ?_⟩, ⟨fun a => absurd a (by omega), fun a => ?_⟩⟩, fun a => absurd a (by omega), fun a => absurd a (by omega), fun a => absurd a (by omega), fun a => absurd a (by omega), fun a => absurd a (by omega)⟩
    · rw [hg] at a; exact absurd a (by decide)
    · rw [hg] at a; exact absurd a (by decide)
  · refine q_passw 40 mM (by decide) (by decide +kernel) h (fun S36 h36 _ => q_restMark h36 (fun S2 s e2 s4 s6 c4 c6 h2 b0 b3 b4 hE _ => hQ S2 s 0 0 e2 (Or.inr (by omega)) ?_ h2 b0 (fun a => absurd a (by omega)) b3 b4 hE))
    refine ⟨fun _ => ⟨⟨fun a => absurd a (by omega), fun a => ?_⟩, ⟨fun a => absurd a (by omega), fun a => ?_⟩, ⟨fun _ => hg, fun _ => s4⟩⟩, fun a => absurd a (by omega), fun a => absurd a (by omega), fun a => absurd a (by omega), fun _ _ => c4, fun a _ => c6 a⟩
    · rw [hg] at a; exact absurd a (by decide)
    · rw [hg] at a; exact absurd a (by decide)
  · refine q_passw 39 [79, 108, 100, 32] (by decide) (by decide +kernel) h (fun S13 h13 _ => ⟨fn_5 h13.fix, fk_5 h13.fix, fun S21 e21 => ?_⟩)
    refine q_sizesMsg (s := 3) (Or.inr rfl) (by simp [mld, mT]) (by decide +kernel) h13 (by decide) e21 (fun S2 e2 h2 b0 b3 b4 hE _ => hQ S2 3 0 0 e2 (Or.inr (by omega)) ?_ h2 b0 (fun a => absurd a (by omega)) b3 b4 hE)
    refine ⟨fun _ => ⟨⟨fun a => absurd a (by omega), fun a => ?_⟩, ⟨fun _ => hg, fun _ => rfl⟩, ⟨fun a => absurd a (by omega), fun a => ?_⟩⟩, fun a => absurd a (by omega), fun a => absurd a (by omega), fun a => absurd a (by omega), fun a => absurd a (by omega), fun a => absurd a (by omega)⟩
    · rw [hg] at a; exact absurd a (by decide)
    · rw [hg] at a; exact absurd a (by decide)
  · refine q_passw 41 mW (by decide) (by decide +kernel) h (fun S71 h71 _ => q_kind h71 (fun S77 k hk k1 k2 h77 _ => ⟨fn_5 h77.fix, fk_5 h77.fix, fun S85 e85 => ?_⟩))
    have h85 := h77.put 1 (nI k)
    rw [← e85] at h85
    refine q_passw 42 [32, 40] (by decide) (by decide +kernel) h85 (fun S92 h92 _ => q_cause h92 (fun S100 c hc c1 c2 h100 _ S108 e108 => ?_))
    have h108 := h100.put 2 (nI c)
    rw [← e108] at h108
    refine q_passw 43 [41] (by decide) (by decide +kernel) h108 (fun S115 h115 _ => ?_)
    have eP : mH ++ mW ++ mK k ++ [32, 40] ++ mC c ++ [41] = mH ++ mP k c := by simp [mP]
    have eC : mH ++ mW ++ mK k ++ [32, 40] = mH ++ (mW ++ (mK k ++ [32, 40])) := by simp
    rw [eC] at c1 c2
    refine q_restPause (h115.eq eP) (fun S2 s e2 s1 c0 h2 b0 b1 b2 b3 b4 hE _ => hQ S2 s k c e2 (Or.inl ⟨s1, hk, hc⟩) ?_ h2 b0 (fun _ => ⟨?_, ?_⟩) ?_ ?_ hE)
    · refine ⟨fun _ => ⟨⟨fun a => absurd a (by omega), fun a => absurd a g1⟩, ⟨fun a => absurd a (by omega), fun a => absurd a g3⟩, ⟨fun a => absurd a (by omega), fun a => absurd a g2⟩⟩, fun _ _ => ⟨k1, k2⟩, fun _ _ => ⟨c1, c2⟩, fun _ _ => c0, fun a => absurd a (by omega), fun a => absurd a (by omega)⟩
    · rw [b1]; simp [eu]
    · rw [b2]; simp [eu]
    · rw [b3]; simp [eu]
    · rw [b4]; simp [eu]
theorem q_readHead {S0 S : GS} {rq n : Nat} {e : Nat → Int32} {Q : GS → Prop} (h : Rr S0 S rq n [] e) (hQ : ∀ S2 e2, Rr S0 S2 rq n mH e2 → (rok (gX S0 2) n mH = true → e2 4 = fTm (rnm (gX S0 2) n mH) ∧ e2 3 = fId (rnm (gX S0 2) n mH)) → Q S2) : wX4_readHead S rq 5 Q := by
  have e5 : (5 : Int32) = nI 5 := by decide
  have e3 : (3 : Int32) = nI 3 := by decide
  have e205 : nI (200 + 5) = 205 := by decide
  have e203 : nI (200 + 3) = 203 := by decide
  refine ⟨h.rd.1, h.rd.2, q_passw 35 [91] (by decide) (by decide +kernel) h (fun S3 h3 _ => ?_)⟩
  rw [e5]
  refine q_decimal 5 (by omega) (by omega) h3 (fun S7 v h7 hn7 _ => ⟨fn_5 h7.fix, fk_5 h7.fix, fun S13 e13 => ?_⟩)
  have h13 := h7.put 4 v
  rw [← e13] at h13
  refine q_passw 36 [115, 93, 71, 67, 40] (by decide) (by decide +kernel) h13 (fun S18 h18 _ => ?_)
  rw [e3]
  refine q_number 3 (by omega) (by omega) h18 (fun S24 w h24 hn24 _ S30 e30 => ?_)
  have h30 := h24.put 3 w
  rw [← e30] at h30
  refine q_passw 37 [41, 32] (by decide) (by decide +kernel) h30 (fun S35 h35 _ => ?_)
  rw [e203] at h35 hn24
  rw [e205] at h35 hn24 hn7
  have eP : [] ++ [91] ++ [205, 46, 300] ++ [115, 93, 71, 67, 40] ++ [203] ++ [41, 32] = mH := rfl
  rw [eP] at h35
  refine hQ S35 _ h35 (fun hok => ?_)
  rw [← eP] at hok ⊢
  have o1 := r_pre hok
  have o2 := r_pre o1
  have o3 := r_pre o2
  have o4 := r_pre o3
  obtain ⟨a, b, m1, m2⟩ := hn7 o3
  have m3 := hn24 o1
  have m0 : rnm (gX S0 2) n ([] ++ [91]) = [] := by
    rw [rnm_word [91] [] (by decide) o4]
    rfl
  rw [rnm_word [41, 32] _ (by decide) hok, m3, rnm_word [115, 93, 71, 67, 40] _ (by decide) o2, m1, m0]
  refine ⟨?_, ?_⟩
  · have : eu (eu e 4 v) 3 w 4 = v := by simp [eu]
    rw [this, m2]
    rfl
  · have : eu (eu e 4 v) 3 w 3 = w := by simp [eu]
    rw [this]
    rfl
