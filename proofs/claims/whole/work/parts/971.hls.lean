/-! THE LAW'S HELPERS (laid by gen971.py). -/
theorem vp01 : vp_in (0 : Int32) 1 := nj_in (k := 0) (by omega) (by omega)
set_option maxHeartbeats 4000000 in
set_option maxRecDepth 100000 in
theorem tL_drop (l : Launch) (hst : l.stackTraces = false) (S : GS) (hF : Fix S) (x1 : Int32) (Q8 : Int32 → GS → Prop) (X8 : String → GS → Prop) (h : wX8_drop S 0 x1 Q8 X8) (hX : ∀ E S1, X8 E S1 → E = "java/lang/IllegalArgumentException") : CH l yL_drop wsL_drop 7 S (gA [vR (some 0), vI x1, vR (some 37)]) (hP S kpI Q8 X8 "java/lang/IllegalArgumentException" "") := by
  refine CH.ofW (cc := cL_drop) (maxL := 4) (ret := (some .int)) (hh := [(0, 9, 12, 13)]) RL (by decide) rfl rfl (fun _ _ _ => Nat.le_of_ble_eq_true rfl) ?_
  intro p e s m args below meth c D Y za zv ad A ls hAe hx hb hr hml htab hts hown hlocks hK hZ hA hG hl
  have hl : lv_has ls 4 [(0, .ref (ad 0)), (1, .int x1), (2, .ref (ad 37))] := hl
  refine lv_aload_n hx hb dL_drop_0 rfl (lv_at hl 2 rfl) ?_
  refine lv_iconst (v := 0) hx hb dL_drop_1 (by decide) ?_
  refine lv_aload_n hx hb dL_drop_2 rfl (lv_at hl 0 rfl) ?_
  refine lv_iload_n hx hb dL_drop_3 rfl (lv_at hl 1 rfl) ?_
  refine x_callV (As := [.int x1]) (rest := [.int 0, .ref (ad 37)]) (tX8_drop l hst S 0 x1 Q8 X8 h) rfl ⟨hx, hb, hml, hown, hts⟩ (cwV 1 hts gL_drop_X8_drop rfl rfl rfl (by decide +kernel) ⟨by decide, by decide⟩) hK hZ hG hA (va_recv hK hG.1 (ci := 8) (q := (RX8, TX8, 12)) rfl (wl_get (fn_0 hF) (cell_8 (fk_0 hF)))) rfl hl.1 rfl (Nat.le_of_ble_eq_true rfl) ⟨by decide, by decide⟩ dL_drop_4 (fun E ce q9 S1 H locs hxE hsh hG hce hcv hcl => ?_) (fun r_9 S1 H locs hp hsh hG => ?_)
  · have eE := hX E S1 hxE
    subst eE
    refine vx_catch (own := RL) (name := "java/lang/IllegalArgumentException") hown [] ⟨0, 9, 12, 13⟩ [] htab (fun _ h => absurd h List.not_mem_nil) (by decide) (by decide) (hts (.classLink RL 13 "java/lang/IllegalArgumentException") (by decide +kernel)) (va_Nw.use (zBad_ot (.castable "java/lang/IllegalArgumentException" "java/lang/IllegalArgumentException") (by decide)) (hZ.2.2.2.2.2.2.2.1 (.castable "java/lang/IllegalArgumentException" "java/lang/IllegalArgumentException") (by decide))) hce hcv hcl ?_
    refine lv_astore_n (lv' := [(3, .ref q9), (0, .ref (ad 0)), (1, .int x1), (2, .ref (ad 37))]) hx hb dL_drop_12 rfl hl (by decide) rfl (fun ls hl => ?_)
    refine lv_iconst (v := 1) hx hb dL_drop_13 (by decide) ?_
    exact W.iret (v := 1) hx hb hr (fun t ht hW => r_end (r := some (vI 1)) hAe hG hsh (Or.inr (Or.inl ⟨rfl, hxE⟩)) rfl ht) hG.2.2.2.2 dL_drop_14
  · obtain ⟨v, rfl, hq⟩ := hp
    refine W.eq (g2 := F0 m 7 ls [.int v, .int 0, .ref (ad 37)]) rfl ?_
    refine lv_i2l hx hb dL_drop_7 rfl ?_
    have hlen : gL S1 37 = 1 := by rw [hsh.2.2]; exact fl_37 hF
    refine r_last hx hb hK hG (hsh.lt (fn_37 hF)) (hsh.kd (fk_37 hF)) (i := 0) (by rw [hlen]; exact vp01) dL_drop_8 (fun H locs hG => ?_)
    refine lv_goto (tgt := 15) hx hb dL_drop_9 (by decide) ?_
    refine lv_iconst (v := 0) hx hb dL_drop_15 (by decide) ?_
    exact W.iret (v := 0) hx hb hr (fun t ht hW => r_end (r := some (vI 0)) hAe hG ((gSh.z _ _ _ _).tr hsh) (Or.inl ⟨rfl, v, S1, hq, hsh, rfl⟩) rfl ht) hG.2.2.2.2 dL_drop_16
set_option maxHeartbeats 4000000 in
set_option maxRecDepth 100000 in
theorem tL_write (l : Launch) (hst : l.stackTraces = false) (S : GS) (hF : Fix S) (x1 : Int32) (x2 : Int32) (x3 : Int32) (x4 : Int32) (x5 : Int32) (x6 : Int32) (x7 : Int32) (Q8 : Int32 → GS → Prop) (X8 : String → GS → Prop) (h : wX8_write S 0 x1 x2 x3 x4 x5 x6 x7 Q8 X8) (hX : ∀ E S1, X8 E S1 → E = "java/lang/IllegalArgumentException") : CH l yL_write wsL_write 9 S (gA [vR (some 0), vI x1, vI x2, vI x3, vI x4, vI x5, vI x6, vI x7, vR (some 37)]) (hP S kpI Q8 X8 "java/lang/IllegalArgumentException" "") := by
  refine CH.ofW (cc := cL_write) (maxL := 10) (ret := (some .int)) (hh := [(0, 20, 23, 13)]) RL (by decide) rfl rfl (fun _ _ _ => Nat.le_of_ble_eq_true rfl) ?_
  intro p e s m args below meth c D Y za zv ad A ls hAe hx hb hr hml htab hts hown hlocks hK hZ hA hG hl
  have hl : lv_has ls 10 [(0, .ref (ad 0)), (1, .int x1), (2, .int x2), (3, .int x3), (4, .int x4), (5, .int x5), (6, .int x6), (7, .int x7), (8, .ref (ad 37))] := hl
  refine lv_aload hx hb dL_write_0 (lv_at hl 8 rfl) ?_
  refine lv_iconst (v := 0) hx hb dL_write_2 (by decide) ?_
  refine lv_aload_n hx hb dL_write_3 rfl (lv_at hl 0 rfl) ?_
  refine lv_iload_n hx hb dL_write_4 rfl (lv_at hl 1 rfl) ?_
  refine lv_iload_n hx hb dL_write_5 rfl (lv_at hl 2 rfl) ?_
  refine lv_iload_n hx hb dL_write_6 rfl (lv_at hl 3 rfl) ?_
  refine lv_iload hx hb dL_write_7 (lv_at hl 4 rfl) ?_
  refine lv_iload hx hb dL_write_9 (lv_at hl 5 rfl) ?_
  refine lv_iload hx hb dL_write_11 (lv_at hl 6 rfl) ?_
  refine lv_iload hx hb dL_write_13 (lv_at hl 7 rfl) ?_
  refine x_callV (As := [.int x1, .int x2, .int x3, .int x4, .int x5, .int x6, .int x7]) (rest := [.int 0, .ref (ad 37)]) (tX8_write l hst S 0 x1 x2 x3 x4 x5 x6 x7 Q8 X8 h) rfl ⟨hx, hb, hml, hown, hts⟩ (cwV 7 hts gL_write_X8_write rfl rfl rfl (by decide +kernel) ⟨by decide, by decide⟩) hK hZ hG hA (va_recv hK hG.1 (ci := 8) (q := (RX8, TX8, 12)) rfl (wl_get (fn_0 hF) (cell_8 (fk_0 hF)))) rfl hl.1 rfl (Nat.le_of_ble_eq_true rfl) ⟨by decide, by decide⟩ dL_write_15 (fun E ce q9 S1 H locs hxE hsh hG hce hcv hcl => ?_) (fun r_9 S1 H locs hp hsh hG => ?_)
  · have eE := hX E S1 hxE
    subst eE
    refine vx_catch (own := RL) (name := "java/lang/IllegalArgumentException") hown [] ⟨0, 20, 23, 13⟩ [] htab (fun _ h => absurd h List.not_mem_nil) (by decide) (by decide) (hts (.classLink RL 13 "java/lang/IllegalArgumentException") (by decide +kernel)) (va_Nw.use (zBad_ot (.castable "java/lang/IllegalArgumentException" "java/lang/IllegalArgumentException") (by decide)) (hZ.2.2.2.2.2.2.2.1 (.castable "java/lang/IllegalArgumentException" "java/lang/IllegalArgumentException") (by decide))) hce hcv hcl ?_
    refine lv_astore (lv' := [(9, .ref q9), (0, .ref (ad 0)), (1, .int x1), (2, .int x2), (3, .int x3), (4, .int x4), (5, .int x5), (6, .int x6), (7, .int x7), (8, .ref (ad 37))]) hx hb dL_write_23 hl (by decide) rfl (fun ls hl => ?_)
    refine lv_iconst (v := 1) hx hb dL_write_25 (by decide) ?_
    exact W.iret (v := 1) hx hb hr (fun t ht hW => r_end (r := some (vI 1)) hAe hG hsh (Or.inr (Or.inl ⟨rfl, hxE⟩)) rfl ht) hG.2.2.2.2 dL_write_26
  · obtain ⟨v, rfl, hq⟩ := hp
    refine W.eq (g2 := F0 m 18 ls [.int v, .int 0, .ref (ad 37)]) rfl ?_
    refine lv_i2l hx hb dL_write_18 rfl ?_
    have hlen : gL S1 37 = 1 := by rw [hsh.2.2]; exact fl_37 hF
    refine r_last hx hb hK hG (hsh.lt (fn_37 hF)) (hsh.kd (fk_37 hF)) (i := 0) (by rw [hlen]; exact vp01) dL_write_19 (fun H locs hG => ?_)
    refine lv_goto (tgt := 27) hx hb dL_write_20 (by decide) ?_
    refine lv_iconst (v := 0) hx hb dL_write_27 (by decide) ?_
    exact W.iret (v := 0) hx hb hr (fun t ht hW => r_end (r := some (vI 0)) hAe hG ((gSh.z _ _ _ _).tr hsh) (Or.inl ⟨rfl, v, S1, hq, hsh, rfl⟩) rfl ht) hG.2.2.2.2 dL_write_28
set_option maxHeartbeats 4000000 in
set_option maxRecDepth 100000 in
theorem tL_event (l : Launch) (hst : l.stackTraces = false) (S : GS) (hF : Fix S) (x1 : Int32) (x2 : Int32) (Q8 : Int32 → GS → Prop) (X8 : String → GS → Prop) (h : wX8_event S 0 x1 x2 Q8 X8) (hX : ∀ E S1, X8 E S1 → E = "java/lang/IndexOutOfBoundsException") : CH l yL_event wsL_event 7 S (gA [vR (some 0), vI x1, vI x2, vR (some 37)]) (hP S kpI Q8 X8 "java/lang/IndexOutOfBoundsException" "") := by
  refine CH.ofW (cc := cL_event) (maxL := 5) (ret := (some .int)) (hh := [(0, 10, 13, 23)]) RL (by decide) rfl rfl (fun _ _ _ => Nat.le_of_ble_eq_true rfl) ?_
  intro p e s m args below meth c D Y za zv ad A ls hAe hx hb hr hml htab hts hown hlocks hK hZ hA hG hl
  have hl : lv_has ls 5 [(0, .ref (ad 0)), (1, .int x1), (2, .int x2), (3, .ref (ad 37))] := hl
  refine lv_aload_n hx hb dL_event_0 rfl (lv_at hl 3 rfl) ?_
  refine lv_iconst (v := 0) hx hb dL_event_1 (by decide) ?_
  refine lv_aload_n hx hb dL_event_2 rfl (lv_at hl 0 rfl) ?_
  refine lv_iload_n hx hb dL_event_3 rfl (lv_at hl 1 rfl) ?_
  refine lv_iload_n hx hb dL_event_4 rfl (lv_at hl 2 rfl) ?_
  refine x_callV (As := [.int x1, .int x2]) (rest := [.int 0, .ref (ad 37)]) (tX8_event l hst S 0 x1 x2 Q8 X8 h) rfl ⟨hx, hb, hml, hown, hts⟩ (cwV 2 hts gL_event_X8_event rfl rfl rfl (by decide +kernel) ⟨by decide, by decide⟩) hK hZ hG hA (va_recv hK hG.1 (ci := 8) (q := (RX8, TX8, 12)) rfl (wl_get (fn_0 hF) (cell_8 (fk_0 hF)))) rfl hl.1 rfl (Nat.le_of_ble_eq_true rfl) ⟨by decide, by decide⟩ dL_event_5 (fun E ce q9 S1 H locs hxE hsh hG hce hcv hcl => ?_) (fun r_9 S1 H locs hp hsh hG => ?_)
  · have eE := hX E S1 hxE
    subst eE
    refine vx_catch (own := RL) (name := "java/lang/IndexOutOfBoundsException") hown [] ⟨0, 10, 13, 23⟩ [] htab (fun _ h => absurd h List.not_mem_nil) (by decide) (by decide) (hts (.classLink RL 23 "java/lang/IndexOutOfBoundsException") (by decide +kernel)) (va_Nw.use (zBad_ot (.castable "java/lang/IndexOutOfBoundsException" "java/lang/IndexOutOfBoundsException") (by decide)) (hZ.2.2.2.2.2.2.2.1 (.castable "java/lang/IndexOutOfBoundsException" "java/lang/IndexOutOfBoundsException") (by decide))) hce hcv hcl ?_
    refine lv_astore (lv' := [(4, .ref q9), (0, .ref (ad 0)), (1, .int x1), (2, .int x2), (3, .ref (ad 37))]) hx hb dL_event_13 hl (by decide) rfl (fun ls hl => ?_)
    refine lv_iconst (v := 1) hx hb dL_event_15 (by decide) ?_
    exact W.iret (v := 1) hx hb hr (fun t ht hW => r_end (r := some (vI 1)) hAe hG hsh (Or.inr (Or.inl ⟨rfl, hxE⟩)) rfl ht) hG.2.2.2.2 dL_event_16
  · obtain ⟨v, rfl, hq⟩ := hp
    refine W.eq (g2 := F0 m 8 ls [.int v, .int 0, .ref (ad 37)]) rfl ?_
    refine lv_i2l hx hb dL_event_8 rfl ?_
    have hlen : gL S1 37 = 1 := by rw [hsh.2.2]; exact fl_37 hF
    refine r_last hx hb hK hG (hsh.lt (fn_37 hF)) (hsh.kd (fk_37 hF)) (i := 0) (by rw [hlen]; exact vp01) dL_event_9 (fun H locs hG => ?_)
    refine lv_goto (tgt := 17) hx hb dL_event_10 (by decide) ?_
    refine lv_iconst (v := 0) hx hb dL_event_17 (by decide) ?_
    exact W.iret (v := 0) hx hb hr (fun t ht hW => r_end (r := some (vI 0)) hAe hG ((gSh.z _ _ _ _).tr hsh) (Or.inl ⟨rfl, v, S1, hq, hsh, rfl⟩) rfl ht) hG.2.2.2.2 dL_event_18
set_option maxHeartbeats 4000000 in
set_option maxRecDepth 100000 in
theorem tL_shown (l : Launch) (hst : l.stackTraces = false) (S : GS) (hF : Fix S) (x1 : Int32) (x2 : Int32) (x3 : Int32) (Q8 : Int32 → GS → Prop) (X8 : String → GS → Prop) (h : wX8_shown S 0 x1 x2 x3 Q8 X8) (hX : ∀ E S1, X8 E S1 → E = "java/lang/IndexOutOfBoundsException") : CH l yL_shown wsL_shown 9 S (gA [vR (some 0), vI x1, vI x2, vI x3, vR (some 37)]) (hP S kpI Q8 X8 "java/lang/IndexOutOfBoundsException" "") := by
  refine CH.ofW (cc := cL_shown) (maxL := 6) (ret := (some .int)) (hh := [(0, 12, 15, 23)]) RL (by decide) rfl rfl (fun _ _ _ => Nat.le_of_ble_eq_true rfl) ?_
  intro p e s m args below meth c D Y za zv ad A ls hAe hx hb hr hml htab hts hown hlocks hK hZ hA hG hl
  have hl : lv_has ls 6 [(0, .ref (ad 0)), (1, .int x1), (2, .int x2), (3, .int x3), (4, .ref (ad 37))] := hl
  refine lv_aload hx hb dL_shown_0 (lv_at hl 4 rfl) ?_
  refine lv_iconst (v := 0) hx hb dL_shown_2 (by decide) ?_
  refine lv_aload_n hx hb dL_shown_3 rfl (lv_at hl 0 rfl) ?_
  refine lv_iload_n hx hb dL_shown_4 rfl (lv_at hl 1 rfl) ?_
  refine lv_iload_n hx hb dL_shown_5 rfl (lv_at hl 2 rfl) ?_
  refine lv_iload_n hx hb dL_shown_6 rfl (lv_at hl 3 rfl) ?_
  refine x_callV (As := [.int x1, .int x2, .int x3]) (rest := [.int 0, .ref (ad 37)]) (tX8_shown l hst S 0 x1 x2 x3 Q8 X8 h) rfl ⟨hx, hb, hml, hown, hts⟩ (cwV 3 hts gL_shown_X8_shown rfl rfl rfl (by decide +kernel) ⟨by decide, by decide⟩) hK hZ hG hA (va_recv hK hG.1 (ci := 8) (q := (RX8, TX8, 12)) rfl (wl_get (fn_0 hF) (cell_8 (fk_0 hF)))) rfl hl.1 rfl (Nat.le_of_ble_eq_true rfl) ⟨by decide, by decide⟩ dL_shown_7 (fun E ce q9 S1 H locs hxE hsh hG hce hcv hcl => ?_) (fun r_9 S1 H locs hp hsh hG => ?_)
  · have eE := hX E S1 hxE
    subst eE
    refine vx_catch (own := RL) (name := "java/lang/IndexOutOfBoundsException") hown [] ⟨0, 12, 15, 23⟩ [] htab (fun _ h => absurd h List.not_mem_nil) (by decide) (by decide) (hts (.classLink RL 23 "java/lang/IndexOutOfBoundsException") (by decide +kernel)) (va_Nw.use (zBad_ot (.castable "java/lang/IndexOutOfBoundsException" "java/lang/IndexOutOfBoundsException") (by decide)) (hZ.2.2.2.2.2.2.2.1 (.castable "java/lang/IndexOutOfBoundsException" "java/lang/IndexOutOfBoundsException") (by decide))) hce hcv hcl ?_
    refine lv_astore (lv' := [(5, .ref q9), (0, .ref (ad 0)), (1, .int x1), (2, .int x2), (3, .int x3), (4, .ref (ad 37))]) hx hb dL_shown_15 hl (by decide) rfl (fun ls hl => ?_)
    refine lv_iconst (v := 1) hx hb dL_shown_17 (by decide) ?_
    exact W.iret (v := 1) hx hb hr (fun t ht hW => r_end (r := some (vI 1)) hAe hG hsh (Or.inr (Or.inl ⟨rfl, hxE⟩)) rfl ht) hG.2.2.2.2 dL_shown_18
  · obtain ⟨v, rfl, hq⟩ := hp
    refine W.eq (g2 := F0 m 10 ls [.int v, .int 0, .ref (ad 37)]) rfl ?_
    refine lv_i2l hx hb dL_shown_10 rfl ?_
    have hlen : gL S1 37 = 1 := by rw [hsh.2.2]; exact fl_37 hF
    refine r_last hx hb hK hG (hsh.lt (fn_37 hF)) (hsh.kd (fk_37 hF)) (i := 0) (by rw [hlen]; exact vp01) dL_shown_11 (fun H locs hG => ?_)
    refine lv_goto (tgt := 19) hx hb dL_shown_12 (by decide) ?_
    refine lv_iconst (v := 0) hx hb dL_shown_19 (by decide) ?_
    exact W.iret (v := 0) hx hb hr (fun t ht hW => r_end (r := some (vI 0)) hAe hG ((gSh.z _ _ _ _).tr hsh) (Or.inl ⟨rfl, v, S1, hq, hsh, rfl⟩) rfl ht) hG.2.2.2.2 dL_shown_20
set_option maxHeartbeats 4000000 in
set_option maxRecDepth 100000 in
theorem tL_diagnostic (l : Launch) (hst : l.stackTraces = false) (S : GS) (hF : Fix S) (x1 : Int32) (x2 : Int32) (Q8 : Int32 → GS → Prop) (X8 : String → GS → Prop) (h : wX8_diagnostic S 0 x1 x2 Q8 X8) (hX : ∀ E S1, X8 E S1 → E = "java/lang/IndexOutOfBoundsException") : CH l yL_diagnostic wsL_diagnostic 7 S (gA [vR (some 0), vI x1, vI x2, vR (some 37)]) (hP S kpI Q8 X8 "java/lang/IndexOutOfBoundsException" "") := by
  refine CH.ofW (cc := cL_diagnostic) (maxL := 5) (ret := (some .int)) (hh := [(0, 10, 13, 23)]) RL (by decide) rfl rfl (fun _ _ _ => Nat.le_of_ble_eq_true rfl) ?_
  intro p e s m args below meth c D Y za zv ad A ls hAe hx hb hr hml htab hts hown hlocks hK hZ hA hG hl
  have hl : lv_has ls 5 [(0, .ref (ad 0)), (1, .int x1), (2, .int x2), (3, .ref (ad 37))] := hl
  refine lv_aload_n hx hb dL_diagnostic_0 rfl (lv_at hl 3 rfl) ?_
  refine lv_iconst (v := 0) hx hb dL_diagnostic_1 (by decide) ?_
  refine lv_aload_n hx hb dL_diagnostic_2 rfl (lv_at hl 0 rfl) ?_
  refine lv_iload_n hx hb dL_diagnostic_3 rfl (lv_at hl 1 rfl) ?_
  refine lv_iload_n hx hb dL_diagnostic_4 rfl (lv_at hl 2 rfl) ?_
  refine x_callV (As := [.int x1, .int x2]) (rest := [.int 0, .ref (ad 37)]) (tX8_diagnostic l hst S 0 x1 x2 Q8 X8 h) rfl ⟨hx, hb, hml, hown, hts⟩ (cwV 2 hts gL_diagnostic_X8_diagnostic rfl rfl rfl (by decide +kernel) ⟨by decide, by decide⟩) hK hZ hG hA (va_recv hK hG.1 (ci := 8) (q := (RX8, TX8, 12)) rfl (wl_get (fn_0 hF) (cell_8 (fk_0 hF)))) rfl hl.1 rfl (Nat.le_of_ble_eq_true rfl) ⟨by decide, by decide⟩ dL_diagnostic_5 (fun E ce q9 S1 H locs hxE hsh hG hce hcv hcl => ?_) (fun r_9 S1 H locs hp hsh hG => ?_)
  · have eE := hX E S1 hxE
    subst eE
    refine vx_catch (own := RL) (name := "java/lang/IndexOutOfBoundsException") hown [] ⟨0, 10, 13, 23⟩ [] htab (fun _ h => absurd h List.not_mem_nil) (by decide) (by decide) (hts (.classLink RL 23 "java/lang/IndexOutOfBoundsException") (by decide +kernel)) (va_Nw.use (zBad_ot (.castable "java/lang/IndexOutOfBoundsException" "java/lang/IndexOutOfBoundsException") (by decide)) (hZ.2.2.2.2.2.2.2.1 (.castable "java/lang/IndexOutOfBoundsException" "java/lang/IndexOutOfBoundsException") (by decide))) hce hcv hcl ?_
    refine lv_astore (lv' := [(4, .ref q9), (0, .ref (ad 0)), (1, .int x1), (2, .int x2), (3, .ref (ad 37))]) hx hb dL_diagnostic_13 hl (by decide) rfl (fun ls hl => ?_)
    refine lv_iconst (v := 1) hx hb dL_diagnostic_15 (by decide) ?_
    exact W.iret (v := 1) hx hb hr (fun t ht hW => r_end (r := some (vI 1)) hAe hG hsh (Or.inr (Or.inl ⟨rfl, hxE⟩)) rfl ht) hG.2.2.2.2 dL_diagnostic_16
  · obtain ⟨v, rfl, hq⟩ := hp
    refine W.eq (g2 := F0 m 8 ls [.int v, .int 0, .ref (ad 37)]) rfl ?_
    refine lv_i2l hx hb dL_diagnostic_8 rfl ?_
    have hlen : gL S1 37 = 1 := by rw [hsh.2.2]; exact fl_37 hF
    refine r_last hx hb hK hG (hsh.lt (fn_37 hF)) (hsh.kd (fk_37 hF)) (i := 0) (by rw [hlen]; exact vp01) dL_diagnostic_9 (fun H locs hG => ?_)
    refine lv_goto (tgt := 17) hx hb dL_diagnostic_10 (by decide) ?_
    refine lv_iconst (v := 0) hx hb dL_diagnostic_17 (by decide) ?_
    exact W.iret (v := 0) hx hb hr (fun t ht hW => r_end (r := some (vI 0)) hAe hG ((gSh.z _ _ _ _).tr hsh) (Or.inl ⟨rfl, v, S1, hq, hsh, rfl⟩) rfl ht) hG.2.2.2.2 dL_diagnostic_18
set_option maxHeartbeats 4000000 in
set_option maxRecDepth 100000 in
theorem tL_throughput (l : Launch) (hst : l.stackTraces = false) (S : GS) (hF : Fix S) (Q8 : UInt64 → GS → Prop) (X8 : String → GS → Prop) (h : wX8_throughput S 0  Q8 X8) (hX : ∀ E S1, X8 E S1 → E = "java/lang/IllegalStateException") : CH l yL_throughput wsL_throughput 7 S (gA [vR (some 0), vR (some 38)]) (hP S kpD Q8 X8 "java/lang/IllegalStateException" "") := by
  refine CH.ofW (cc := cL_throughput) (maxL := 3) (ret := (some .int)) (hh := [(0, 7, 10, 36)]) RL (by decide) rfl rfl (fun _ _ _ => Nat.le_of_ble_eq_true rfl) ?_
  intro p e s m args below meth c D Y za zv ad A ls hAe hx hb hr hml htab hts hown hlocks hK hZ hA hG hl
  have hl : lv_has ls 3 [(0, .ref (ad 0)), (1, .ref (ad 38))] := hl
  refine lv_aload_n hx hb dL_throughput_0 rfl (lv_at hl 1 rfl) ?_
  refine lv_iconst (v := 0) hx hb dL_throughput_1 (by decide) ?_
  refine lv_aload_n hx hb dL_throughput_2 rfl (lv_at hl 0 rfl) ?_
  refine x_callV (As := []) (rest := [.int 0, .ref (ad 38)]) (tX8_throughput l hst S 0  Q8 X8 h) rfl ⟨hx, hb, hml, hown, hts⟩ (cwV 0 hts gL_throughput_X8_throughput rfl rfl rfl (by decide +kernel) ⟨by decide, by decide⟩) hK hZ hG hA (va_recv hK hG.1 (ci := 8) (q := (RX8, TX8, 12)) rfl (wl_get (fn_0 hF) (cell_8 (fk_0 hF)))) rfl hl.1 rfl (Nat.le_of_ble_eq_true rfl) ⟨by decide, by decide⟩ dL_throughput_3 (fun E ce q9 S1 H locs hxE hsh hG hce hcv hcl => ?_) (fun r_9 S1 H locs hp hsh hG => ?_)
  · have eE := hX E S1 hxE
    subst eE
    refine vx_catch (own := RL) (name := "java/lang/IllegalStateException") hown [] ⟨0, 7, 10, 36⟩ [] htab (fun _ h => absurd h List.not_mem_nil) (by decide) (by decide) (hts (.classLink RL 36 "java/lang/IllegalStateException") (by decide +kernel)) (va_Nw.use (zBad_ot (.castable "java/lang/IllegalStateException" "java/lang/IllegalStateException") (by decide)) (hZ.2.2.2.2.2.2.2.1 (.castable "java/lang/IllegalStateException" "java/lang/IllegalStateException") (by decide))) hce hcv hcl ?_
    refine lv_astore_n (lv' := [(2, .ref q9), (0, .ref (ad 0)), (1, .ref (ad 38))]) hx hb dL_throughput_10 rfl hl (by decide) rfl (fun ls hl => ?_)
    refine lv_iconst (v := 1) hx hb dL_throughput_11 (by decide) ?_
    exact W.iret (v := 1) hx hb hr (fun t ht hW => r_end (r := some (vI 1)) hAe hG hsh (Or.inr (Or.inl ⟨rfl, hxE⟩)) rfl ht) hG.2.2.2.2 dL_throughput_12
  · obtain ⟨v, rfl, hq⟩ := hp
    refine W.eq (g2 := F0 m 6 ls [.double v, .int 0, .ref (ad 38)]) rfl ?_
    have hlen : gL S1 38 = 1 := by rw [hsh.2.2]; exact fl_38 hF
    refine r_dast hx hb hK hG (hsh.lt (fn_38 hF)) (hsh.kd (fk_38 hF)) (i := 0) (by rw [hlen]; exact vp01) dL_throughput_6 (fun H locs hG => ?_)
    refine lv_goto (tgt := 13) hx hb dL_throughput_7 (by decide) ?_
    refine lv_iconst (v := 0) hx hb dL_throughput_13 (by decide) ?_
    exact W.iret (v := 0) hx hb hr (fun t ht hW => r_end (r := some (vI 0)) hAe hG ((gSh.f _ _ _ _).tr hsh) (Or.inl ⟨rfl, v, S1, hq, hsh, rfl⟩) rfl ht) hG.2.2.2.2 dL_throughput_14
set_option maxHeartbeats 4000000 in
set_option maxRecDepth 100000 in
theorem tL_rate (l : Launch) (hst : l.stackTraces = false) (S : GS) (hF : Fix S) (x1 : Int32) (Q8 : UInt64 → GS → Prop) (X8 : String → GS → Prop) (h : wX8_rate S 0 x1 Q8 X8) (hX : ∀ E S1, X8 E S1 → E = "java/lang/IllegalArgumentException" ∨ E = "java/lang/IllegalStateException") : CH l yL_rate wsL_rate 7 S (gA [vR (some 0), vI x1, vR (some 38)]) (hP S kpD Q8 X8 "java/lang/IllegalArgumentException" "java/lang/IllegalStateException") := by
  refine CH.ofW (cc := cL_rate) (maxL := 4) (ret := (some .int)) (hh := [(0, 8, 11, 13), (0, 8, 14, 36)]) RL (by decide) rfl rfl (fun _ _ _ => Nat.le_of_ble_eq_true rfl) ?_
  intro p e s m args below meth c D Y za zv ad A ls hAe hx hb hr hml htab hts hown hlocks hK hZ hA hG hl
  have hl : lv_has ls 4 [(0, .ref (ad 0)), (1, .int x1), (2, .ref (ad 38))] := hl
  refine lv_aload_n hx hb dL_rate_0 rfl (lv_at hl 2 rfl) ?_
  refine lv_iconst (v := 0) hx hb dL_rate_1 (by decide) ?_
  refine lv_aload_n hx hb dL_rate_2 rfl (lv_at hl 0 rfl) ?_
  refine lv_iload_n hx hb dL_rate_3 rfl (lv_at hl 1 rfl) ?_
  refine x_callV (As := [.int x1]) (rest := [.int 0, .ref (ad 38)]) (tX8_rate l hst S 0 x1 Q8 X8 h) rfl ⟨hx, hb, hml, hown, hts⟩ (cwV 1 hts gL_rate_X8_rate rfl rfl rfl (by decide +kernel) ⟨by decide, by decide⟩) hK hZ hG hA (va_recv hK hG.1 (ci := 8) (q := (RX8, TX8, 12)) rfl (wl_get (fn_0 hF) (cell_8 (fk_0 hF)))) rfl hl.1 rfl (Nat.le_of_ble_eq_true rfl) ⟨by decide, by decide⟩ dL_rate_4 (fun E ce q9 S1 H locs hxE hsh hG hce hcv hcl => ?_) (fun r_9 S1 H locs hp hsh hG => ?_)
  · rcases hX E S1 hxE with eE | eE
    · subst eE
      refine vx_catch (own := RL) (name := "java/lang/IllegalArgumentException") hown [] ⟨0, 8, 11, 13⟩ [⟨0, 8, 14, 36⟩] htab (fun _ h => absurd h List.not_mem_nil) (by decide) (by decide) (hts (.classLink RL 13 "java/lang/IllegalArgumentException") (by decide +kernel)) (va_Nw.use (zBad_ot (.castable "java/lang/IllegalArgumentException" "java/lang/IllegalArgumentException") (by decide)) (hZ.2.2.2.2.2.2.2.1 (.castable "java/lang/IllegalArgumentException" "java/lang/IllegalArgumentException") (by decide))) hce hcv hcl ?_
      refine lv_astore_n (lv' := [(3, .ref q9), (0, .ref (ad 0)), (1, .int x1), (2, .ref (ad 38))]) hx hb dL_rate_11 rfl hl (by decide) rfl (fun ls hl => ?_)
      refine lv_iconst (v := 1) hx hb dL_rate_12 (by decide) ?_
      exact W.iret (v := 1) hx hb hr (fun t ht hW => r_end (r := some (vI 1)) hAe hG hsh (Or.inr (Or.inl ⟨rfl, hxE⟩)) rfl ht) hG.2.2.2.2 dL_rate_13
    · subst eE
      refine vx_catch (own := RL) (name := "java/lang/IllegalStateException") hown [⟨0, 8, 11, 13⟩] ⟨0, 8, 14, 36⟩ [] htab (fun z hz => by rw [List.mem_singleton.mp hz]; exact Or.inr ⟨by decide, "java/lang/IllegalArgumentException", hts (.classLink RL 13 "java/lang/IllegalArgumentException") (by decide +kernel), hZ.2.2.2.2.2.2.2.2.2⟩) (by decide) (by decide) (hts (.classLink RL 36 "java/lang/IllegalStateException") (by decide +kernel)) (va_Nw.use (zBad_ot (.castable "java/lang/IllegalStateException" "java/lang/IllegalStateException") (by decide)) (hZ.2.2.2.2.2.2.2.1 (.castable "java/lang/IllegalStateException" "java/lang/IllegalStateException") (by decide))) hce hcv hcl ?_
      refine lv_astore_n (lv' := [(3, .ref q9), (0, .ref (ad 0)), (1, .int x1), (2, .ref (ad 38))]) hx hb dL_rate_14 rfl hl (by decide) rfl (fun ls hl => ?_)
      refine lv_iconst (v := 2) hx hb dL_rate_15 (by decide) ?_
      exact W.iret (v := 2) hx hb hr (fun t ht hW => r_end (r := some (vI 2)) hAe hG hsh (Or.inr (Or.inr ⟨rfl, hxE⟩)) rfl ht) hG.2.2.2.2 dL_rate_16
  · obtain ⟨v, rfl, hq⟩ := hp
    refine W.eq (g2 := F0 m 7 ls [.double v, .int 0, .ref (ad 38)]) rfl ?_
    have hlen : gL S1 38 = 1 := by rw [hsh.2.2]; exact fl_38 hF
    refine r_dast hx hb hK hG (hsh.lt (fn_38 hF)) (hsh.kd (fk_38 hF)) (i := 0) (by rw [hlen]; exact vp01) dL_rate_7 (fun H locs hG => ?_)
    refine lv_goto (tgt := 17) hx hb dL_rate_8 (by decide) ?_
    refine lv_iconst (v := 0) hx hb dL_rate_17 (by decide) ?_
    exact W.iret (v := 0) hx hb hr (fun t ht hW => r_end (r := some (vI 0)) hAe hG ((gSh.f _ _ _ _).tr hsh) (Or.inl ⟨rfl, v, S1, hq, hsh, rfl⟩) rfl ht) hG.2.2.2.2 dL_rate_18
set_option maxHeartbeats 4000000 in
set_option maxRecDepth 100000 in
theorem tL_percentile (l : Launch) (hst : l.stackTraces = false) (S : GS) (hF : Fix S) (x1 : Int32) (Q8 : Int32 → GS → Prop) (X8 : String → GS → Prop) (h : wX8_percentile S 0 x1 Q8 X8) (hX : ∀ E S1, X8 E S1 → E = "java/lang/IllegalArgumentException" ∨ E = "java/lang/IllegalStateException") : CH l yL_percentile wsL_percentile 7 S (gA [vR (some 0), vI x1, vR (some 37)]) (hP S kpI Q8 X8 "java/lang/IllegalArgumentException" "java/lang/IllegalStateException") := by
  refine CH.ofW (cc := cL_percentile) (maxL := 4) (ret := (some .int)) (hh := [(0, 9, 12, 13), (0, 9, 15, 36)]) RL (by decide) rfl rfl (fun _ _ _ => Nat.le_of_ble_eq_true rfl) ?_
  intro p e s m args below meth c D Y za zv ad A ls hAe hx hb hr hml htab hts hown hlocks hK hZ hA hG hl
  have hl : lv_has ls 4 [(0, .ref (ad 0)), (1, .int x1), (2, .ref (ad 37))] := hl
  refine lv_aload_n hx hb dL_percentile_0 rfl (lv_at hl 2 rfl) ?_
  refine lv_iconst (v := 0) hx hb dL_percentile_1 (by decide) ?_
  refine lv_aload_n hx hb dL_percentile_2 rfl (lv_at hl 0 rfl) ?_
  refine lv_iload_n hx hb dL_percentile_3 rfl (lv_at hl 1 rfl) ?_
  refine x_callV (As := [.int x1]) (rest := [.int 0, .ref (ad 37)]) (tX8_percentile l hst S 0 x1 Q8 X8 h) rfl ⟨hx, hb, hml, hown, hts⟩ (cwV 1 hts gL_percentile_X8_percentile rfl rfl rfl (by decide +kernel) ⟨by decide, by decide⟩) hK hZ hG hA (va_recv hK hG.1 (ci := 8) (q := (RX8, TX8, 12)) rfl (wl_get (fn_0 hF) (cell_8 (fk_0 hF)))) rfl hl.1 rfl (Nat.le_of_ble_eq_true rfl) ⟨by decide, by decide⟩ dL_percentile_4 (fun E ce q9 S1 H locs hxE hsh hG hce hcv hcl => ?_) (fun r_9 S1 H locs hp hsh hG => ?_)
  · rcases hX E S1 hxE with eE | eE
    · subst eE
      refine vx_catch (own := RL) (name := "java/lang/IllegalArgumentException") hown [] ⟨0, 9, 12, 13⟩ [⟨0, 9, 15, 36⟩] htab (fun _ h => absurd h List.not_mem_nil) (by decide) (by decide) (hts (.classLink RL 13 "java/lang/IllegalArgumentException") (by decide +kernel)) (va_Nw.use (zBad_ot (.castable "java/lang/IllegalArgumentException" "java/lang/IllegalArgumentException") (by decide)) (hZ.2.2.2.2.2.2.2.1 (.castable "java/lang/IllegalArgumentException" "java/lang/IllegalArgumentException") (by decide))) hce hcv hcl ?_
      refine lv_astore_n (lv' := [(3, .ref q9), (0, .ref (ad 0)), (1, .int x1), (2, .ref (ad 37))]) hx hb dL_percentile_12 rfl hl (by decide) rfl (fun ls hl => ?_)
      refine lv_iconst (v := 1) hx hb dL_percentile_13 (by decide) ?_
      exact W.iret (v := 1) hx hb hr (fun t ht hW => r_end (r := some (vI 1)) hAe hG hsh (Or.inr (Or.inl ⟨rfl, hxE⟩)) rfl ht) hG.2.2.2.2 dL_percentile_14
    · subst eE
      refine vx_catch (own := RL) (name := "java/lang/IllegalStateException") hown [⟨0, 9, 12, 13⟩] ⟨0, 9, 15, 36⟩ [] htab (fun z hz => by rw [List.mem_singleton.mp hz]; exact Or.inr ⟨by decide, "java/lang/IllegalArgumentException", hts (.classLink RL 13 "java/lang/IllegalArgumentException") (by decide +kernel), hZ.2.2.2.2.2.2.2.2.2⟩) (by decide) (by decide) (hts (.classLink RL 36 "java/lang/IllegalStateException") (by decide +kernel)) (va_Nw.use (zBad_ot (.castable "java/lang/IllegalStateException" "java/lang/IllegalStateException") (by decide)) (hZ.2.2.2.2.2.2.2.1 (.castable "java/lang/IllegalStateException" "java/lang/IllegalStateException") (by decide))) hce hcv hcl ?_
      refine lv_astore_n (lv' := [(3, .ref q9), (0, .ref (ad 0)), (1, .int x1), (2, .ref (ad 37))]) hx hb dL_percentile_15 rfl hl (by decide) rfl (fun ls hl => ?_)
      refine lv_iconst (v := 2) hx hb dL_percentile_16 (by decide) ?_
      exact W.iret (v := 2) hx hb hr (fun t ht hW => r_end (r := some (vI 2)) hAe hG hsh (Or.inr (Or.inr ⟨rfl, hxE⟩)) rfl ht) hG.2.2.2.2 dL_percentile_17
  · obtain ⟨v, rfl, hq⟩ := hp
    refine W.eq (g2 := F0 m 7 ls [.int v, .int 0, .ref (ad 37)]) rfl ?_
    refine lv_i2l hx hb dL_percentile_7 rfl ?_
    have hlen : gL S1 37 = 1 := by rw [hsh.2.2]; exact fl_37 hF
    refine r_last hx hb hK hG (hsh.lt (fn_37 hF)) (hsh.kd (fk_37 hF)) (i := 0) (by rw [hlen]; exact vp01) dL_percentile_8 (fun H locs hG => ?_)
    refine lv_goto (tgt := 18) hx hb dL_percentile_9 (by decide) ?_
    refine lv_iconst (v := 0) hx hb dL_percentile_18 (by decide) ?_
    exact W.iret (v := 0) hx hb hr (fun t ht hW => r_end (r := some (vI 0)) hAe hG ((gSh.z _ _ _ _).tr hsh) (Or.inl ⟨rfl, v, S1, hq, hsh, rfl⟩) rfl ht) hG.2.2.2.2 dL_percentile_19
set_option maxHeartbeats 4000000 in
set_option maxRecDepth 100000 in
theorem tL_bucket (l : Launch) (hst : l.stackTraces = false) (S : GS) (hF : Fix S) (x1 : Int32) (Q8 : Int32 → GS → Prop) (X8 : String → GS → Prop) (h : wX8_bucket S 0 x1 Q8 X8) (hX : ∀ E S1, X8 E S1 → E = "java/lang/IndexOutOfBoundsException") : CH l yL_bucket wsL_bucket 7 S (gA [vR (some 0), vI x1, vR (some 37)]) (hP S kpI Q8 X8 "java/lang/IndexOutOfBoundsException" "") := by
  refine CH.ofW (cc := cL_bucket) (maxL := 4) (ret := (some .int)) (hh := [(0, 9, 12, 23)]) RL (by decide) rfl rfl (fun _ _ _ => Nat.le_of_ble_eq_true rfl) ?_
  intro p e s m args below meth c D Y za zv ad A ls hAe hx hb hr hml htab hts hown hlocks hK hZ hA hG hl
  have hl : lv_has ls 4 [(0, .ref (ad 0)), (1, .int x1), (2, .ref (ad 37))] := hl
  refine lv_aload_n hx hb dL_bucket_0 rfl (lv_at hl 2 rfl) ?_
  refine lv_iconst (v := 0) hx hb dL_bucket_1 (by decide) ?_
  refine lv_aload_n hx hb dL_bucket_2 rfl (lv_at hl 0 rfl) ?_
  refine lv_iload_n hx hb dL_bucket_3 rfl (lv_at hl 1 rfl) ?_
  refine x_callV (As := [.int x1]) (rest := [.int 0, .ref (ad 37)]) (tX8_bucket l hst S 0 x1 Q8 X8 h) rfl ⟨hx, hb, hml, hown, hts⟩ (cwV 1 hts gL_bucket_X8_bucket rfl rfl rfl (by decide +kernel) ⟨by decide, by decide⟩) hK hZ hG hA (va_recv hK hG.1 (ci := 8) (q := (RX8, TX8, 12)) rfl (wl_get (fn_0 hF) (cell_8 (fk_0 hF)))) rfl hl.1 rfl (Nat.le_of_ble_eq_true rfl) ⟨by decide, by decide⟩ dL_bucket_4 (fun E ce q9 S1 H locs hxE hsh hG hce hcv hcl => ?_) (fun r_9 S1 H locs hp hsh hG => ?_)
  · have eE := hX E S1 hxE
    subst eE
    refine vx_catch (own := RL) (name := "java/lang/IndexOutOfBoundsException") hown [] ⟨0, 9, 12, 23⟩ [] htab (fun _ h => absurd h List.not_mem_nil) (by decide) (by decide) (hts (.classLink RL 23 "java/lang/IndexOutOfBoundsException") (by decide +kernel)) (va_Nw.use (zBad_ot (.castable "java/lang/IndexOutOfBoundsException" "java/lang/IndexOutOfBoundsException") (by decide)) (hZ.2.2.2.2.2.2.2.1 (.castable "java/lang/IndexOutOfBoundsException" "java/lang/IndexOutOfBoundsException") (by decide))) hce hcv hcl ?_
    refine lv_astore_n (lv' := [(3, .ref q9), (0, .ref (ad 0)), (1, .int x1), (2, .ref (ad 37))]) hx hb dL_bucket_12 rfl hl (by decide) rfl (fun ls hl => ?_)
    refine lv_iconst (v := 1) hx hb dL_bucket_13 (by decide) ?_
    exact W.iret (v := 1) hx hb hr (fun t ht hW => r_end (r := some (vI 1)) hAe hG hsh (Or.inr (Or.inl ⟨rfl, hxE⟩)) rfl ht) hG.2.2.2.2 dL_bucket_14
  · obtain ⟨v, rfl, hq⟩ := hp
    refine W.eq (g2 := F0 m 7 ls [.int v, .int 0, .ref (ad 37)]) rfl ?_
    refine lv_i2l hx hb dL_bucket_7 rfl ?_
    have hlen : gL S1 37 = 1 := by rw [hsh.2.2]; exact fl_37 hF
    refine r_last hx hb hK hG (hsh.lt (fn_37 hF)) (hsh.kd (fk_37 hF)) (i := 0) (by rw [hlen]; exact vp01) dL_bucket_8 (fun H locs hG => ?_)
    refine lv_goto (tgt := 15) hx hb dL_bucket_9 (by decide) ?_
    refine lv_iconst (v := 0) hx hb dL_bucket_15 (by decide) ?_
    exact W.iret (v := 0) hx hb hr (fun t ht hW => r_end (r := some (vI 0)) hAe hG ((gSh.z _ _ _ _).tr hsh) (Or.inl ⟨rfl, v, S1, hq, hsh, rfl⟩) rfl ht) hG.2.2.2.2 dL_bucket_16
set_option maxHeartbeats 4000000 in
set_option maxRecDepth 100000 in
theorem tL_ofCause (l : Launch) (hst : l.stackTraces = false) (S : GS) (hF : Fix S) (x1 : Int32) (Q8 : Int64 → GS → Prop) (X8 : String → GS → Prop) (h : wX8_ofCause S 0 x1 Q8 X8) (hX : ∀ E S1, X8 E S1 → E = "java/lang/IndexOutOfBoundsException") : CH l yL_ofCause wsL_ofCause 7 S (gA [vR (some 0), vI x1, vR (some 37)]) (hP S kpL Q8 X8 "java/lang/IndexOutOfBoundsException" "") := by
  refine CH.ofW (cc := cL_ofCause) (maxL := 4) (ret := (some .int)) (hh := [(0, 8, 11, 23)]) RL (by decide) rfl rfl (fun _ _ _ => Nat.le_of_ble_eq_true rfl) ?_
  intro p e s m args below meth c D Y za zv ad A ls hAe hx hb hr hml htab hts hown hlocks hK hZ hA hG hl
  have hl : lv_has ls 4 [(0, .ref (ad 0)), (1, .int x1), (2, .ref (ad 37))] := hl
  refine lv_aload_n hx hb dL_ofCause_0 rfl (lv_at hl 2 rfl) ?_
  refine lv_iconst (v := 0) hx hb dL_ofCause_1 (by decide) ?_
  refine lv_aload_n hx hb dL_ofCause_2 rfl (lv_at hl 0 rfl) ?_
  refine lv_iload_n hx hb dL_ofCause_3 rfl (lv_at hl 1 rfl) ?_
  refine x_callV (As := [.int x1]) (rest := [.int 0, .ref (ad 37)]) (tX8_ofCause l hst S 0 x1 Q8 X8 h) rfl ⟨hx, hb, hml, hown, hts⟩ (cwV 1 hts gL_ofCause_X8_ofCause rfl rfl rfl (by decide +kernel) ⟨by decide, by decide⟩) hK hZ hG hA (va_recv hK hG.1 (ci := 8) (q := (RX8, TX8, 12)) rfl (wl_get (fn_0 hF) (cell_8 (fk_0 hF)))) rfl hl.1 rfl (Nat.le_of_ble_eq_true rfl) ⟨by decide, by decide⟩ dL_ofCause_4 (fun E ce q9 S1 H locs hxE hsh hG hce hcv hcl => ?_) (fun r_9 S1 H locs hp hsh hG => ?_)
  · have eE := hX E S1 hxE
    subst eE
    refine vx_catch (own := RL) (name := "java/lang/IndexOutOfBoundsException") hown [] ⟨0, 8, 11, 23⟩ [] htab (fun _ h => absurd h List.not_mem_nil) (by decide) (by decide) (hts (.classLink RL 23 "java/lang/IndexOutOfBoundsException") (by decide +kernel)) (va_Nw.use (zBad_ot (.castable "java/lang/IndexOutOfBoundsException" "java/lang/IndexOutOfBoundsException") (by decide)) (hZ.2.2.2.2.2.2.2.1 (.castable "java/lang/IndexOutOfBoundsException" "java/lang/IndexOutOfBoundsException") (by decide))) hce hcv hcl ?_
    refine lv_astore_n (lv' := [(3, .ref q9), (0, .ref (ad 0)), (1, .int x1), (2, .ref (ad 37))]) hx hb dL_ofCause_11 rfl hl (by decide) rfl (fun ls hl => ?_)
    refine lv_iconst (v := 1) hx hb dL_ofCause_12 (by decide) ?_
    exact W.iret (v := 1) hx hb hr (fun t ht hW => r_end (r := some (vI 1)) hAe hG hsh (Or.inr (Or.inl ⟨rfl, hxE⟩)) rfl ht) hG.2.2.2.2 dL_ofCause_13
  · obtain ⟨v, rfl, hq⟩ := hp
    refine W.eq (g2 := F0 m 7 ls [.long v, .int 0, .ref (ad 37)]) rfl ?_
    have hlen : gL S1 37 = 1 := by rw [hsh.2.2]; exact fl_37 hF
    refine r_last hx hb hK hG (hsh.lt (fn_37 hF)) (hsh.kd (fk_37 hF)) (i := 0) (by rw [hlen]; exact vp01) dL_ofCause_7 (fun H locs hG => ?_)
    refine lv_goto (tgt := 14) hx hb dL_ofCause_8 (by decide) ?_
    refine lv_iconst (v := 0) hx hb dL_ofCause_14 (by decide) ?_
    exact W.iret (v := 0) hx hb hr (fun t ht hW => r_end (r := some (vI 0)) hAe hG ((gSh.z _ _ _ _).tr hsh) (Or.inl ⟨rfl, v, S1, hq, hsh, rfl⟩) rfl ht) hG.2.2.2.2 dL_ofCause_15
set_option maxHeartbeats 4000000 in
set_option maxRecDepth 100000 in
theorem tL_count (l : Launch) (hst : l.stackTraces = false) (S : GS) (hF : Fix S) (x1 : Int32) (Q8 : Int32 → GS → Prop) (X8 : String → GS → Prop) (h : wX8_count S 0 x1 Q8 X8) (hX : ∀ E S1, X8 E S1 → E = "java/lang/IndexOutOfBoundsException") : CH l yL_count wsL_count 7 S (gA [vR (some 0), vI x1, vR (some 37)]) (hP S kpI Q8 X8 "java/lang/IndexOutOfBoundsException" "") := by
  refine CH.ofW (cc := cL_count) (maxL := 4) (ret := (some .int)) (hh := [(0, 9, 12, 23)]) RL (by decide) rfl rfl (fun _ _ _ => Nat.le_of_ble_eq_true rfl) ?_
  intro p e s m args below meth c D Y za zv ad A ls hAe hx hb hr hml htab hts hown hlocks hK hZ hA hG hl
  have hl : lv_has ls 4 [(0, .ref (ad 0)), (1, .int x1), (2, .ref (ad 37))] := hl
  refine lv_aload_n hx hb dL_count_0 rfl (lv_at hl 2 rfl) ?_
  refine lv_iconst (v := 0) hx hb dL_count_1 (by decide) ?_
  refine lv_aload_n hx hb dL_count_2 rfl (lv_at hl 0 rfl) ?_
  refine lv_iload_n hx hb dL_count_3 rfl (lv_at hl 1 rfl) ?_
  refine x_callV (As := [.int x1]) (rest := [.int 0, .ref (ad 37)]) (tX8_count l hst S 0 x1 Q8 X8 h) rfl ⟨hx, hb, hml, hown, hts⟩ (cwV 1 hts gL_count_X8_count rfl rfl rfl (by decide +kernel) ⟨by decide, by decide⟩) hK hZ hG hA (va_recv hK hG.1 (ci := 8) (q := (RX8, TX8, 12)) rfl (wl_get (fn_0 hF) (cell_8 (fk_0 hF)))) rfl hl.1 rfl (Nat.le_of_ble_eq_true rfl) ⟨by decide, by decide⟩ dL_count_4 (fun E ce q9 S1 H locs hxE hsh hG hce hcv hcl => ?_) (fun r_9 S1 H locs hp hsh hG => ?_)
  · have eE := hX E S1 hxE
    subst eE
    refine vx_catch (own := RL) (name := "java/lang/IndexOutOfBoundsException") hown [] ⟨0, 9, 12, 23⟩ [] htab (fun _ h => absurd h List.not_mem_nil) (by decide) (by decide) (hts (.classLink RL 23 "java/lang/IndexOutOfBoundsException") (by decide +kernel)) (va_Nw.use (zBad_ot (.castable "java/lang/IndexOutOfBoundsException" "java/lang/IndexOutOfBoundsException") (by decide)) (hZ.2.2.2.2.2.2.2.1 (.castable "java/lang/IndexOutOfBoundsException" "java/lang/IndexOutOfBoundsException") (by decide))) hce hcv hcl ?_
    refine lv_astore_n (lv' := [(3, .ref q9), (0, .ref (ad 0)), (1, .int x1), (2, .ref (ad 37))]) hx hb dL_count_12 rfl hl (by decide) rfl (fun ls hl => ?_)
    refine lv_iconst (v := 1) hx hb dL_count_13 (by decide) ?_
    exact W.iret (v := 1) hx hb hr (fun t ht hW => r_end (r := some (vI 1)) hAe hG hsh (Or.inr (Or.inl ⟨rfl, hxE⟩)) rfl ht) hG.2.2.2.2 dL_count_14
  · obtain ⟨v, rfl, hq⟩ := hp
    refine W.eq (g2 := F0 m 7 ls [.int v, .int 0, .ref (ad 37)]) rfl ?_
    refine lv_i2l hx hb dL_count_7 rfl ?_
    have hlen : gL S1 37 = 1 := by rw [hsh.2.2]; exact fl_37 hF
    refine r_last hx hb hK hG (hsh.lt (fn_37 hF)) (hsh.kd (fk_37 hF)) (i := 0) (by rw [hlen]; exact vp01) dL_count_8 (fun H locs hG => ?_)
    refine lv_goto (tgt := 15) hx hb dL_count_9 (by decide) ?_
    refine lv_iconst (v := 0) hx hb dL_count_15 (by decide) ?_
    exact W.iret (v := 0) hx hb hr (fun t ht hW => r_end (r := some (vI 0)) hAe hG ((gSh.z _ _ _ _).tr hsh) (Or.inl ⟨rfl, v, S1, hq, hsh, rfl⟩) rfl ht) hG.2.2.2.2 dL_count_16
