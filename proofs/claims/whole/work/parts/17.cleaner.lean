theorem mc_X1_used_1 : ∀ w ∈ wsX10, w ∈ wsX1_used := fun w h => List.mem_cons_of_mem _ (List.mem_append_right _ (h))
theorem mw_X1_used_fieldLinkCleanRunsRun55CleanRunsRunwaterD : Cond.fieldLink RX1 55 "CleanRuns$Run" "water" "D" ∈ wsX1_used := List.mem_cons_of_mem _ (List.mem_append_left _ (List.mem_of_getElem? (i := 0) rfl))
theorem mw_X1_used_fieldLinkCleanRunsRun58CleanRunsRunoutD : Cond.fieldLink RX1 58 "CleanRuns$Run" "out" "D" ∈ wsX1_used := List.mem_cons_of_mem _ (List.mem_append_left _ (List.mem_of_getElem? (i := 1) rfl))
theorem mw_X1_used_fieldLinkCleanRunsRun61CleanRunsRunbackD : Cond.fieldLink RX1 61 "CleanRuns$Run" "back" "D" ∈ wsX1_used := List.mem_cons_of_mem _ (List.mem_append_left _ (List.mem_of_getElem? (i := 2) rfl))
theorem mw_X1_used_constantDoubleCleanRunsRun644652007308841189376 : Cond.constantDouble RX1 64 (4652007308841189376) ∈ wsX1_used := List.mem_cons_of_mem _ (List.mem_append_left _ (List.mem_of_getElem? (i := 3) rfl))
theorem mw_X1_used_constantDoubleCleanRunsRun6613830554455654793216 : Cond.constantDouble RX1 66 (13830554455654793216) ∈ wsX1_used := List.mem_cons_of_mem _ (List.mem_append_left _ (List.mem_of_getElem? (i := 4) rfl))
theorem mw_X4_cleaner_constantDoubleCleanRuns9913830554455654793216 : Cond.constantDouble RX4 99 (13830554455654793216) ∈ wsX4_cleaner := List.mem_cons_of_mem _ (List.mem_append_left _ (List.mem_append_left _ (List.mem_of_getElem? (i := 0) rfl)))
set_option maxHeartbeats 4000000 in
set_option maxRecDepth 100000 in
theorem c_Run_used (l : Launch) (D : va_G) (t : Nat → ClassId) (sz : Nat) (h0 rc sy cu : Nat) (gl bs st sc fl hi ih : Int32) (iv wa ou ba : UInt64) (w : Int32)  : MetD lw_cs l yX1_used wsX1_used ({ frames := 0, cells := 0, slots := 0, locals := 0 } : Room) (va_Pc [.ref h0, .int w] (yS D t sz [(h0, .inr (1, [.ref rc, .int gl, .ref sy, .ref cu, .int bs, .int st, .int sc, .int fl, .int hi, .double iv, .int ih, .double wa, .double ou, .double ba]))])) (va_Qd (fun (x : UInt64) (u : Unit) => alike64 x (fU w wa ou ba) = true) (fun (u : Unit) tt => yB D t (va_A [(h0, .inr (1, [.ref rc, .int gl, .ref sy, .ref cu, .int bs, .int st, .int sc, .int fl, .int hi, .double iv, .int ih, .double wa, .double ou, .double ba]))] sz) [(h0, .inr (1, [.ref rc, .int gl, .ref sy, .ref cu, .int bs, .int st, .int sc, .int fl, .int hi, .double iv, .int ih, .double wa, .double ou, .double ba]))] tt) (va_A [(h0, .inr (1, [.ref rc, .int gl, .ref sy, .ref cu, .int bs, .int st, .int sc, .int fl, .int hi, .double iv, .int ih, .double wa, .double ou, .double ba]))] sz)) 0 0 (va_A [(h0, .inr (1, [.ref rc, .int gl, .ref sy, .ref cu, .int bs, .int st, .int sc, .int fl, .int hi, .double iv, .int ih, .double wa, .double ou, .double ba]))] sz) := by
  refine y_ofWD (wc := [(h0, .inr (1, [.ref rc, .int gl, .ref sy, .ref cu, .int bs, .int st, .int sc, .int fl, .int hi, .double iv, .int ih, .double wa, .double ou, .double ba]))]) (Qc := fun A => va_Qd (fun (x : UInt64) (u : Unit) => alike64 x (fU w wa ou ba) = true) (fun (u : Unit) tt => yB D t A [(h0, .inr (1, [.ref rc, .int gl, .ref sy, .ref cu, .int bs, .int st, .int sc, .int fl, .int hi, .double iv, .int ih, .double wa, .double ou, .double ba]))] tt) A) (cc := cX1_used) (maxL := 2) (ret := (some .double)) (by decide) rfl (Nat.le_of_ble_eq_true rfl) (fun p e s m below meth c A ls hx hb hr hts hlocks hml hown hnm hA hKK hP hD hS hl hd0 => ?_)
  have hts0 := hts
  have hts := dr_words hts0 s.drawn
  have hK := hKK.1
  have hSF : CallFix p m c cX1_used 2 (s.setDrawn s.drawn) _ wsX1_used RX1 := ⟨hx, hb, hml, hown, hts⟩
  have hl : lv_has ls 2 [(0, .ref h0), (1, .int w)] := hl
  refine lv_iload_n hx hb dX1_used_0 rfl (lv_at hl 1 rfl) ?_
  by_cases c_1_0 : w = 0
  · refine y_int 0 c_1_0 ?_
    refine lv_tableIn (tgt := 32) hx hb dX1_used_1 (by decide) (by decide) rfl (by decide) ?_
    refine lv_aload_n hx hb dX1_used_32 rfl (lv_at hl 0 rfl) ?_
    refine va_get (D := D) (ci := 1) (v := .double wa) (C := RX1) (T := TX1) (N := 14) hx hb hts mc_X1_used_1 hown hK hP 0 rfl rfl 11 (by decide) (hts _ mw_X1_used_fieldLinkCleanRunsRun55CleanRunsRunwaterD) (fun _ h9 => h9) rfl dX1_used_33 ?_
    have hP9 : va_P D vwCl [(h0, .inr (1, [.ref rc, .int gl, .ref sy, .ref cu, .int bs, .int st, .int sc, .int fl, .int hi, .double iv, .int ih, .double wa, .double ou, .double ba]))] _ := hP.sub [0] rfl
    have hD9 : va_D A [(h0, .inr (1, [.ref rc, .int gl, .ref sy, .ref cu, .int bs, .int st, .int sc, .int fl, .int hi, .double iv, .int ih, .double wa, .double ou, .double ba]))] := hD.sub [0] (by decide) rfl
    refine W.endD hd0 ?_
    exact W.dret (v := wa) hx hb hr (fun tt ht hW => ⟨⟨wa, (), rfl, by simp only [fU, c_1_0, if_true, if_false]; exact y_al_refl _, by rw [ht]; exact hP9, hKK.moved hW.alike, hD9⟩, hS.F ht⟩) hS.2.2 dX1_used_36
  by_cases c_1_1 : w = 1
  · refine y_int 1 c_1_1 ?_
    refine lv_tableIn (tgt := 37) hx hb dX1_used_1 (by decide) (by decide) rfl (by decide) ?_
    refine lv_aload_n hx hb dX1_used_37 rfl (lv_at hl 0 rfl) ?_
    refine va_get (D := D) (ci := 1) (v := .double ou) (C := RX1) (T := TX1) (N := 14) hx hb hts mc_X1_used_1 hown hK hP 0 rfl rfl 12 (by decide) (hts _ mw_X1_used_fieldLinkCleanRunsRun58CleanRunsRunoutD) (fun _ h9 => h9) rfl dX1_used_38 ?_
    have hP9 : va_P D vwCl [(h0, .inr (1, [.ref rc, .int gl, .ref sy, .ref cu, .int bs, .int st, .int sc, .int fl, .int hi, .double iv, .int ih, .double wa, .double ou, .double ba]))] _ := hP.sub [0] rfl
    have hD9 : va_D A [(h0, .inr (1, [.ref rc, .int gl, .ref sy, .ref cu, .int bs, .int st, .int sc, .int fl, .int hi, .double iv, .int ih, .double wa, .double ou, .double ba]))] := hD.sub [0] (by decide) rfl
    refine W.endD hd0 ?_
    exact W.dret (v := ou) hx hb hr (fun tt ht hW => ⟨⟨ou, (), rfl, by simp only [fU, c_1_0, c_1_1, if_true, if_false]; exact y_al_refl _, by rw [ht]; exact hP9, hKK.moved hW.alike, hD9⟩, hS.F ht⟩) hS.2.2 dX1_used_41
  by_cases c_1_2 : w = 2
  · refine y_int 2 c_1_2 ?_
    refine lv_tableIn (tgt := 42) hx hb dX1_used_1 (by decide) (by decide) rfl (by decide) ?_
    refine lv_aload_n hx hb dX1_used_42 rfl (lv_at hl 0 rfl) ?_
    refine va_get (D := D) (ci := 1) (v := .double ba) (C := RX1) (T := TX1) (N := 14) hx hb hts mc_X1_used_1 hown hK hP 0 rfl rfl 13 (by decide) (hts _ mw_X1_used_fieldLinkCleanRunsRun61CleanRunsRunbackD) (fun _ h9 => h9) rfl dX1_used_43 ?_
    have hP9 : va_P D vwCl [(h0, .inr (1, [.ref rc, .int gl, .ref sy, .ref cu, .int bs, .int st, .int sc, .int fl, .int hi, .double iv, .int ih, .double wa, .double ou, .double ba]))] _ := hP.sub [0] rfl
    have hD9 : va_D A [(h0, .inr (1, [.ref rc, .int gl, .ref sy, .ref cu, .int bs, .int st, .int sc, .int fl, .int hi, .double iv, .int ih, .double wa, .double ou, .double ba]))] := hD.sub [0] (by decide) rfl
    refine W.endD hd0 ?_
    exact W.dret (v := ba) hx hb hr (fun tt ht hW => ⟨⟨ba, (), rfl, by simp only [fU, c_1_0, c_1_1, c_1_2, if_true, if_false]; exact y_al_refl _, by rw [ht]; exact hP9, hKK.moved hW.alike, hD9⟩, hS.F ht⟩) hS.2.2 dX1_used_46
  by_cases c_1_3 : w = 3
  · refine y_int 3 c_1_3 ?_
    refine lv_tableIn (tgt := 47) hx hb dX1_used_1 (by decide) (by decide) rfl (by decide) ?_
    refine lv_ldc2d (v := 4652007308841189376) hx hb hown (hts _ mw_X1_used_constantDoubleCleanRunsRun644652007308841189376) dX1_used_47 ?_
    refine lv_aload_n hx hb dX1_used_50 rfl (lv_at hl 0 rfl) ?_
    refine va_get (D := D) (ci := 1) (v := .double ou) (C := RX1) (T := TX1) (N := 14) hx hb hts mc_X1_used_1 hown hK hP 0 rfl rfl 12 (by decide) (hts _ mw_X1_used_fieldLinkCleanRunsRun58CleanRunsRunoutD) (fun _ h9 => h9) rfl dX1_used_51 ?_
    refine lv_dsub_any hd0 lw_bits hx hb dX1_used_54 (fun r54 d54 hal54 hd54 => ?_)
    have hts := dr_words hts0 d54
    refine lv_aload_n hx hb dX1_used_55 rfl (lv_at hl 0 rfl) ?_
    refine va_get (D := D) (ci := 1) (v := .double ba) (C := RX1) (T := TX1) (N := 14) hx hb hts mc_X1_used_1 hown hK hP 0 rfl rfl 13 (by decide) (hts _ mw_X1_used_fieldLinkCleanRunsRun61CleanRunsRunbackD) (fun _ h9 => h9) rfl dX1_used_56 ?_
    refine lv_dadd_any hd54 lw_bits hx hb dX1_used_59 (fun r59 d59 hal59 hd59 => ?_)
    have hts := dr_words hts0 d59
    have hP9 : va_P D vwCl [(h0, .inr (1, [.ref rc, .int gl, .ref sy, .ref cu, .int bs, .int st, .int sc, .int fl, .int hi, .double iv, .int ih, .double wa, .double ou, .double ba]))] _ := hP.sub [0] rfl
    have hD9 : va_D A [(h0, .inr (1, [.ref rc, .int gl, .ref sy, .ref cu, .int bs, .int st, .int sc, .int fl, .int hi, .double iv, .int ih, .double wa, .double ou, .double ba]))] := hD.sub [0] (by decide) rfl
    refine W.endD hd59 ?_
    exact W.dret (v := r59) hx hb hr (fun tt ht hW => ⟨⟨r59, (), rfl, by simp only [fU, c_1_0, c_1_1, c_1_2, c_1_3, if_true, if_false]; exact y_al_trans hal59 (y_al_add hal54), by rw [ht]; exact hP9, hKK.moved hW.alike, hD9⟩, hS.F ht⟩) hS.2.2 dX1_used_60
  refine lv_tableOut (tgt := 61) hx hb dX1_used_1 (y_out4 c_1_0 c_1_1 c_1_2 c_1_3) (by decide) ?_
  refine lv_ldc2d (v := 13830554455654793216) hx hb hown (hts _ mw_X1_used_constantDoubleCleanRunsRun6613830554455654793216) dX1_used_61 ?_
  have hP9 : va_P D vwCl [(h0, .inr (1, [.ref rc, .int gl, .ref sy, .ref cu, .int bs, .int st, .int sc, .int fl, .int hi, .double iv, .int ih, .double wa, .double ou, .double ba]))] _ := hP.sub [0] rfl
  have hD9 : va_D A [(h0, .inr (1, [.ref rc, .int gl, .ref sy, .ref cu, .int bs, .int st, .int sc, .int fl, .int hi, .double iv, .int ih, .double wa, .double ou, .double ba]))] := hD.sub [0] (by decide) rfl
  refine W.endD hd0 ?_
  exact W.dret (v := 13830554455654793216) hx hb hr (fun tt ht hW => ⟨⟨13830554455654793216, (), rfl, by simp only [fU, c_1_0, c_1_1, c_1_2, c_1_3, if_true, if_false]; exact y_al_refl _, by rw [ht]; exact hP9, hKK.moved hW.alike, hD9⟩, hS.F ht⟩) hS.2.2 dX1_used_64
set_option maxHeartbeats 4000000 in
set_option maxRecDepth 100000 in
theorem c_CR_cleaner_no (l : Launch) (D : va_G) (t : Nat → ClassId) (sz : Nat) (h0 xr xn nr nn : Nat) (k w : Int32) (hk : k < 0 ∨ nI nn ≤ k) : MetD lw_cs l yX4_cleaner wsX4_cleaner ({ frames := 1, cells := 0, slots := 0, locals := 21 } : Room) (va_Pc [.ref h0, .int k, .int w] (yS D t sz [(h0, .inr (4, [.ref xr, .ref xn, .int (nI nr), .int (nI nn)]))])) (va_Qd (fun (x : UInt64) (u : Unit) => x = 13830554455654793216) (fun (u : Unit) tt => yB D t (va_A [(h0, .inr (4, [.ref xr, .ref xn, .int (nI nr), .int (nI nn)]))] sz) [(h0, .inr (4, [.ref xr, .ref xn, .int (nI nr), .int (nI nn)]))] tt) (va_A [(h0, .inr (4, [.ref xr, .ref xn, .int (nI nr), .int (nI nn)]))] sz)) 0 0 (va_A [(h0, .inr (4, [.ref xr, .ref xn, .int (nI nr), .int (nI nn)]))] sz) := by
  refine y_ofWD (wc := [(h0, .inr (4, [.ref xr, .ref xn, .int (nI nr), .int (nI nn)]))]) (Qc := fun A => va_Qd (fun (x : UInt64) (u : Unit) => x = 13830554455654793216) (fun (u : Unit) tt => yB D t A [(h0, .inr (4, [.ref xr, .ref xn, .int (nI nr), .int (nI nn)]))] tt) A) (cc := cX4_cleaner) (maxL := 4) (ret := (some .double)) (by decide) rfl (Nat.le_of_ble_eq_true rfl) (fun p e s m below meth c A ls hx hb hr hts hlocks hml hown hnm hA hKK hP hD hS hl hd0 => ?_)
  have hts0 := hts
  have hts := dr_words hts0 s.drawn
  have hK := hKK.1
  have hSF : CallFix p m c cX4_cleaner 4 (s.setDrawn s.drawn) _ wsX4_cleaner RX4 := ⟨hx, hb, hml, hown, hts⟩
  have hl : lv_has ls 4 [(0, .ref h0), (1, .int k), (2, .int w)] := hl
  refine lv_aload_n hx hb dX4_cleaner_0 rfl (lv_at hl 0 rfl) ?_
  refine lv_iload_n hx hb dX4_cleaner_1 rfl (lv_at hl 1 rfl) ?_
  refine y_Vq (As := [.int k]) (rest := []) (wc := [(h0, .inr (4, [.ref xr, .ref xn, .int (nI nr), .int (nI nn)]))]) (wr := []) [0] [] hSF (c_CR_runAt_no l D t s.heap.size h0 xr xn nr nn k hk) (cwV 1 hts gX4_cleaner_X4_runAt rfl rfl rfl (by decide +kernel) ⟨Nat.le_of_ble_eq_true rfl, Nat.le_of_ble_eq_true rfl⟩) hKK hP hD hS hA rfl rfl (by decide) (by decide) (by decide) (fs := [.ref xr, .ref xn, .int (nI nr), .int (nI nn)]) (ci := 4) rfl rfl rfl rfl hl.1 rfl (Nat.le_of_ble_eq_true rfl) dX4_cleaner_2 ⟨Nat.le_of_ble_eq_true rfl, Nat.le_of_ble_eq_true rfl⟩ (fun x u H locs hw2 hP hD hS => ?_)
  obtain rfl : x = none := hw2
  refine W.eq (g2 := F0 m 5 ls [.null]) rfl ?_
  have hP : va_P D vwCl [(h0, .inr (4, [.ref xr, .ref xn, .int (nI nr), .int (nI nn)]))] H := hP
  have hD : va_D A [(h0, .inr (4, [.ref xr, .ref xn, .int (nI nr), .int (nI nn)]))] := hD
  refine lv_astore_nN (lv' := [(3, .null), (0, .ref h0), (1, .int k), (2, .int w)]) hx hb dX4_cleaner_5 rfl hl (by decide) rfl (fun ls hl => ?_)
  refine lv_aload_nN hx hb dX4_cleaner_6 rfl (lv_at hl 0 rfl) ?_
  refine lv_ifnonnullN hx hb dX4_cleaner_7 ?_
  refine lv_ldc2d (v := 13830554455654793216) hx hb hown (hts _ mw_X4_cleaner_constantDoubleCleanRuns9913830554455654793216) dX4_cleaner_10 ?_
  refine lv_goto (tgt := 21) hx hb dX4_cleaner_13 (by decide) ?_
  have hP9 : va_P D vwCl [(h0, .inr (4, [.ref xr, .ref xn, .int (nI nr), .int (nI nn)]))] _ := hP.sub [0] rfl
  have hD9 : va_D A [(h0, .inr (4, [.ref xr, .ref xn, .int (nI nr), .int (nI nn)]))] := hD.sub [0] (by decide) rfl
  refine W.endD hd0 ?_
  exact W.dret (v := 13830554455654793216) hx hb hr (fun tt ht hW => ⟨⟨13830554455654793216, (), rfl, rfl, by rw [ht]; exact hP9, hKK.moved hW.alike, hD9⟩, hS.F ht⟩) hS.2.2 dX4_cleaner_21
set_option maxHeartbeats 4000000 in
set_option maxRecDepth 100000 in
theorem c_CR_cleaner_at (l : Launch) (D : va_G) (t : Nat → ClassId) (sz : Nat) (h0 xr xn nr nn : Nat) (j ru : Nat) (g2 : Nat → Option Nat) (rc sy cu : Nat) (gl bs st sc fl hi ih : Int32) (iv wa ou ba : UInt64) (w : Int32) (hj : j < nn) (hn : nn ≤ 30) (hf : g2 j = some ru) : MetD lw_cs l yX4_cleaner wsX4_cleaner ({ frames := 1, cells := 0, slots := 0, locals := 21 } : Room) (va_Pc [.ref h0, .int (nI j), .int w] (yS D t sz [(h0, .inr (4, [.ref xr, .ref xn, .int (nI nr), .int (nI nn)])), (xn, .inl (t 4, 30, .inr (.inr (.inr (.inr (g2)))))), (ru, .inr (1, [.ref rc, .int gl, .ref sy, .ref cu, .int bs, .int st, .int sc, .int fl, .int hi, .double iv, .int ih, .double wa, .double ou, .double ba]))])) (va_Qd (fun (x : UInt64) (u : Unit) => alike64 x (fU w wa ou ba) = true) (fun (u : Unit) tt => yB D t (va_A [(h0, .inr (4, [.ref xr, .ref xn, .int (nI nr), .int (nI nn)])), (xn, .inl (t 4, 30, .inr (.inr (.inr (.inr (g2)))))), (ru, .inr (1, [.ref rc, .int gl, .ref sy, .ref cu, .int bs, .int st, .int sc, .int fl, .int hi, .double iv, .int ih, .double wa, .double ou, .double ba]))] sz) [(h0, .inr (4, [.ref xr, .ref xn, .int (nI nr), .int (nI nn)])), (xn, .inl (t 4, 30, .inr (.inr (.inr (.inr (g2)))))), (ru, .inr (1, [.ref rc, .int gl, .ref sy, .ref cu, .int bs, .int st, .int sc, .int fl, .int hi, .double iv, .int ih, .double wa, .double ou, .double ba]))] tt) (va_A [(h0, .inr (4, [.ref xr, .ref xn, .int (nI nr), .int (nI nn)])), (xn, .inl (t 4, 30, .inr (.inr (.inr (.inr (g2)))))), (ru, .inr (1, [.ref rc, .int gl, .ref sy, .ref cu, .int bs, .int st, .int sc, .int fl, .int hi, .double iv, .int ih, .double wa, .double ou, .double ba]))] sz)) 0 0 (va_A [(h0, .inr (4, [.ref xr, .ref xn, .int (nI nr), .int (nI nn)])), (xn, .inl (t 4, 30, .inr (.inr (.inr (.inr (g2)))))), (ru, .inr (1, [.ref rc, .int gl, .ref sy, .ref cu, .int bs, .int st, .int sc, .int fl, .int hi, .double iv, .int ih, .double wa, .double ou, .double ba]))] sz) := by
  refine y_ofWD (wc := [(h0, .inr (4, [.ref xr, .ref xn, .int (nI nr), .int (nI nn)])), (xn, .inl (t 4, 30, .inr (.inr (.inr (.inr (g2)))))), (ru, .inr (1, [.ref rc, .int gl, .ref sy, .ref cu, .int bs, .int st, .int sc, .int fl, .int hi, .double iv, .int ih, .double wa, .double ou, .double ba]))]) (Qc := fun A => va_Qd (fun (x : UInt64) (u : Unit) => alike64 x (fU w wa ou ba) = true) (fun (u : Unit) tt => yB D t A [(h0, .inr (4, [.ref xr, .ref xn, .int (nI nr), .int (nI nn)])), (xn, .inl (t 4, 30, .inr (.inr (.inr (.inr (g2)))))), (ru, .inr (1, [.ref rc, .int gl, .ref sy, .ref cu, .int bs, .int st, .int sc, .int fl, .int hi, .double iv, .int ih, .double wa, .double ou, .double ba]))] tt) A) (cc := cX4_cleaner) (maxL := 4) (ret := (some .double)) (by decide) rfl (Nat.le_of_ble_eq_true rfl) (fun p e s m below meth c A ls hx hb hr hts hlocks hml hown hnm hA hKK hP hD hS hl hd0 => ?_)
  have hts0 := hts
  have hts := dr_words hts0 s.drawn
  have hK := hKK.1
  have hSF : CallFix p m c cX4_cleaner 4 (s.setDrawn s.drawn) _ wsX4_cleaner RX4 := ⟨hx, hb, hml, hown, hts⟩
  have hl : lv_has ls 4 [(0, .ref h0), (1, .int (nI j)), (2, .int w)] := hl
  refine lv_aload_n hx hb dX4_cleaner_0 rfl (lv_at hl 0 rfl) ?_
  refine lv_iload_n hx hb dX4_cleaner_1 rfl (lv_at hl 1 rfl) ?_
  refine y_Vq (As := [.int (nI j)]) (rest := []) (wc := [(h0, .inr (4, [.ref xr, .ref xn, .int (nI nr), .int (nI nn)])), (xn, .inl (t 4, 30, .inr (.inr (.inr (.inr (g2))))))]) (wr := [(ru, .inr (1, [.ref rc, .int gl, .ref sy, .ref cu, .int bs, .int st, .int sc, .int fl, .int hi, .double iv, .int ih, .double wa, .double ou, .double ba]))]) [0, 1] [2] hSF (c_CR_runAt_at l D t s.heap.size h0 xr xn nr nn j ru g2 hj hn hf) (cwV 1 hts gX4_cleaner_X4_runAt rfl rfl rfl (by decide +kernel) ⟨Nat.le_of_ble_eq_true rfl, Nat.le_of_ble_eq_true rfl⟩) hKK hP hD hS hA rfl rfl (by decide) (by decide) (by decide) (fs := [.ref xr, .ref xn, .int (nI nr), .int (nI nn)]) (ci := 4) rfl rfl rfl rfl hl.1 rfl (Nat.le_of_ble_eq_true rfl) dX4_cleaner_2 ⟨Nat.le_of_ble_eq_true rfl, Nat.le_of_ble_eq_true rfl⟩ (fun x u H locs hw2 hP hD hS => ?_)
  obtain rfl : x = some ru := hw2
  refine W.eq (g2 := F0 m 5 ls [.ref ru]) rfl ?_
  have hP : va_P D vwCl [(ru, .inr (1, [.ref rc, .int gl, .ref sy, .ref cu, .int bs, .int st, .int sc, .int fl, .int hi, .double iv, .int ih, .double wa, .double ou, .double ba])), (h0, .inr (4, [.ref xr, .ref xn, .int (nI nr), .int (nI nn)])), (xn, .inl (t 4, 30, .inr (.inr (.inr (.inr (g2))))))] H := hP
  have hD : va_D A [(ru, .inr (1, [.ref rc, .int gl, .ref sy, .ref cu, .int bs, .int st, .int sc, .int fl, .int hi, .double iv, .int ih, .double wa, .double ou, .double ba])), (h0, .inr (4, [.ref xr, .ref xn, .int (nI nr), .int (nI nn)])), (xn, .inl (t 4, 30, .inr (.inr (.inr (.inr (g2))))))] := hD
  refine lv_astore_n (lv' := [(3, .ref ru), (0, .ref h0), (1, .int (nI j)), (2, .int w)]) hx hb dX4_cleaner_5 rfl hl (by decide) rfl (fun ls hl => ?_)
  refine lv_aload_n hx hb dX4_cleaner_6 rfl (lv_at hl 0 rfl) ?_
  refine lv_ifnonnull (tgt := 16) hx hb dX4_cleaner_7 (by decide) ?_
  refine lv_aload_n hx hb dX4_cleaner_16 rfl (lv_at hl 0 rfl) ?_
  refine lv_iload_n hx hb dX4_cleaner_17 rfl (lv_at hl 3 rfl) ?_
  refine y_VdD (As := [.int w]) (rest := []) (wc := [(ru, .inr (1, [.ref rc, .int gl, .ref sy, .ref cu, .int bs, .int st, .int sc, .int fl, .int hi, .double iv, .int ih, .double wa, .double ou, .double ba]))]) (wr := [(h0, .inr (4, [.ref xr, .ref xn, .int (nI nr), .int (nI nn)])), (xn, .inl (t 4, 30, .inr (.inr (.inr (.inr (g2))))))]) [0] [1, 2] hd0 hSF (c_Run_used l D t H.size ru rc sy cu gl bs st sc fl hi ih iv wa ou ba w ) (cwV 1 hts gX4_cleaner_X1_used rfl rfl rfl (by decide +kernel) ⟨Nat.le_of_ble_eq_true rfl, Nat.le_of_ble_eq_true rfl⟩) hKK hP hD hS hA rfl rfl (by decide) (by decide) (by decide) (fs := [.ref rc, .int gl, .ref sy, .ref cu, .int bs, .int st, .int sc, .int fl, .int hi, .double iv, .int ih, .double wa, .double ou, .double ba]) (ci := 1) rfl rfl rfl rfl hl.1 rfl (Nat.le_of_ble_eq_true rfl) dX4_cleaner_18 ⟨Nat.le_of_ble_eq_true rfl, Nat.le_of_ble_eq_true rfl⟩ (fun x u H locs d18 hd18 hw18 hP hD hS => ?_)
  have hts := dr_words hts0 d18
  obtain ⟨x18, rfl⟩ : ∃ z, z = x := ⟨_, rfl⟩
  have hP : va_P D vwCl [(h0, .inr (4, [.ref xr, .ref xn, .int (nI nr), .int (nI nn)])), (xn, .inl (t 4, 30, .inr (.inr (.inr (.inr (g2)))))), (ru, .inr (1, [.ref rc, .int gl, .ref sy, .ref cu, .int bs, .int st, .int sc, .int fl, .int hi, .double iv, .int ih, .double wa, .double ou, .double ba]))] H := hP
  have hD : va_D A [(h0, .inr (4, [.ref xr, .ref xn, .int (nI nr), .int (nI nn)])), (xn, .inl (t 4, 30, .inr (.inr (.inr (.inr (g2)))))), (ru, .inr (1, [.ref rc, .int gl, .ref sy, .ref cu, .int bs, .int st, .int sc, .int fl, .int hi, .double iv, .int ih, .double wa, .double ou, .double ba]))] := hD
  have hP9 : va_P D vwCl [(h0, .inr (4, [.ref xr, .ref xn, .int (nI nr), .int (nI nn)])), (xn, .inl (t 4, 30, .inr (.inr (.inr (.inr (g2)))))), (ru, .inr (1, [.ref rc, .int gl, .ref sy, .ref cu, .int bs, .int st, .int sc, .int fl, .int hi, .double iv, .int ih, .double wa, .double ou, .double ba]))] _ := hP.sub [0, 1, 2] rfl
  have hD9 : va_D A [(h0, .inr (4, [.ref xr, .ref xn, .int (nI nr), .int (nI nn)])), (xn, .inl (t 4, 30, .inr (.inr (.inr (.inr (g2)))))), (ru, .inr (1, [.ref rc, .int gl, .ref sy, .ref cu, .int bs, .int st, .int sc, .int fl, .int hi, .double iv, .int ih, .double wa, .double ou, .double ba]))] := hD.sub [0, 1, 2] (by decide) rfl
  refine W.endD hd18 ?_
  exact W.dret (v := x18) hx hb hr (fun tt ht hW => ⟨⟨x18, (), rfl, hw18, by rw [ht]; exact hP9, hKK.moved hW.alike, hD9⟩, hS.F ht⟩) hS.2.2 dX4_cleaner_21
