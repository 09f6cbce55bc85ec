theorem mw_L_law_instantiableCleanRunsRecipe3 : Cond.instantiable RX0 3 ∈ wsL_law := List.mem_append_left _ (List.mem_append_left _ (List.mem_append_left _ (List.mem_append_left _ (List.mem_append_left _ (List.mem_append_left _ (List.mem_append_left _ (List.mem_append_right _ (List.mem_append_right _ (List.mem_append_left _ (List.mem_of_getElem? (i := 4) rfl))))))))))
theorem mw_L_law_instantiableCleanRunsRun14 : Cond.instantiable RX1 14 ∈ wsL_law := List.mem_append_left _ (List.mem_append_left _ (List.mem_append_left _ (List.mem_append_left _ (List.mem_append_left _ (List.mem_append_left _ (List.mem_append_left _ (List.mem_append_right _ (List.mem_append_right _ (List.mem_append_right _ (List.mem_append_right _ (List.mem_append_left _ (List.mem_of_getElem? (i := 13) rfl))))))))))))
theorem mw_L_law_instantiableCleanRunsStay7 : Cond.instantiable RX2 7 ∈ wsL_law := List.mem_append_left _ (List.mem_append_left _ (List.mem_append_left _ (List.mem_append_left _ (List.mem_append_left _ (List.mem_append_left _ (List.mem_append_left _ (List.mem_append_right _ (List.mem_append_right _ (List.mem_append_right _ (List.mem_append_right _ (List.mem_append_right _ (List.mem_append_left _ (List.mem_of_getElem? (i := 4) rfl)))))))))))))
theorem mw_L_law_instantiableCleanRunsStep4 : Cond.instantiable RX3 4 ∈ wsL_law := List.mem_append_left _ (List.mem_append_left _ (List.mem_append_left _ (List.mem_append_left _ (List.mem_append_left _ (List.mem_append_left _ (List.mem_append_left _ (List.mem_append_right _ (List.mem_append_right _ (List.mem_append_right _ (List.mem_append_left _ (List.mem_of_getElem? (i := 2) rfl)))))))))))
theorem mw_L_law_instantiableCleanRuns4 : Cond.instantiable RX4 4 ∈ wsL_law := List.mem_append_left _ (List.mem_append_left _ (List.mem_append_left _ (List.mem_append_left _ (List.mem_append_left _ (List.mem_append_left _ (List.mem_append_left _ (List.mem_append_left _ (List.mem_of_getElem? (i := 1) rfl))))))))
theorem mw_L_law_instantiableCleanRunsModel24 : Cond.instantiable RX5 24 ∈ wsL_law := List.mem_append_left _ (List.mem_append_left _ (List.mem_append_left _ (List.mem_append_left _ (List.mem_append_left _ (List.mem_append_left _ (List.mem_append_left _ (List.mem_append_left _ (List.mem_of_getElem? (i := 4) rfl))))))))
theorem mw_L_law_arrayClassint : Cond.arrayClass .int ∈ wsL_law := List.mem_append_left _ (List.mem_append_left _ (List.mem_append_left _ (List.mem_append_left _ (List.mem_append_left _ (List.mem_append_left _ (List.mem_append_left _ (List.mem_append_left _ (List.mem_of_getElem? (i := 23) rfl))))))))
theorem mw_L_law_arrayClassboolean : Cond.arrayClass .boolean ∈ wsL_law := List.mem_append_left _ (List.mem_append_left _ (List.mem_append_left _ (List.mem_append_left _ (List.mem_append_left _ (List.mem_append_left _ (List.mem_append_left _ (List.mem_append_right _ (List.mem_append_left _ (List.mem_of_getElem? (i := 1) rfl)))))))))
theorem mw_L_law_arrayClassdouble : Cond.arrayClass .double ∈ wsL_law := List.mem_append_left _ (List.mem_append_left _ (List.mem_append_left _ (List.mem_append_left _ (List.mem_append_left _ (List.mem_append_left _ (List.mem_append_left _ (List.mem_append_right _ (List.mem_append_left _ (List.mem_of_getElem? (i := 5) rfl)))))))))
theorem mw_L_law_classLinkCleanRunsLaw7CleanRuns : Cond.classLink RL 7 RX4 ∈ wsL_law := List.mem_append_left _ (List.mem_append_left _ (List.mem_append_left _ (List.mem_append_left _ (List.mem_append_left _ (List.mem_append_left _ (List.mem_append_left _ (List.mem_append_left _ (List.mem_of_getElem? (i := 0) rfl))))))))
theorem mw_L_law_initializedCleanRuns : Cond.initialized RX4 ∈ wsL_law := List.mem_append_left _ (List.mem_append_left _ (List.mem_append_left _ (List.mem_append_left _ (List.mem_append_left _ (List.mem_append_left _ (List.mem_append_left _ (List.mem_append_left _ (List.mem_of_getElem? (i := 2) rfl))))))))
theorem mw_L_law_methodLinkCleanRunsLaw9CleanRunsinitV : Cond.methodLink RL 9 yX4_init ∈ wsL_law := List.mem_append_left _ (List.mem_append_left _ (List.mem_append_left _ (List.mem_append_left _ (List.mem_append_left _ (List.mem_append_left _ (List.mem_append_left _ (List.mem_append_left _ (List.mem_of_getElem? (i := 7) rfl))))))))
theorem mw_L_law_instanceMethodCleanRunsinitV : Cond.instanceMethod yX4_init ∈ wsL_law := List.mem_append_left _ (List.mem_append_left _ (List.mem_append_left _ (List.mem_append_left _ (List.mem_append_left _ (List.mem_append_left _ (List.mem_append_left _ (List.mem_append_left _ (List.mem_of_getElem? (i := 8) rfl))))))))
theorem mw_L_law_classLinkCleanRunsLaw10CleanRunsModel : Cond.classLink RL 10 RX5 ∈ wsL_law := List.mem_append_left _ (List.mem_append_left _ (List.mem_append_left _ (List.mem_append_left _ (List.mem_append_left _ (List.mem_append_left _ (List.mem_append_left _ (List.mem_append_left _ (List.mem_of_getElem? (i := 3) rfl))))))))
theorem mw_L_law_initializedCleanRunsModel : Cond.initialized RX5 ∈ wsL_law := List.mem_append_left _ (List.mem_append_left _ (List.mem_append_left _ (List.mem_append_left _ (List.mem_append_left _ (List.mem_append_left _ (List.mem_append_left _ (List.mem_append_left _ (List.mem_of_getElem? (i := 5) rfl))))))))
theorem mw_L_law_methodLinkCleanRunsLaw12CleanRunsModelinitV : Cond.methodLink RL 12 yX5_init ∈ wsL_law := List.mem_append_left _ (List.mem_append_left _ (List.mem_append_left _ (List.mem_append_left _ (List.mem_append_left _ (List.mem_append_left _ (List.mem_append_left _ (List.mem_append_left _ (List.mem_of_getElem? (i := 19) rfl))))))))
theorem mw_L_law_instanceMethodCleanRunsModelinitV : Cond.instanceMethod yX5_init ∈ wsL_law := List.mem_append_left _ (List.mem_append_left _ (List.mem_append_left _ (List.mem_append_left _ (List.mem_append_left _ (List.mem_append_left _ (List.mem_append_left _ (List.mem_append_left _ (List.mem_of_getElem? (i := 20) rfl))))))))
set_option maxHeartbeats 4000000 in
set_option maxRecDepth 100000 in
theorem law_loop {p : Program} {e : Env} {s : State} {m : MethodId} {below : List Frame} {meth : Method} {c : Code} {l : Launch} {D : va_G} {t : Nat → ClassId} {b L : Nat} {xs : Nat → Int32} {x0 m0 : Nat} (hL : L ≤ 3072) (C0 : lw_At p s m meth c b L xs) (hKK : yK D t s) :
    ∀ (n k : Nat) (Z : St) (d0 : Drawn) (H : Heap) (locs : List Loc) (ls : Array Slot), 6 * k ≤ L → L + 1 ≤ 6 * k + n → Inv Z → s.drawn.sameBut d0 lw_cs → gH D t s.heap.size x0 m0 Z Z H → va_S (fun q => s.heap.size ≤ q) s.heap H locs → lv_has ls 8 [(0, .ref b), (1, .ref x0), (2, .ref m0), (3, .int (nI (6 * k)))] →
      W p l e room_1 (s.setDrawn d0) m #[Value.ref b] below meth c H locs (26 + 3 * k) (2038 + 33 * k) (lw_Z below #[Value.ref b] s) (F0 m 18 ls []) := by
  obtain ⟨hx, hb, hr, hml, hown, hts1, hX, hbl, hlocks, hgv⟩ := id C0
  have hbA : ¬ (fun q : Nat => s.heap.size ≤ q) b := Nat.not_le.mpr hbl
  have hXd : ∀ d, va_X b L xs (s.setDrawn d) s.heap := fun d => hX
  intro n
  induction n with
  | zero =>
    intro k Z d0 H locs ls h1 h2
    exact absurd h2 (by omega)
  | succ n ih =>
    intro k Z d0 H locs ls hk hn hv hd0 hG hS hl
    have hk512 : k ≤ 512 := by omega
    refine lv_iload_n hx hb dL_law_18 rfl (lv_at hl 3 rfl) ?_
    refine lv_aload_n hx hb dL_law_19 rfl (lv_at hl 0 rfl) ?_
    refine va_slen hx hb (hXd d0) hbl hbA hS dL_law_20 ?_
    refine lv_bipush (v := 6) hx hb dL_law_21 (by decide) ?_
    refine lv_isub hx hb dL_law_23 ?_
    refine lv_icmp_gt (tgt := 631) hx hb dL_law_24 (by decide) (fun hc => ?_) (fun hc => ?_)
    · refine lv_iconst (v := 1) hx hb dL_law_631 (by decide) ?_
      refine va_forget (fun q hq => hS.2.2 q hq) ?_
      refine W.widen (k := 600000) (n := 7302250) (Nat.le_trans (show 26 + 3 * k ≤ 2000 by omega) (Nat.le_of_ble_eq_true rfl)) (Nat.le_trans (show 2038 + 33 * k ≤ 20000 by omega) (Nat.le_of_ble_eq_true rfl)) ?_
      exact lw_ret hd0 hx hb hr hlocks dL_law_632
    have h6 : 6 * k + 6 ≤ L := Classical.byContradiction fun h => hc ((y_exit hL hk).mpr h)
    have hc9 : 26 + 3 * k + 3 ≤ 600000 := Nat.le_trans (show _ ≤ 2000 by omega) (Nat.le_of_ble_eq_true rfl)
    have hs9 : 2038 + 33 * k + 33 ≤ 7302250 := Nat.le_trans (show _ ≤ 20000 by omega) (Nat.le_of_ble_eq_true rfl)
    have step : ∀ (Z2 : St) (d1 : Drawn) (H1 : Heap) (locs1 : List Loc) (ls1 : Array Slot), Inv Z2 → s.drawn.sameBut d1 lw_cs → gH D t s.heap.size x0 m0 Z2 Z2 H1 → va_S (fun q => s.heap.size ≤ q) s.heap H1 locs1 → lv_has ls1 8 [(0, .ref b), (1, .ref x0), (2, .ref m0), (3, .int (nI (6 * k)))] → W p l e room_1 (s.setDrawn d1) m #[Value.ref b] below meth c H1 locs1 (26 + 3 * k + 3) (2038 + 33 * k + 33) (lw_Z below #[Value.ref b] s) (F0 m 625 ls1 []) := by
      intro Z2 d1 H1 locs1 ls1 hv2 hd2 hG2 hS2 hl2
      refine lv_iinc (v := nI (6 * (k + 1))) (lv' := [(3, .int (nI (6 * (k + 1)))), (0, .ref b), (1, .ref x0), (2, .ref m0)]) hx hb dL_law_625 hl2 (k := 3) rfl (nI_add (6 * k) 6) (by decide) rfl (fun ls hl => ?_)
      refine lv_goto (tgt := 18) hx hb dL_law_628 (by decide) ?_
      exact ih (k + 1) Z2 d1 H1 locs1 ls (by omega) (by omega) hv2 hd2 hG2 hS2 (lv_sub hl [1, 2, 3, 0] rfl)
    refine lv_aload_n hx hb dL_law_27 rfl (lv_at hl 0 rfl) ?_
    refine lv_iload_n hx hb dL_law_28 rfl (lv_at hl 3 rfl) ?_
    refine y_sld (j := 6 * k) hx hb (hXd d0) hbl hbA hS (by omega) (by omega) dL_law_29 ?_
    refine lv_bipush (v := 15) hx hb dL_law_30 (by decide) ?_
    refine lv_iand hx hb dL_law_32 ?_
    obtain ⟨v, hv16, ev⟩ := pk_andE (xs (6 * k)) 4 (m := 15) (by decide)
    refine y_int (nI v) ev ?_
    have hv16 : v < 16 := hv16
    rcases (show v = 0 ∨ v = 1 ∨ v = 2 ∨ v = 3 ∨ v = 4 ∨ v = 5 ∨ v = 6 ∨ v = 7 ∨ v = 8 ∨ v = 9 ∨ v = 10 ∨ v = 11 ∨ v = 12 ∨ v = 13 ∨ v = 14 ∨ v = 15 by omega) with rfl | rfl | rfl | rfl | rfl | rfl | rfl | rfl | rfl | rfl | rfl | rfl | rfl | rfl | rfl | rfl
    · refine lv_tableIn (tgt := 104) hx hb dL_law_33 (by decide) (by decide) rfl (by decide) ?_
      exact law_recipe hL C0 hKK h6 hv hd0 hG hS hc9 hs9 hl step
    · refine lv_tableIn (tgt := 117) hx hb dL_law_33 (by decide) (by decide) rfl (by decide) ?_
      exact law_step hL C0 hKK h6 hv hd0 hG hS hc9 hs9 hl step
    · refine lv_tableIn (tgt := 200) hx hb dL_law_33 (by decide) (by decide) rfl (by decide) ?_
      exact law_start hL C0 hKK h6 hv hd0 hG hS hc9 hs9 hl step
    · refine lv_tableIn (tgt := 233) hx hb dL_law_33 (by decide) (by decide) rfl (by decide) ?_
      exact law_tick hL C0 hKK h6 hv hd0 hG hS hc9 hs9 hl step
    · refine lv_tableIn (tgt := 316) hx hb dL_law_33 (by decide) (by decide) rfl (by decide) ?_
      exact law_state hL C0 hKK h6 hv hd0 hG hS hc9 hs9 hl step
    · refine lv_tableIn (tgt := 339) hx hb dL_law_33 (by decide) (by decide) rfl (by decide) ?_
      exact law_stepOf hL C0 hKK h6 hv hd0 hG hS hc9 hs9 hl step
    · refine lv_tableIn (tgt := 362) hx hb dL_law_33 (by decide) (by decide) rfl (by decide) ?_
      exact law_counted hL C0 hKK h6 hv hd0 hG hS hc9 hs9 hl step
    · refine lv_tableIn (tgt := 386) hx hb dL_law_33 (by decide) (by decide) rfl (by decide) ?_
      exact law_failed hL C0 hKK h6 hv hd0 hG hS hc9 hs9 hl step
    · refine lv_tableIn (tgt := 409) hx hb dL_law_33 (by decide) (by decide) rfl (by decide) ?_
      exact law_cleaner hL C0 hKK h6 hv hd0 hG hS hc9 hs9 hl step
    · refine lv_tableIn (tgt := 470) hx hb dL_law_33 (by decide) (by decide) rfl (by decide) ?_
      exact law_interface2 hL C0 hKK h6 hv hd0 hG hS hc9 hs9 hl step
    · refine lv_tableIn (tgt := 523) hx hb dL_law_33 (by decide) (by decide) rfl (by decide) ?_
      exact law_level hL C0 hKK h6 hv hd0 hG hS hc9 hs9 hl step
    · refine lv_tableIn (tgt := 546) hx hb dL_law_33 (by decide) (by decide) rfl (by decide) ?_
      exact law_breakOff hL C0 hKK h6 hv hd0 hG hS hc9 hs9 hl step
    · refine lv_tableIn (tgt := 569) hx hb dL_law_33 (by decide) (by decide) rfl (by decide) ?_
      exact law_record hL C0 hKK h6 hv hd0 hG hS hc9 hs9 hl step
    · refine lv_tableIn (tgt := 612) hx hb dL_law_33 (by decide) (by decide) rfl (by decide) ?_
      exact law_states hL C0 hKK h6 hv hd0 hG hS hc9 hs9 hl step
    · refine lv_tableOut (tgt := 625) hx hb dL_law_33 (by decide) (by decide) ?_
      exact W.widen (by omega) (by omega) (step Z d0 H locs ls hv hd0 hG hS hl)
    · refine lv_tableOut (tgt := 625) hx hb dL_law_33 (by decide) (by decide) ?_
      exact W.widen (by omega) (by omega) (step Z d0 H locs ls hv hd0 hG hS hl)
set_option maxHeartbeats 4000000 in
set_option maxRecDepth 100000 in
/-- THE LAW, from its entry -/
theorem whole_start {p : Program} {e : Env} {s : State} {m : MethodId} {below : List Frame} {meth : Method} {c : Code} (l : Launch) (hflags : l.flags = flags0) {b L : Nat} {xs : Nat → Int32} (hL : L ≤ 3072) (C0 : lw_At p s m meth c b L xs) : W p l e room_1 s m #[Value.ref b] below meth c s.heap [] 0 0 (lw_Z below #[Value.ref b] s) (entryFrame m ([Value.ref b] : List Value).toArray 8) := by
  obtain ⟨hx, hb, hr, hml, hown, hts1, hX, hbl, hlocks, hgv⟩ := id C0
  have hts : ∀ w ∈ wsL_law, w.before #[Value.ref b] s = true := fun w h => hts1 w (wsL_law_in w h)
  have hA : ∀ q : Nat, s.heap.size ≤ q → (fun q : Nat => s.heap.size ≤ q) q := fun _ h => h
  obtain ⟨c0, i0, h0⟩ := u_known (C := RX0) (T := TX0) (N := 3) (n := 3) hts1 inX0 (hts _  mw_L_law_instantiableCleanRunsRecipe3)
  obtain ⟨c1, i1, h1⟩ := u_known (C := RX1) (T := TX1) (N := 14) (n := 14) hts1 inX1 (hts _  mw_L_law_instantiableCleanRunsRun14)
  obtain ⟨c2, i2, h2⟩ := u_known (C := RX2) (T := TX2) (N := 7) (n := 7) hts1 inX2 (hts _  mw_L_law_instantiableCleanRunsStay7)
  obtain ⟨c3, i3, h3⟩ := u_known (C := RX3) (T := TX3) (N := 4) (n := 4) hts1 inX3 (hts _  mw_L_law_instantiableCleanRunsStep4)
  obtain ⟨c4, i4, h4⟩ := u_known (C := RX4) (T := TX4) (N := 4) (n := 4) hts1 inX4 (hts _  mw_L_law_instantiableCleanRuns4)
  obtain ⟨c5, i5, h5⟩ := u_known (C := RX5) (T := TX5) (N := 24) (n := 24) hts1 inX5 (hts _  mw_L_law_instantiableCleanRunsModel24)
  obtain ⟨t0, a0, r0⟩ := y_cls (ty := .int) (by simp) (hts _  mw_L_law_arrayClassint)
  obtain ⟨t1, a1, r1⟩ := y_cls (ty := .boolean) (by simp) (hts _  mw_L_law_arrayClassboolean)
  obtain ⟨t2, a2, r2⟩ := y_cls (ty := .double) (by simp) (hts _  mw_L_law_arrayClassdouble)
  have ao0 : (Cond.arrayOver (.object RX0)).before #[Value.ref b] s = true := hts1 _ (List.mem_of_getElem? (i := 29) (by decide +kernel))
  obtain ⟨t3, a3, r3⟩ := y_clsO ao0
  have ao1 : (Cond.arrayOver (.object RX1)).before #[Value.ref b] s = true := hts1 _ (List.mem_of_getElem? (i := 31) (by decide +kernel))
  obtain ⟨t4, a4, r4⟩ := y_clsO ao1
  have ao2 : (Cond.arrayOver (.object RX2)).before #[Value.ref b] s = true := hts1 _ (List.mem_of_getElem? (i := 123) (by decide +kernel))
  obtain ⟨t5, a5, r5⟩ := y_clsO ao2
  have ao3 : (Cond.arrayOver (.object RX3)).before #[Value.ref b] s = true := hts1 _ (List.mem_of_getElem? (i := 55) (by decide +kernel))
  obtain ⟨t6, a6, r6⟩ := y_clsO ao3
  obtain ⟨D, hDc⟩ : ∃ D : va_G, ∀ (k : Nat) (q : vw_C), vwCl[k]? = some q → u_Kn s q.1 q.2.1 q.2.2 (D.1 k) (D.2 k) := by
    refine ⟨(fun k => if k = 0 then c0 else if k = 1 then c1 else if k = 2 then c2 else if k = 3 then c3 else if k = 4 then c4 else c5, fun k => if k = 0 then i0 else if k = 1 then i1 else if k = 2 then i2 else if k = 3 then i3 else if k = 4 then i4 else i5), ?_⟩
    intro k q hq
    match k, hq with
    | 0, hq => cases hq; exact h0
    | 1, hq => cases hq; exact h1
    | 2, hq => cases hq; exact h2
    | 3, hq => cases hq; exact h3
    | 4, hq => cases hq; exact h4
    | 5, hq => cases hq; exact h5
    | k + 6, hq => simp [vwCl] at hq
  obtain ⟨t, hta⟩ : ∃ t : Nat → ClassId, ∀ (k : Nat) (q : ClassId × FieldType), (yT t)[k]? = some q → ArrOfT s q.1 q.2 ∧ va_RA s q.1 q.2 := by
    refine ⟨fun k => if k = 0 then t0 else if k = 1 then t1 else if k = 2 then t2 else if k = 3 then t3 else if k = 4 then t4 else if k = 5 then t5 else t6, ?_⟩
    intro k q hq
    match k, hq with
    | 0, hq => cases hq; exact ⟨a0, r0⟩
    | 1, hq => cases hq; exact ⟨a1, r1⟩
    | 2, hq => cases hq; exact ⟨a2, r2⟩
    | 3, hq => cases hq; exact ⟨a3, r3⟩
    | 4, hq => cases hq; exact ⟨a4, r4⟩
    | 5, hq => cases hq; exact ⟨a5, r5⟩
    | 6, hq => cases hq; exact ⟨a6, r6⟩
    | k + 7, hq => simp [yT] at hq
  have hKK : yK D t s := ⟨⟨hDc, hta⟩, va_AO.of ao0, va_AO.of ao1, va_AO.of ao2, va_AO.of ao3⟩
  have hK := hKK.1
  have hS : va_S (fun q : Nat => s.heap.size ≤ q) s.heap s.heap [] := va_S.rf
  have hP : va_P D vwCl [] s.heap := fun k q h => by simp at h
  have hD : va_D (fun q : Nat => s.heap.size ≤ q) [] := ⟨fun i j p q h => by simp at h, fun k q h => by simp at h⟩
  have hSF : CallFix p m c cL_law 8 s _ wsL_law RL := ⟨hx, hb, hml, hown, hts⟩
  have hl := lv_entry ([.ref b]) (n := 8) (Nat.le_of_ble_eq_true rfl)
  rw [lg_entry_eq]
  generalize (lg_sl ([.ref b]) ++ List.replicate (8 - (lg_sl ([.ref b])).length) Slot.unset).toArray = ls at hl ⊢
  have hl : lv_has ls 8 [(0, .ref b)] := hl
  refine va_new (ci := 4) (fs := [.null, .null, .int 0, .int 0]) (C := RX4) (T := TX4) (N := 4) hx hb hts1 inX4 tyX4 tyX4_ok hown (hts _  mw_L_law_classLinkCleanRunsLaw7CleanRuns) (hts _  mw_L_law_instantiableCleanRuns4) (hts _  mw_L_law_initializedCleanRuns) hK hP hD hS hA rfl (fun j hj => by rcases (show j = 0 ∨ j = 1 ∨ j = 2 ∨ j = 3 by omega) with rfl | rfl | rfl | rfl <;> rfl) (Nat.le_of_ble_eq_true rfl) (Nat.le_of_ble_eq_true rfl) dL_law_0 (fun q0 H hP hD hS => ?_)
  have hP : va_P D vwCl [(q0, .inr (4, [.null, .null, .int 0, .int 0]))] H := hP
  have hD : va_D (fun q : Nat => s.heap.size ≤ q) [(q0, .inr (4, [.null, .null, .int 0, .int 0]))] := hD
  refine lv_dup hx hb dL_law_3 rfl ?_
  refine y_Iv (As := []) (rest := [.ref q0]) (wc := [(q0, .inr (4, [.null, .null, .int 0, .int 0]))]) (wr := []) [0] [] hSF (c_CR_init l D t H.size q0) (cwI 0 hts gL_law_X4_init rfl rfl rfl (hts _  mw_L_law_initializedCleanRuns) (hts _  mw_L_law_methodLinkCleanRunsLaw9CleanRunsinitV) (hts _  mw_L_law_instanceMethodCleanRunsinitV) rfl (by decide +kernel) ⟨Nat.le_of_ble_eq_true rfl, Nat.le_of_ble_eq_true rfl⟩) hKK hP hD hS hA rfl rfl (by decide) (by decide) (by decide) rfl hl.1 rfl (Nat.le_of_ble_eq_true rfl) dL_law_4 ⟨Nat.le_of_ble_eq_true rfl, Nat.le_of_ble_eq_true rfl⟩ (fun u H locs _ hP hD hS => ?_)
  obtain ⟨qa, qb⟩ := u
  have hP : va_P D vwCl [(q0, .inr (4, [.ref qa, .ref qb, .int 0, .int 0])), (qa, .inl (t 3, 10, .inr (.inr (.inr (.inr (fun _ => none)))))), (qb, .inl (t 4, 30, .inr (.inr (.inr (.inr (fun _ => none))))))] H := hP
  have hD : va_D (fun q : Nat => s.heap.size ≤ q) [(q0, .inr (4, [.ref qa, .ref qb, .int 0, .int 0])), (qa, .inl (t 3, 10, .inr (.inr (.inr (.inr (fun _ => none)))))), (qb, .inl (t 4, 30, .inr (.inr (.inr (.inr (fun _ => none))))))] := hD
  refine lv_astore_n (lv' := [(1, .ref q0), (0, .ref b)]) hx hb dL_law_7 rfl hl (by decide) rfl (fun ls hl => ?_)
  refine va_new (ci := 5) (fs := [.int 0, .null, .null, .null, .null, .null, .null, .int 0, .null, .null, .null, .null, .null, .null, .null, .null, .null, .null, .null, .null, .null, .null, .null, .null]) (C := RX5) (T := TX5) (N := 24) hx hb hts1 inX5 tyX5 tyX5_ok hown (hts _  mw_L_law_classLinkCleanRunsLaw10CleanRunsModel) (hts _  mw_L_law_instantiableCleanRunsModel24) (hts _  mw_L_law_initializedCleanRunsModel) hK hP hD hS hA rfl (fun j hj => by rcases (show j = 0 ∨ j = 1 ∨ j = 2 ∨ j = 3 ∨ j = 4 ∨ j = 5 ∨ j = 6 ∨ j = 7 ∨ j = 8 ∨ j = 9 ∨ j = 10 ∨ j = 11 ∨ j = 12 ∨ j = 13 ∨ j = 14 ∨ j = 15 ∨ j = 16 ∨ j = 17 ∨ j = 18 ∨ j = 19 ∨ j = 20 ∨ j = 21 ∨ j = 22 ∨ j = 23 by omega) with rfl | rfl | rfl | rfl | rfl | rfl | rfl | rfl | rfl | rfl | rfl | rfl | rfl | rfl | rfl | rfl | rfl | rfl | rfl | rfl | rfl | rfl | rfl | rfl <;> rfl) (Nat.le_of_ble_eq_true rfl) (Nat.le_of_ble_eq_true rfl) dL_law_8 (fun q8 H hP hD hS => ?_)
  have hP : va_P D vwCl [(q0, .inr (4, [.ref qa, .ref qb, .int 0, .int 0])), (qa, .inl (t 3, 10, .inr (.inr (.inr (.inr (fun _ => none)))))), (qb, .inl (t 4, 30, .inr (.inr (.inr (.inr (fun _ => none)))))), (q8, .inr (5, [.int 0, .null, .null, .null, .null, .null, .null, .int 0, .null, .null, .null, .null, .null, .null, .null, .null, .null, .null, .null, .null, .null, .null, .null, .null]))] H := hP
  have hD : va_D (fun q : Nat => s.heap.size ≤ q) [(q0, .inr (4, [.ref qa, .ref qb, .int 0, .int 0])), (qa, .inl (t 3, 10, .inr (.inr (.inr (.inr (fun _ => none)))))), (qb, .inl (t 4, 30, .inr (.inr (.inr (.inr (fun _ => none)))))), (q8, .inr (5, [.int 0, .null, .null, .null, .null, .null, .null, .int 0, .null, .null, .null, .null, .null, .null, .null, .null, .null, .null, .null, .null, .null, .null, .null, .null]))] := hD
  refine lv_dup hx hb dL_law_11 rfl ?_
  refine y_Iv (As := []) (rest := [.ref q8]) (wc := [(q8, .inr (5, [.int 0, .null, .null, .null, .null, .null, .null, .int 0, .null, .null, .null, .null, .null, .null, .null, .null, .null, .null, .null, .null, .null, .null, .null, .null]))]) (wr := [(q0, .inr (4, [.ref qa, .ref qb, .int 0, .int 0])), (qa, .inl (t 3, 10, .inr (.inr (.inr (.inr (fun _ => none)))))), (qb, .inl (t 4, 30, .inr (.inr (.inr (.inr (fun _ => none))))))]) [3] [0, 1, 2] hSF (c_M_init l D t H.size q8) (cwI 0 hts gL_law_X5_init rfl rfl rfl (hts _  mw_L_law_initializedCleanRunsModel) (hts _  mw_L_law_methodLinkCleanRunsLaw12CleanRunsModelinitV) (hts _  mw_L_law_instanceMethodCleanRunsModelinitV) rfl (by decide +kernel) ⟨Nat.le_of_ble_eq_true rfl, Nat.le_of_ble_eq_true rfl⟩) hKK hP hD hS hA rfl rfl (by decide) (by decide) (by decide) rfl hl.1 rfl (Nat.le_of_ble_eq_true rfl) dL_law_12 ⟨Nat.le_of_ble_eq_true rfl, Nat.le_of_ble_eq_true rfl⟩ (fun u H locs _ hP hD hS => ?_)
  refine lv_astore_n (lv' := [(2, .ref q8), (1, .ref q0), (0, .ref b)]) hx hb dL_law_15 rfl hl (by decide) rfl (fun ls hl => ?_)
  refine lv_iconst (v := 0) hx hb dL_law_16 (by decide) ?_
  refine lv_istore_n (lv' := [(3, .int 0), (2, .ref q8), (1, .ref q0), (0, .ref b)]) hx hb dL_law_17 rfl hl (by decide) rfl (fun ls hl => ?_)
  have hG : gH D t s.heap.size q0 q8 Z0 Z0 H := gH_init hS.1 hP hD
  have hl9 : lv_has ls 8 [(0, .ref b), (1, .ref q0), (2, .ref q8), (3, .int (nI (6 * 0)))] := lv_sub hl [3, 2, 1, 0] rfl
  exact W.widen (k := 26 + 3 * 0) (n := 2038 + 33 * 0) (by decide) (by decide) (W.base (law_loop hL C0 hKK (L + 1) 0 Z0 s.drawn H locs ls (Nat.zero_le L) (by omega) inv_0 (Drawn.sameBut.refl s.drawn lw_cs) hG hS hl9))
