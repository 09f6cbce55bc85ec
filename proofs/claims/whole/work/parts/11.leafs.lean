/-- a recipe takes a step -/
def fK (n g : Int32) : Int32 := if g = 0 then (if 12 ≤ n then 0 else 1) else 0
theorem mw_X3_init_methodLinkCleanRunsStep3javalangObjectinitV : Cond.methodLink RX3 3 objectInit ∈ wsX3_init := List.mem_cons_of_mem _ (List.mem_append_left _ (List.mem_of_getElem? (i := 0) rfl))
theorem mw_X3_init_instanceMethodjavalangObjectinitV : Cond.instanceMethod objectInit ∈ wsX3_init := List.mem_cons_of_mem _ (List.mem_append_left _ (List.mem_of_getElem? (i := 1) rfl))
theorem mw_X3_init_codejavalangObjectinitVobjectmethod1code1none : Cond.code objectInit ⟨#[0xb1]⟩ 1 none ∈ wsX3_init := List.mem_cons_of_mem _ (List.mem_append_left _ (List.mem_of_getElem? (i := 2) rfl))
theorem mc_X3_init_3 : ∀ w ∈ wsX30, w ∈ wsX3_init := fun w h => List.mem_cons_of_mem _ (List.mem_append_right _ (h))
theorem mw_X3_init_fieldLinkCleanRunsStep9CleanRunsStepkindI : Cond.fieldLink RX3 9 "CleanRuns$Step" "kind" "I" ∈ wsX3_init := List.mem_cons_of_mem _ (List.mem_append_left _ (List.mem_of_getElem? (i := 3) rfl))
theorem mw_X3_init_fieldLinkCleanRunsStep15CleanRunsStepsecondsI : Cond.fieldLink RX3 15 "CleanRuns$Step" "seconds" "I" ∈ wsX3_init := List.mem_cons_of_mem _ (List.mem_append_left _ (List.mem_of_getElem? (i := 4) rfl))
theorem mw_X3_init_fieldLinkCleanRunsStep18CleanRunsStepstrengthD : Cond.fieldLink RX3 18 "CleanRuns$Step" "strength" "D" ∈ wsX3_init := List.mem_cons_of_mem _ (List.mem_append_left _ (List.mem_of_getElem? (i := 5) rfl))
theorem mw_X3_init_fieldLinkCleanRunsStep22CleanRunsStepdegreesD : Cond.fieldLink RX3 22 "CleanRuns$Step" "degrees" "D" ∈ wsX3_init := List.mem_cons_of_mem _ (List.mem_append_left _ (List.mem_of_getElem? (i := 6) rfl))
theorem mc_X3_usesWater_3 : ∀ w ∈ wsX30, w ∈ wsX3_usesWater := fun w h => List.mem_cons_of_mem _ (List.mem_append_right _ (h))
theorem mw_X3_usesWater_fieldLinkCleanRunsStep9CleanRunsStepkindI : Cond.fieldLink RX3 9 "CleanRuns$Step" "kind" "I" ∈ wsX3_usesWater := List.mem_cons_of_mem _ (List.mem_append_left _ (List.mem_of_getElem? (i := 0) rfl))
theorem mc_X3_holds_3 : ∀ w ∈ wsX30, w ∈ wsX3_holds := fun w h => List.mem_cons_of_mem _ (List.mem_append_right _ (h))
theorem mw_X3_holds_fieldLinkCleanRunsStep9CleanRunsStepkindI : Cond.fieldLink RX3 9 "CleanRuns$Step" "kind" "I" ∈ wsX3_holds := List.mem_cons_of_mem _ (List.mem_append_left _ (List.mem_of_getElem? (i := 0) rfl))
theorem mw_X3_holds_fieldLinkCleanRunsStep18CleanRunsStepstrengthD : Cond.fieldLink RX3 18 "CleanRuns$Step" "strength" "D" ∈ wsX3_holds := List.mem_cons_of_mem _ (List.mem_append_left _ (List.mem_of_getElem? (i := 1) rfl))
theorem mw_X3_holds_fieldLinkCleanRunsStep22CleanRunsStepdegreesD : Cond.fieldLink RX3 22 "CleanRuns$Step" "degrees" "D" ∈ wsX3_holds := List.mem_cons_of_mem _ (List.mem_append_left _ (List.mem_of_getElem? (i := 2) rfl))
theorem mw_X3_holds_constantDoubleCleanRunsStep254602678819172646912 : Cond.constantDouble RX3 25 (4602678819172646912) ∈ wsX3_holds := List.mem_cons_of_mem _ (List.mem_append_left _ (List.mem_of_getElem? (i := 3) rfl))
theorem mw_X3_holds_constantDoubleCleanRunsStep274593671619917905920 : Cond.constantDouble RX3 27 (4593671619917905920) ∈ wsX3_holds := List.mem_cons_of_mem _ (List.mem_append_left _ (List.mem_of_getElem? (i := 4) rfl))
theorem mw_X2_init_methodLinkCleanRunsStay3javalangObjectinitV : Cond.methodLink RX2 3 objectInit ∈ wsX2_init := List.mem_cons_of_mem _ (List.mem_append_left _ (List.mem_of_getElem? (i := 0) rfl))
theorem mw_X2_init_instanceMethodjavalangObjectinitV : Cond.instanceMethod objectInit ∈ wsX2_init := List.mem_cons_of_mem _ (List.mem_append_left _ (List.mem_of_getElem? (i := 1) rfl))
theorem mw_X2_init_codejavalangObjectinitVobjectmethod1code1none : Cond.code objectInit ⟨#[0xb1]⟩ 1 none ∈ wsX2_init := List.mem_cons_of_mem _ (List.mem_append_left _ (List.mem_of_getElem? (i := 2) rfl))
theorem mc_X2_init_2 : ∀ w ∈ wsX20, w ∈ wsX2_init := fun w h => List.mem_cons_of_mem _ (List.mem_append_right _ (h))
theorem mw_X2_init_fieldLinkCleanRunsStay9CleanRunsStaystepLCleanRunsStep : Cond.fieldLink RX2 9 "CleanRuns$Stay" "step" "LCleanRuns$Step;" ∈ wsX2_init := List.mem_cons_of_mem _ (List.mem_append_left _ (List.mem_of_getElem? (i := 3) rfl))
theorem mw_X2_init_fieldLinkCleanRunsStay15CleanRunsStayfirstSecondI : Cond.fieldLink RX2 15 "CleanRuns$Stay" "firstSecond" "I" ∈ wsX2_init := List.mem_cons_of_mem _ (List.mem_append_left _ (List.mem_of_getElem? (i := 4) rfl))
theorem mw_X2_init_fieldLinkCleanRunsStay19CleanRunsStayendSecondI : Cond.fieldLink RX2 19 "CleanRuns$Stay" "endSecond" "I" ∈ wsX2_init := List.mem_cons_of_mem _ (List.mem_append_left _ (List.mem_of_getElem? (i := 5) rfl))
theorem mw_X2_init_fieldLinkCleanRunsStay22CleanRunsStaywaitedI : Cond.fieldLink RX2 22 "CleanRuns$Stay" "waited" "I" ∈ wsX2_init := List.mem_cons_of_mem _ (List.mem_append_left _ (List.mem_of_getElem? (i := 6) rfl))
theorem mw_X2_init_fieldLinkCleanRunsStay25CleanRunsStaycountedI : Cond.fieldLink RX2 25 "CleanRuns$Stay" "counted" "I" ∈ wsX2_init := List.mem_cons_of_mem _ (List.mem_append_left _ (List.mem_of_getElem? (i := 7) rfl))
theorem mw_X2_init_fieldLinkCleanRunsStay28CleanRunsStaymissedI : Cond.fieldLink RX2 28 "CleanRuns$Stay" "missed" "I" ∈ wsX2_init := List.mem_cons_of_mem _ (List.mem_append_left _ (List.mem_of_getElem? (i := 8) rfl))
theorem mw_X2_init_fieldLinkCleanRunsStay31CleanRunsStayfailuresI : Cond.fieldLink RX2 31 "CleanRuns$Stay" "failures" "I" ∈ wsX2_init := List.mem_cons_of_mem _ (List.mem_append_left _ (List.mem_of_getElem? (i := 9) rfl))
theorem mc_X2_told_2 : ∀ w ∈ wsX20, w ∈ wsX2_told := fun w h => List.mem_cons_of_mem _ (List.mem_append_left _ (List.mem_append_right _ (h)))
theorem mw_X2_told_fieldLinkCleanRunsStay9CleanRunsStaystepLCleanRunsStep : Cond.fieldLink RX2 9 "CleanRuns$Stay" "step" "LCleanRuns$Step;" ∈ wsX2_told := List.mem_cons_of_mem _ (List.mem_append_left _ (List.mem_append_left _ (List.mem_of_getElem? (i := 0) rfl)))
theorem mc_X2_told_3 : ∀ w ∈ wsX30, w ∈ wsX2_told := fun w h => List.mem_cons_of_mem _ (List.mem_append_right _ (h))
theorem mw_X2_told_fieldLinkCleanRunsStay34CleanRunsStepkindI : Cond.fieldLink RX2 34 "CleanRuns$Step" "kind" "I" ∈ wsX2_told := List.mem_cons_of_mem _ (List.mem_append_left _ (List.mem_append_left _ (List.mem_of_getElem? (i := 1) rfl)))
theorem mw_X2_told_fieldLinkCleanRunsStay31CleanRunsStayfailuresI : Cond.fieldLink RX2 31 "CleanRuns$Stay" "failures" "I" ∈ wsX2_told := List.mem_cons_of_mem _ (List.mem_append_left _ (List.mem_append_left _ (List.mem_of_getElem? (i := 2) rfl)))
theorem mw_X2_told_fieldLinkCleanRunsStay15CleanRunsStayfirstSecondI : Cond.fieldLink RX2 15 "CleanRuns$Stay" "firstSecond" "I" ∈ wsX2_told := List.mem_cons_of_mem _ (List.mem_append_left _ (List.mem_append_left _ (List.mem_of_getElem? (i := 3) rfl)))
theorem mw_X2_told_fieldLinkCleanRunsStay19CleanRunsStayendSecondI : Cond.fieldLink RX2 19 "CleanRuns$Stay" "endSecond" "I" ∈ wsX2_told := List.mem_cons_of_mem _ (List.mem_append_left _ (List.mem_append_left _ (List.mem_of_getElem? (i := 4) rfl)))
theorem mw_X0_init_methodLinkCleanRunsRecipe3javalangObjectinitV : Cond.methodLink RX0 3 objectInit ∈ wsX0_init := List.mem_cons_of_mem _ (List.mem_append_left _ (List.mem_of_getElem? (i := 0) rfl))
theorem mw_X0_init_instanceMethodjavalangObjectinitV : Cond.instanceMethod objectInit ∈ wsX0_init := List.mem_cons_of_mem _ (List.mem_append_left _ (List.mem_of_getElem? (i := 1) rfl))
theorem mw_X0_init_codejavalangObjectinitVobjectmethod1code1none : Cond.code objectInit ⟨#[0xb1]⟩ 1 none ∈ wsX0_init := List.mem_cons_of_mem _ (List.mem_append_left _ (List.mem_of_getElem? (i := 2) rfl))
theorem mw_X0_init_classLinkCleanRunsRecipe9CleanRunsStep : Cond.classLink RX0 9 RX3 ∈ wsX0_init := List.mem_cons_of_mem _ (List.mem_append_left _ (List.mem_of_getElem? (i := 3) rfl))
theorem mc_X0_init_0 : ∀ w ∈ wsX00, w ∈ wsX0_init := fun w h => List.mem_cons_of_mem _ (List.mem_append_right _ (h))
theorem mw_X0_init_fieldLinkCleanRunsRecipe11CleanRunsRecipestepsLCleanRunsStep : Cond.fieldLink RX0 11 "CleanRuns$Recipe" "steps" "[LCleanRuns$Step;" ∈ wsX0_init := List.mem_cons_of_mem _ (List.mem_append_left _ (List.mem_of_getElem? (i := 4) rfl))
theorem mw_X0_init_fieldLinkCleanRunsRecipe17CleanRunsRecipesizeI : Cond.fieldLink RX0 17 "CleanRuns$Recipe" "size" "I" ∈ wsX0_init := List.mem_cons_of_mem _ (List.mem_append_left _ (List.mem_of_getElem? (i := 5) rfl))
theorem mw_X0_init_fieldLinkCleanRunsRecipe21CleanRunsRecipebegunZ : Cond.fieldLink RX0 21 "CleanRuns$Recipe" "begun" "Z" ∈ wsX0_init := List.mem_cons_of_mem _ (List.mem_append_left _ (List.mem_of_getElem? (i := 6) rfl))
theorem mc_X0_takesAStep_0 : ∀ w ∈ wsX00, w ∈ wsX0_takesAStep := fun w h => List.mem_cons_of_mem _ (List.mem_append_right _ (h))
theorem mw_X0_takesAStep_fieldLinkCleanRunsRecipe21CleanRunsRecipebegunZ : Cond.fieldLink RX0 21 "CleanRuns$Recipe" "begun" "Z" ∈ wsX0_takesAStep := List.mem_cons_of_mem _ (List.mem_append_left _ (List.mem_of_getElem? (i := 0) rfl))
theorem mw_X0_takesAStep_fieldLinkCleanRunsRecipe17CleanRunsRecipesizeI : Cond.fieldLink RX0 17 "CleanRuns$Recipe" "size" "I" ∈ wsX0_takesAStep := List.mem_cons_of_mem _ (List.mem_append_left _ (List.mem_of_getElem? (i := 1) rfl))
theorem mw_X0_takesAStep_fieldLinkCleanRunsRecipe11CleanRunsRecipestepsLCleanRunsStep : Cond.fieldLink RX0 11 "CleanRuns$Recipe" "steps" "[LCleanRuns$Step;" ∈ wsX0_takesAStep := List.mem_cons_of_mem _ (List.mem_append_left _ (List.mem_of_getElem? (i := 2) rfl))
theorem mc_X0_append_0 : ∀ w ∈ wsX00, w ∈ wsX0_append := fun w h => List.mem_cons_of_mem _ (List.mem_append_right _ (h))
theorem mw_X0_append_fieldLinkCleanRunsRecipe17CleanRunsRecipesizeI : Cond.fieldLink RX0 17 "CleanRuns$Recipe" "size" "I" ∈ wsX0_append := List.mem_cons_of_mem _ (List.mem_append_left _ (List.mem_of_getElem? (i := 0) rfl))
theorem mw_X0_append_fieldLinkCleanRunsRecipe11CleanRunsRecipestepsLCleanRunsStep : Cond.fieldLink RX0 11 "CleanRuns$Recipe" "steps" "[LCleanRuns$Step;" ∈ wsX0_append := List.mem_cons_of_mem _ (List.mem_append_left _ (List.mem_of_getElem? (i := 1) rfl))
theorem mc_X0_stepAt_0 : ∀ w ∈ wsX00, w ∈ wsX0_stepAt := fun w h => List.mem_cons_of_mem _ (List.mem_append_right _ (h))
theorem mw_X0_stepAt_fieldLinkCleanRunsRecipe17CleanRunsRecipesizeI : Cond.fieldLink RX0 17 "CleanRuns$Recipe" "size" "I" ∈ wsX0_stepAt := List.mem_cons_of_mem _ (List.mem_append_left _ (List.mem_of_getElem? (i := 0) rfl))
theorem mw_X0_stepAt_fieldLinkCleanRunsRecipe11CleanRunsRecipestepsLCleanRunsStep : Cond.fieldLink RX0 11 "CleanRuns$Recipe" "steps" "[LCleanRuns$Step;" ∈ wsX0_stepAt := List.mem_cons_of_mem _ (List.mem_append_left _ (List.mem_of_getElem? (i := 1) rfl))
set_option maxHeartbeats 4000000 in
set_option maxRecDepth 100000 in
/-- Step(kind, seconds, strength, degrees) -/
theorem c_Step_init (l : Launch) (D : va_G) (t : Nat → ClassId) (sz : Nat) (h0 : Nat) (a1 a2 : Int32) (a3 a4 : UInt64)  : Met l yX3_init wsX3_init ({ frames := 1, cells := 0, slots := 0, locals := 12 } : Room) (va_Pc [.ref h0, .int a1, .int a2, .double a3, .double a4] (yS D t sz [(h0, .inr (3, [.int 0, .int 0, .double 0, .double 0]))])) (va_Qv (fun (u : Unit) => True) (fun (u : Unit) tt => yB D t (va_A [(h0, .inr (3, [.int 0, .int 0, .double 0, .double 0]))] sz) [(h0, .inr (3, [.int a1, .int a2, .double a3, .double a4]))] tt) (va_A [(h0, .inr (3, [.int 0, .int 0, .double 0, .double 0]))] sz)) 0 0 (va_A [(h0, .inr (3, [.int 0, .int 0, .double 0, .double 0]))] sz) := by
  refine y_ofW (wc := [(h0, .inr (3, [.int 0, .int 0, .double 0, .double 0]))]) (Qc := fun A => va_Qv (fun (u : Unit) => True) (fun (u : Unit) tt => yB D t A [(h0, .inr (3, [.int a1, .int a2, .double a3, .double a4]))] tt) A) (cc := cX3_init) (maxL := 7) (ret := none) (by decide) rfl (Nat.le_of_ble_eq_true rfl) (fun p e s m below meth c A ls hx hb hr hts hlocks hml hown hnm hA hKK hP hD hS hl => ?_)
  have hK := hKK.1
  have hSF : CallFix p m c cX3_init 7 s _ wsX3_init RX3 := ⟨hx, hb, hml, hown, hts⟩
  have hl : lv_has ls 7 [(0, .ref h0), (1, .int a1), (2, .int a2), (3, .double a3), (5, .double a4)] := hl
  refine lv_aload_n hx hb dX3_init_0 rfl (lv_at hl 0 rfl) ?_
  refine W.objInit hx hb hown (hts _ mw_X3_init_methodLinkCleanRunsStep3javalangObjectinitV) (hts _ mw_X3_init_instanceMethodjavalangObjectinitV) (hts _ mw_X3_init_codejavalangObjectinitVobjectmethod1code1none) rfl (by rw [hml]; exact hl.1) rfl dX3_init_1 (Nat.le_of_ble_eq_true rfl) (Nat.le_of_ble_eq_true rfl) ?_
  refine W.eq (g2 := F0 m 4 ls []) rfl ?_
  refine lv_aload_n hx hb dX3_init_4 rfl (lv_at hl 0 rfl) ?_
  refine lv_iload_n hx hb dX3_init_5 rfl (lv_at hl 1 rfl) ?_
  refine va_putF (D := D) (ci := 3) (v := .int a1) (ty := .int) (C := RX3) (T := TX3) (N := 4) hx hb hts mc_X3_init_3 tyX3 tyX3_ok nmX3 hown hK hP hD hS 0 rfl rfl 0 (by decide) (hts _ mw_X3_init_fieldLinkCleanRunsStep9CleanRunsStepkindI) (fun _ h9 => h9) rfl hnm rfl (by decide +kernel) rfl rfl (Nat.le_of_ble_eq_true rfl) dX3_init_6 (fun H locs hP hD hS => ?_)
  have hP : va_P D vwCl [(h0, .inr (3, [.int a1, .int 0, .double 0, .double 0]))] H := hP
  have hD : va_D A [(h0, .inr (3, [.int a1, .int 0, .double 0, .double 0]))] := hD
  refine lv_aload_n hx hb dX3_init_9 rfl (lv_at hl 0 rfl) ?_
  refine lv_iload_n hx hb dX3_init_10 rfl (lv_at hl 2 rfl) ?_
  refine va_putF (D := D) (ci := 3) (v := .int a2) (ty := .int) (C := RX3) (T := TX3) (N := 4) hx hb hts mc_X3_init_3 tyX3 tyX3_ok nmX3 hown hK hP hD hS 0 rfl rfl 1 (by decide) (hts _ mw_X3_init_fieldLinkCleanRunsStep15CleanRunsStepsecondsI) (fun _ h9 => h9) rfl hnm rfl (by decide +kernel) rfl rfl (Nat.le_of_ble_eq_true rfl) dX3_init_11 (fun H locs hP hD hS => ?_)
  have hP : va_P D vwCl [(h0, .inr (3, [.int a1, .int a2, .double 0, .double 0]))] H := hP
  have hD : va_D A [(h0, .inr (3, [.int a1, .int a2, .double 0, .double 0]))] := hD
  refine lv_aload_n hx hb dX3_init_14 rfl (lv_at hl 0 rfl) ?_
  refine lv_dload_n hx hb dX3_init_15 rfl (lv_at hl 3 rfl) ?_
  refine va_putF (D := D) (ci := 3) (v := .double a3) (ty := .double) (C := RX3) (T := TX3) (N := 4) hx hb hts mc_X3_init_3 tyX3 tyX3_ok nmX3 hown hK hP hD hS 0 rfl rfl 2 (by decide) (hts _ mw_X3_init_fieldLinkCleanRunsStep18CleanRunsStepstrengthD) (fun _ h9 => h9) rfl hnm rfl (by decide +kernel) rfl rfl (Nat.le_of_ble_eq_true rfl) dX3_init_16 (fun H locs hP hD hS => ?_)
  have hP : va_P D vwCl [(h0, .inr (3, [.int a1, .int a2, .double a3, .double 0]))] H := hP
  have hD : va_D A [(h0, .inr (3, [.int a1, .int a2, .double a3, .double 0]))] := hD
  refine lv_aload_n hx hb dX3_init_19 rfl (lv_at hl 0 rfl) ?_
  refine lv_dload hx hb dX3_init_20 (lv_at hl 4 rfl) ?_
  refine va_putF (D := D) (ci := 3) (v := .double a4) (ty := .double) (C := RX3) (T := TX3) (N := 4) hx hb hts mc_X3_init_3 tyX3 tyX3_ok nmX3 hown hK hP hD hS 0 rfl rfl 3 (by decide) (hts _ mw_X3_init_fieldLinkCleanRunsStep22CleanRunsStepdegreesD) (fun _ h9 => h9) rfl hnm rfl (by decide +kernel) rfl rfl (Nat.le_of_ble_eq_true rfl) dX3_init_22 (fun H locs hP hD hS => ?_)
  have hP : va_P D vwCl [(h0, .inr (3, [.int a1, .int a2, .double a3, .double a4]))] H := hP
  have hD : va_D A [(h0, .inr (3, [.int a1, .int a2, .double a3, .double a4]))] := hD
  have hP9 : va_P D vwCl [(h0, .inr (3, [.int a1, .int a2, .double a3, .double a4]))] _ := hP.sub [0] rfl
  have hD9 : va_D A [(h0, .inr (3, [.int a1, .int a2, .double a3, .double a4]))] := hD.sub [0] (by decide) rfl
  exact W.vret hx hb hr (fun tt ht hW => ⟨⟨(), rfl, trivial, by rw [ht]; exact hP9, hKK.moved hW.alike, hD9⟩, hS.F ht⟩) hS.2.2 dX3_init_25
set_option maxHeartbeats 4000000 in
set_option maxRecDepth 100000 in
theorem c_Step_usesWater (l : Launch) (D : va_G) (t : Nat → ClassId) (sz : Nat) (h0 : Nat) (k0 k1 : Int32) (k2 k3 : UInt64)  : Met l yX3_usesWater wsX3_usesWater ({ frames := 0, cells := 0, slots := 0, locals := 0 } : Room) (va_Pc [.ref h0] (yS D t sz [(h0, .inr (3, [.int k0, .int k1, .double k2, .double k3]))])) (va_Qi (fun (x : Int32) (u : Unit) => x = fW k0) (fun (u : Unit) tt => yB D t (va_A [(h0, .inr (3, [.int k0, .int k1, .double k2, .double k3]))] sz) [(h0, .inr (3, [.int k0, .int k1, .double k2, .double k3]))] tt) (va_A [(h0, .inr (3, [.int k0, .int k1, .double k2, .double k3]))] sz)) 0 0 (va_A [(h0, .inr (3, [.int k0, .int k1, .double k2, .double k3]))] sz) := by
  refine y_ofW (wc := [(h0, .inr (3, [.int k0, .int k1, .double k2, .double k3]))]) (Qc := fun A => va_Qi (fun (x : Int32) (u : Unit) => x = fW k0) (fun (u : Unit) tt => yB D t A [(h0, .inr (3, [.int k0, .int k1, .double k2, .double k3]))] tt) A) (cc := cX3_usesWater) (maxL := 1) (ret := (some .boolean)) (by decide) rfl (Nat.le_of_ble_eq_true rfl) (fun p e s m below meth c A ls hx hb hr hts hlocks hml hown hnm hA hKK hP hD hS hl => ?_)
  have hK := hKK.1
  have hSF : CallFix p m c cX3_usesWater 1 s _ wsX3_usesWater RX3 := ⟨hx, hb, hml, hown, hts⟩
  have hl : lv_has ls 1 [(0, .ref h0)] := hl
  refine lv_aload_n hx hb dX3_usesWater_0 rfl (lv_at hl 0 rfl) ?_
  refine va_get (D := D) (ci := 3) (v := .int k0) (C := RX3) (T := TX3) (N := 4) hx hb hts mc_X3_usesWater_3 hown hK hP 0 rfl rfl 0 (by decide) (hts _ mw_X3_usesWater_fieldLinkCleanRunsStep9CleanRunsStepkindI) (fun _ h9 => h9) rfl dX3_usesWater_1 ?_
  refine lv_if_eq (tgt := 15) hx hb dX3_usesWater_4 (by decide) (fun c_4_0 => ?_) (fun c_4_0 => ?_)
  · refine lv_iconst (v := 1) hx hb dX3_usesWater_15 (by decide) ?_
    refine lv_goto (tgt := 20) hx hb dX3_usesWater_16 (by decide) ?_
    have hP9 : va_P D vwCl [(h0, .inr (3, [.int k0, .int k1, .double k2, .double k3]))] _ := hP.sub [0] rfl
    have hD9 : va_D A [(h0, .inr (3, [.int k0, .int k1, .double k2, .double k3]))] := hD.sub [0] (by decide) rfl
    exact W.zret (v := 1) hx hb hr (by decide) (fun tt ht hW => ⟨⟨1, (), rfl, by (simp only [fW, c_4_0, if_true, if_false]; try first | rfl | decide), by rw [ht]; exact hP9, hKK.moved hW.alike, hD9⟩, hS.F ht⟩) hS.2.2 dX3_usesWater_20
  · refine lv_aload_n hx hb dX3_usesWater_7 rfl (lv_at hl 0 rfl) ?_
    refine va_get (D := D) (ci := 3) (v := .int k0) (C := RX3) (T := TX3) (N := 4) hx hb hts mc_X3_usesWater_3 hown hK hP 0 rfl rfl 0 (by decide) (hts _ mw_X3_usesWater_fieldLinkCleanRunsStep9CleanRunsStepkindI) (fun _ h9 => h9) rfl dX3_usesWater_8 ?_
    refine lv_iconst (v := 4) hx hb dX3_usesWater_11 (by decide) ?_
    refine lv_icmp_ne (tgt := 19) hx hb dX3_usesWater_12 (by decide) (fun c_12_1 => ?_) (fun c_12_1 => ?_)
    · refine lv_iconst (v := 0) hx hb dX3_usesWater_19 (by decide) ?_
      have hP9 : va_P D vwCl [(h0, .inr (3, [.int k0, .int k1, .double k2, .double k3]))] _ := hP.sub [0] rfl
      have hD9 : va_D A [(h0, .inr (3, [.int k0, .int k1, .double k2, .double k3]))] := hD.sub [0] (by decide) rfl
      exact W.zret (v := 0) hx hb hr (by decide) (fun tt ht hW => ⟨⟨0, (), rfl, by (simp only [fW, c_4_0, c_12_1, if_true, if_false]; try first | rfl | decide), by rw [ht]; exact hP9, hKK.moved hW.alike, hD9⟩, hS.F ht⟩) hS.2.2 dX3_usesWater_20
    · refine lv_iconst (v := 1) hx hb dX3_usesWater_15 (by decide) ?_
      refine lv_goto (tgt := 20) hx hb dX3_usesWater_16 (by decide) ?_
      have hP9 : va_P D vwCl [(h0, .inr (3, [.int k0, .int k1, .double k2, .double k3]))] _ := hP.sub [0] rfl
      have hD9 : va_D A [(h0, .inr (3, [.int k0, .int k1, .double k2, .double k3]))] := hD.sub [0] (by decide) rfl
      exact W.zret (v := 1) hx hb hr (by decide) (fun tt ht hW => ⟨⟨1, (), rfl, by (simp only [fW, c_4_0, c_12_1, if_true, if_false]; try first | rfl | decide), by rw [ht]; exact hP9, hKK.moved hW.alike, hD9⟩, hS.F ht⟩) hS.2.2 dX3_usesWater_20
set_option maxHeartbeats 4000000 in
set_option maxRecDepth 100000 in
theorem c_Step_holds (l : Launch) (D : va_G) (t : Nat → ClassId) (sz : Nat) (h0 : Nat) (k0 k1 : Int32) (k2 k3 : UInt64) (m1 m2 m3 : UInt64)  : Met l yX3_holds wsX3_holds ({ frames := 0, cells := 0, slots := 0, locals := 0 } : Room) (va_Pc [.ref h0, .double m1, .double m2, .double m3] (yS D t sz [(h0, .inr (3, [.int k0, .int k1, .double k2, .double k3]))])) (va_Qi (fun (x : Int32) (u : Unit) => x = fH k0 k2 k3 m1 m2 m3) (fun (u : Unit) tt => yB D t (va_A [(h0, .inr (3, [.int k0, .int k1, .double k2, .double k3]))] sz) [(h0, .inr (3, [.int k0, .int k1, .double k2, .double k3]))] tt) (va_A [(h0, .inr (3, [.int k0, .int k1, .double k2, .double k3]))] sz)) 0 0 (va_A [(h0, .inr (3, [.int k0, .int k1, .double k2, .double k3]))] sz) := by
  refine y_ofW (wc := [(h0, .inr (3, [.int k0, .int k1, .double k2, .double k3]))]) (Qc := fun A => va_Qi (fun (x : Int32) (u : Unit) => x = fH k0 k2 k3 m1 m2 m3) (fun (u : Unit) tt => yB D t A [(h0, .inr (3, [.int k0, .int k1, .double k2, .double k3]))] tt) A) (cc := cX3_holds) (maxL := 7) (ret := (some .boolean)) (by decide) rfl (Nat.le_of_ble_eq_true rfl) (fun p e s m below meth c A ls hx hb hr hts hlocks hml hown hnm hA hKK hP hD hS hl => ?_)
  have hK := hKK.1
  have hSF : CallFix p m c cX3_holds 7 s _ wsX3_holds RX3 := ⟨hx, hb, hml, hown, hts⟩
  have hl : lv_has ls 7 [(0, .ref h0), (1, .double m1), (3, .double m2), (5, .double m3)] := hl
  refine lv_aload_n hx hb dX3_holds_0 rfl (lv_at hl 0 rfl) ?_
  refine va_get (D := D) (ci := 3) (v := .int k0) (C := RX3) (T := TX3) (N := 4) hx hb hts mc_X3_holds_3 hown hK hP 0 rfl rfl 0 (by decide) (hts _ mw_X3_holds_fieldLinkCleanRunsStep9CleanRunsStepkindI) (fun _ h9 => h9) rfl dX3_holds_1 ?_
  by_cases c_4_0 : k0 = 0
  · refine y_int 0 c_4_0 ?_
    refine lv_tableIn (tgt := 36) hx hb dX3_holds_4 (by decide) (by decide) rfl (by decide) ?_
    refine lv_dload hx hb dX3_holds_36 (lv_at hl 3 rfl) ?_
    refine lv_dconst1 hx hb dX3_holds_38 ?_
    refine lv_dcmp hx hb dX3_holds_39 ?_
    refine lv_if_lt (tgt := 56) hx hb dX3_holds_40 (by decide) (fun c_40_1 => ?_) (fun c_40_1 => ?_)
    · refine lv_iconst (v := 0) hx hb dX3_holds_56 (by decide) ?_
      have hP9 : va_P D vwCl [(h0, .inr (3, [.int k0, .int k1, .double k2, .double k3]))] _ := hP.sub [0] rfl
      have hD9 : va_D A [(h0, .inr (3, [.int k0, .int k1, .double k2, .double k3]))] := hD.sub [0] (by decide) rfl
      exact W.zret (v := 0) hx hb hr (by decide) (fun tt ht hW => ⟨⟨0, (), rfl, by simp only [fH, c_4_0, c_40_1, if_true, if_false]; try first | rfl | decide, by rw [ht]; exact hP9, hKK.moved hW.alike, hD9⟩, hS.F ht⟩) hS.2.2 dX3_holds_57
    · refine lv_dload_n hx hb dX3_holds_43 rfl (lv_at hl 1 rfl) ?_
      refine lv_aload_n hx hb dX3_holds_44 rfl (lv_at hl 0 rfl) ?_
      refine va_get (D := D) (ci := 3) (v := .double k2) (C := RX3) (T := TX3) (N := 4) hx hb hts mc_X3_holds_3 hown hK hP 0 rfl rfl 2 (by decide) (hts _ mw_X3_holds_fieldLinkCleanRunsStep18CleanRunsStepstrengthD) (fun _ h9 => h9) rfl dX3_holds_45 ?_
      refine lv_dcmp hx hb dX3_holds_48 ?_
      refine lv_if_gt (tgt := 56) hx hb dX3_holds_49 (by decide) (fun c_49_2 => ?_) (fun c_49_2 => ?_)
      · refine lv_iconst (v := 0) hx hb dX3_holds_56 (by decide) ?_
        have hP9 : va_P D vwCl [(h0, .inr (3, [.int k0, .int k1, .double k2, .double k3]))] _ := hP.sub [0] rfl
        have hD9 : va_D A [(h0, .inr (3, [.int k0, .int k1, .double k2, .double k3]))] := hD.sub [0] (by decide) rfl
        exact W.zret (v := 0) hx hb hr (by decide) (fun tt ht hW => ⟨⟨0, (), rfl, by simp only [fH, c_4_0, c_40_1, c_49_2, if_true, if_false]; try first | rfl | decide, by rw [ht]; exact hP9, hKK.moved hW.alike, hD9⟩, hS.F ht⟩) hS.2.2 dX3_holds_57
      · refine lv_iconst (v := 1) hx hb dX3_holds_52 (by decide) ?_
        refine lv_goto (tgt := 57) hx hb dX3_holds_53 (by decide) ?_
        have hP9 : va_P D vwCl [(h0, .inr (3, [.int k0, .int k1, .double k2, .double k3]))] _ := hP.sub [0] rfl
        have hD9 : va_D A [(h0, .inr (3, [.int k0, .int k1, .double k2, .double k3]))] := hD.sub [0] (by decide) rfl
        exact W.zret (v := 1) hx hb hr (by decide) (fun tt ht hW => ⟨⟨1, (), rfl, by simp only [fH, c_4_0, c_40_1, c_49_2, if_true, if_false]; try first | rfl | decide, by rw [ht]; exact hP9, hKK.moved hW.alike, hD9⟩, hS.F ht⟩) hS.2.2 dX3_holds_57
  by_cases c_4_1 : k0 = 1
  · refine y_int 1 c_4_1 ?_
    refine lv_tableIn (tgt := 58) hx hb dX3_holds_4 (by decide) (by decide) rfl (by decide) ?_
    refine lv_dload hx hb dX3_holds_58 (lv_at hl 3 rfl) ?_
    refine lv_dconst1 hx hb dX3_holds_60 ?_
    refine lv_dcmp hx hb dX3_holds_61 ?_
    refine lv_if_lt (tgt := 87) hx hb dX3_holds_62 (by decide) (fun c_62_2 => ?_) (fun c_62_2 => ?_)
    · refine lv_iconst (v := 0) hx hb dX3_holds_87 (by decide) ?_
      have hP9 : va_P D vwCl [(h0, .inr (3, [.int k0, .int k1, .double k2, .double k3]))] _ := hP.sub [0] rfl
      have hD9 : va_D A [(h0, .inr (3, [.int k0, .int k1, .double k2, .double k3]))] := hD.sub [0] (by decide) rfl
      exact W.zret (v := 0) hx hb hr (by decide) (fun tt ht hW => ⟨⟨0, (), rfl, by simp only [fH, c_4_0, c_4_1, c_62_2, if_true, if_false]; try first | rfl | decide, by rw [ht]; exact hP9, hKK.moved hW.alike, hD9⟩, hS.F ht⟩) hS.2.2 dX3_holds_88
    · refine lv_dload_n hx hb dX3_holds_65 rfl (lv_at hl 1 rfl) ?_
      refine lv_aload_n hx hb dX3_holds_66 rfl (lv_at hl 0 rfl) ?_
      refine va_get (D := D) (ci := 3) (v := .double k2) (C := RX3) (T := TX3) (N := 4) hx hb hts mc_X3_holds_3 hown hK hP 0 rfl rfl 2 (by decide) (hts _ mw_X3_holds_fieldLinkCleanRunsStep18CleanRunsStepstrengthD) (fun _ h9 => h9) rfl dX3_holds_67 ?_
      refine lv_dcmp hx hb dX3_holds_70 ?_
      refine lv_if_lt (tgt := 87) hx hb dX3_holds_71 (by decide) (fun c_71_3 => ?_) (fun c_71_3 => ?_)
      · refine lv_iconst (v := 0) hx hb dX3_holds_87 (by decide) ?_
        have hP9 : va_P D vwCl [(h0, .inr (3, [.int k0, .int k1, .double k2, .double k3]))] _ := hP.sub [0] rfl
        have hD9 : va_D A [(h0, .inr (3, [.int k0, .int k1, .double k2, .double k3]))] := hD.sub [0] (by decide) rfl
        exact W.zret (v := 0) hx hb hr (by decide) (fun tt ht hW => ⟨⟨0, (), rfl, by simp only [fH, c_4_0, c_4_1, c_62_2, c_71_3, if_true, if_false]; try first | rfl | decide, by rw [ht]; exact hP9, hKK.moved hW.alike, hD9⟩, hS.F ht⟩) hS.2.2 dX3_holds_88
      · refine lv_dload_n hx hb dX3_holds_74 rfl (lv_at hl 2 rfl) ?_
        refine lv_aload_n hx hb dX3_holds_75 rfl (lv_at hl 0 rfl) ?_
        refine va_get (D := D) (ci := 3) (v := .double k3) (C := RX3) (T := TX3) (N := 4) hx hb hts mc_X3_holds_3 hown hK hP 0 rfl rfl 3 (by decide) (hts _ mw_X3_holds_fieldLinkCleanRunsStep22CleanRunsStepdegreesD) (fun _ h9 => h9) rfl dX3_holds_76 ?_
        refine lv_dcmp hx hb dX3_holds_79 ?_
        refine lv_if_lt (tgt := 87) hx hb dX3_holds_80 (by decide) (fun c_80_4 => ?_) (fun c_80_4 => ?_)
        · refine lv_iconst (v := 0) hx hb dX3_holds_87 (by decide) ?_
          have hP9 : va_P D vwCl [(h0, .inr (3, [.int k0, .int k1, .double k2, .double k3]))] _ := hP.sub [0] rfl
          have hD9 : va_D A [(h0, .inr (3, [.int k0, .int k1, .double k2, .double k3]))] := hD.sub [0] (by decide) rfl
          exact W.zret (v := 0) hx hb hr (by decide) (fun tt ht hW => ⟨⟨0, (), rfl, by simp only [fH, c_4_0, c_4_1, c_62_2, c_71_3, c_80_4, if_true, if_false]; try first | rfl | decide, by rw [ht]; exact hP9, hKK.moved hW.alike, hD9⟩, hS.F ht⟩) hS.2.2 dX3_holds_88
        · refine lv_iconst (v := 1) hx hb dX3_holds_83 (by decide) ?_
          refine lv_goto (tgt := 88) hx hb dX3_holds_84 (by decide) ?_
          have hP9 : va_P D vwCl [(h0, .inr (3, [.int k0, .int k1, .double k2, .double k3]))] _ := hP.sub [0] rfl
          have hD9 : va_D A [(h0, .inr (3, [.int k0, .int k1, .double k2, .double k3]))] := hD.sub [0] (by decide) rfl
          exact W.zret (v := 1) hx hb hr (by decide) (fun tt ht hW => ⟨⟨1, (), rfl, by simp only [fH, c_4_0, c_4_1, c_62_2, c_71_3, c_80_4, if_true, if_false]; try first | rfl | decide, by rw [ht]; exact hP9, hKK.moved hW.alike, hD9⟩, hS.F ht⟩) hS.2.2 dX3_holds_88
  by_cases c_4_2 : k0 = 2
  · refine y_int 2 c_4_2 ?_
    refine lv_tableIn (tgt := 58) hx hb dX3_holds_4 (by decide) (by decide) rfl (by decide) ?_
    refine lv_dload hx hb dX3_holds_58 (lv_at hl 3 rfl) ?_
    refine lv_dconst1 hx hb dX3_holds_60 ?_
    refine lv_dcmp hx hb dX3_holds_61 ?_
    refine lv_if_lt (tgt := 87) hx hb dX3_holds_62 (by decide) (fun c_62_3 => ?_) (fun c_62_3 => ?_)
    · refine lv_iconst (v := 0) hx hb dX3_holds_87 (by decide) ?_
      have hP9 : va_P D vwCl [(h0, .inr (3, [.int k0, .int k1, .double k2, .double k3]))] _ := hP.sub [0] rfl
      have hD9 : va_D A [(h0, .inr (3, [.int k0, .int k1, .double k2, .double k3]))] := hD.sub [0] (by decide) rfl
      exact W.zret (v := 0) hx hb hr (by decide) (fun tt ht hW => ⟨⟨0, (), rfl, by simp only [fH, c_4_0, c_4_1, c_4_2, c_62_3, if_true, if_false]; try first | rfl | decide, by rw [ht]; exact hP9, hKK.moved hW.alike, hD9⟩, hS.F ht⟩) hS.2.2 dX3_holds_88
    · refine lv_dload_n hx hb dX3_holds_65 rfl (lv_at hl 1 rfl) ?_
      refine lv_aload_n hx hb dX3_holds_66 rfl (lv_at hl 0 rfl) ?_
      refine va_get (D := D) (ci := 3) (v := .double k2) (C := RX3) (T := TX3) (N := 4) hx hb hts mc_X3_holds_3 hown hK hP 0 rfl rfl 2 (by decide) (hts _ mw_X3_holds_fieldLinkCleanRunsStep18CleanRunsStepstrengthD) (fun _ h9 => h9) rfl dX3_holds_67 ?_
      refine lv_dcmp hx hb dX3_holds_70 ?_
      refine lv_if_lt (tgt := 87) hx hb dX3_holds_71 (by decide) (fun c_71_4 => ?_) (fun c_71_4 => ?_)
      · refine lv_iconst (v := 0) hx hb dX3_holds_87 (by decide) ?_
        have hP9 : va_P D vwCl [(h0, .inr (3, [.int k0, .int k1, .double k2, .double k3]))] _ := hP.sub [0] rfl
        have hD9 : va_D A [(h0, .inr (3, [.int k0, .int k1, .double k2, .double k3]))] := hD.sub [0] (by decide) rfl
        exact W.zret (v := 0) hx hb hr (by decide) (fun tt ht hW => ⟨⟨0, (), rfl, by simp only [fH, c_4_0, c_4_1, c_4_2, c_62_3, c_71_4, if_true, if_false]; try first | rfl | decide, by rw [ht]; exact hP9, hKK.moved hW.alike, hD9⟩, hS.F ht⟩) hS.2.2 dX3_holds_88
      · refine lv_dload_n hx hb dX3_holds_74 rfl (lv_at hl 2 rfl) ?_
        refine lv_aload_n hx hb dX3_holds_75 rfl (lv_at hl 0 rfl) ?_
        refine va_get (D := D) (ci := 3) (v := .double k3) (C := RX3) (T := TX3) (N := 4) hx hb hts mc_X3_holds_3 hown hK hP 0 rfl rfl 3 (by decide) (hts _ mw_X3_holds_fieldLinkCleanRunsStep22CleanRunsStepdegreesD) (fun _ h9 => h9) rfl dX3_holds_76 ?_
        refine lv_dcmp hx hb dX3_holds_79 ?_
        refine lv_if_lt (tgt := 87) hx hb dX3_holds_80 (by decide) (fun c_80_5 => ?_) (fun c_80_5 => ?_)
        · refine lv_iconst (v := 0) hx hb dX3_holds_87 (by decide) ?_
          have hP9 : va_P D vwCl [(h0, .inr (3, [.int k0, .int k1, .double k2, .double k3]))] _ := hP.sub [0] rfl
          have hD9 : va_D A [(h0, .inr (3, [.int k0, .int k1, .double k2, .double k3]))] := hD.sub [0] (by decide) rfl
          exact W.zret (v := 0) hx hb hr (by decide) (fun tt ht hW => ⟨⟨0, (), rfl, by simp only [fH, c_4_0, c_4_1, c_4_2, c_62_3, c_71_4, c_80_5, if_true, if_false]; try first | rfl | decide, by rw [ht]; exact hP9, hKK.moved hW.alike, hD9⟩, hS.F ht⟩) hS.2.2 dX3_holds_88
        · refine lv_iconst (v := 1) hx hb dX3_holds_83 (by decide) ?_
          refine lv_goto (tgt := 88) hx hb dX3_holds_84 (by decide) ?_
          have hP9 : va_P D vwCl [(h0, .inr (3, [.int k0, .int k1, .double k2, .double k3]))] _ := hP.sub [0] rfl
          have hD9 : va_D A [(h0, .inr (3, [.int k0, .int k1, .double k2, .double k3]))] := hD.sub [0] (by decide) rfl
          exact W.zret (v := 1) hx hb hr (by decide) (fun tt ht hW => ⟨⟨1, (), rfl, by simp only [fH, c_4_0, c_4_1, c_4_2, c_62_3, c_71_4, c_80_5, if_true, if_false]; try first | rfl | decide, by rw [ht]; exact hP9, hKK.moved hW.alike, hD9⟩, hS.F ht⟩) hS.2.2 dX3_holds_88
  by_cases c_4_3 : k0 = 3
  · refine y_int 3 c_4_3 ?_
    refine lv_tableIn (tgt := 89) hx hb dX3_holds_4 (by decide) (by decide) rfl (by decide) ?_
    refine lv_dload hx hb dX3_holds_89 (lv_at hl 3 rfl) ?_
    refine lv_ldc2d (v := 4602678819172646912) hx hb hown (hts _ mw_X3_holds_constantDoubleCleanRunsStep254602678819172646912) dX3_holds_91 ?_
    refine lv_dcmp hx hb dX3_holds_94 ?_
    refine lv_if_lt (tgt := 111) hx hb dX3_holds_95 (by decide) (fun c_95_4 => ?_) (fun c_95_4 => ?_)
    · refine lv_iconst (v := 0) hx hb dX3_holds_111 (by decide) ?_
      have hP9 : va_P D vwCl [(h0, .inr (3, [.int k0, .int k1, .double k2, .double k3]))] _ := hP.sub [0] rfl
      have hD9 : va_D A [(h0, .inr (3, [.int k0, .int k1, .double k2, .double k3]))] := hD.sub [0] (by decide) rfl
      exact W.zret (v := 0) hx hb hr (by decide) (fun tt ht hW => ⟨⟨0, (), rfl, by simp only [fH, c_4_0, c_4_1, c_4_2, c_4_3, c_95_4, if_true, if_false]; try first | rfl | decide, by rw [ht]; exact hP9, hKK.moved hW.alike, hD9⟩, hS.F ht⟩) hS.2.2 dX3_holds_112
    · refine lv_dload_n hx hb dX3_holds_98 rfl (lv_at hl 2 rfl) ?_
      refine lv_aload_n hx hb dX3_holds_99 rfl (lv_at hl 0 rfl) ?_
      refine va_get (D := D) (ci := 3) (v := .double k3) (C := RX3) (T := TX3) (N := 4) hx hb hts mc_X3_holds_3 hown hK hP 0 rfl rfl 3 (by decide) (hts _ mw_X3_holds_fieldLinkCleanRunsStep22CleanRunsStepdegreesD) (fun _ h9 => h9) rfl dX3_holds_100 ?_
      refine lv_dcmp hx hb dX3_holds_103 ?_
      refine lv_if_lt (tgt := 111) hx hb dX3_holds_104 (by decide) (fun c_104_5 => ?_) (fun c_104_5 => ?_)
      · refine lv_iconst (v := 0) hx hb dX3_holds_111 (by decide) ?_
        have hP9 : va_P D vwCl [(h0, .inr (3, [.int k0, .int k1, .double k2, .double k3]))] _ := hP.sub [0] rfl
        have hD9 : va_D A [(h0, .inr (3, [.int k0, .int k1, .double k2, .double k3]))] := hD.sub [0] (by decide) rfl
        exact W.zret (v := 0) hx hb hr (by decide) (fun tt ht hW => ⟨⟨0, (), rfl, by simp only [fH, c_4_0, c_4_1, c_4_2, c_4_3, c_95_4, c_104_5, if_true, if_false]; try first | rfl | decide, by rw [ht]; exact hP9, hKK.moved hW.alike, hD9⟩, hS.F ht⟩) hS.2.2 dX3_holds_112
      · refine lv_iconst (v := 1) hx hb dX3_holds_107 (by decide) ?_
        refine lv_goto (tgt := 112) hx hb dX3_holds_108 (by decide) ?_
        have hP9 : va_P D vwCl [(h0, .inr (3, [.int k0, .int k1, .double k2, .double k3]))] _ := hP.sub [0] rfl
        have hD9 : va_D A [(h0, .inr (3, [.int k0, .int k1, .double k2, .double k3]))] := hD.sub [0] (by decide) rfl
        exact W.zret (v := 1) hx hb hr (by decide) (fun tt ht hW => ⟨⟨1, (), rfl, by simp only [fH, c_4_0, c_4_1, c_4_2, c_4_3, c_95_4, c_104_5, if_true, if_false]; try first | rfl | decide, by rw [ht]; exact hP9, hKK.moved hW.alike, hD9⟩, hS.F ht⟩) hS.2.2 dX3_holds_112
  refine lv_tableOut (tgt := 113) hx hb dX3_holds_4 (y_out4 c_4_0 c_4_1 c_4_2 c_4_3) (by decide) ?_
  refine lv_dload hx hb dX3_holds_113 (lv_at hl 3 rfl) ?_
  refine lv_ldc2d (v := 4593671619917905920) hx hb hown (hts _ mw_X3_holds_constantDoubleCleanRunsStep274593671619917905920) dX3_holds_115 ?_
  refine lv_dcmp hx hb dX3_holds_118 ?_
  refine lv_if_gt (tgt := 126) hx hb dX3_holds_119 (by decide) (fun c_119_4 => ?_) (fun c_119_4 => ?_)
  · refine lv_iconst (v := 0) hx hb dX3_holds_126 (by decide) ?_
    have hP9 : va_P D vwCl [(h0, .inr (3, [.int k0, .int k1, .double k2, .double k3]))] _ := hP.sub [0] rfl
    have hD9 : va_D A [(h0, .inr (3, [.int k0, .int k1, .double k2, .double k3]))] := hD.sub [0] (by decide) rfl
    exact W.zret (v := 0) hx hb hr (by decide) (fun tt ht hW => ⟨⟨0, (), rfl, by simp only [fH, c_4_0, c_4_1, c_4_2, c_4_3, c_119_4, if_true, if_false]; try first | rfl | decide, by rw [ht]; exact hP9, hKK.moved hW.alike, hD9⟩, hS.F ht⟩) hS.2.2 dX3_holds_127
  · refine lv_iconst (v := 1) hx hb dX3_holds_122 (by decide) ?_
    refine lv_goto (tgt := 127) hx hb dX3_holds_123 (by decide) ?_
    have hP9 : va_P D vwCl [(h0, .inr (3, [.int k0, .int k1, .double k2, .double k3]))] _ := hP.sub [0] rfl
    have hD9 : va_D A [(h0, .inr (3, [.int k0, .int k1, .double k2, .double k3]))] := hD.sub [0] (by decide) rfl
    exact W.zret (v := 1) hx hb hr (by decide) (fun tt ht hW => ⟨⟨1, (), rfl, by simp only [fH, c_4_0, c_4_1, c_4_2, c_4_3, c_119_4, if_true, if_false]; try first | rfl | decide, by rw [ht]; exact hP9, hKK.moved hW.alike, hD9⟩, hS.F ht⟩) hS.2.2 dX3_holds_127
set_option maxHeartbeats 4000000 in
set_option maxRecDepth 100000 in
theorem c_Step_passes (l : Launch) (D : va_G) (t : Nat → ClassId) (sz : Nat) (h0 : Nat) (k0 k1 : Int32) (k2 k3 : UInt64) (m1 m2 : UInt64)  : Met l yX3_passesInterface wsX3_passesInterface ({ frames := 1, cells := 0, slots := 0, locals := 20 } : Room) (va_Pc [.ref h0, .double m1, .double m2] (yS D t sz [(h0, .inr (3, [.int k0, .int k1, .double k2, .double k3]))])) (va_Qi (fun (x : Int32) (u : Unit) => x = fP k0 m1 m2) (fun (u : Unit) tt => yB D t (va_A [(h0, .inr (3, [.int k0, .int k1, .double k2, .double k3]))] sz) [(h0, .inr (3, [.int k0, .int k1, .double k2, .double k3]))] tt) (va_A [(h0, .inr (3, [.int k0, .int k1, .double k2, .double k3]))] sz)) 0 0 (va_A [(h0, .inr (3, [.int k0, .int k1, .double k2, .double k3]))] sz) := by
  refine y_ofW (wc := [(h0, .inr (3, [.int k0, .int k1, .double k2, .double k3]))]) (Qc := fun A => va_Qi (fun (x : Int32) (u : Unit) => x = fP k0 m1 m2) (fun (u : Unit) tt => yB D t A [(h0, .inr (3, [.int k0, .int k1, .double k2, .double k3]))] tt) A) (cc := cX3_passesInterface) (maxL := 5) (ret := (some .boolean)) (by decide) rfl (Nat.le_of_ble_eq_true rfl) (fun p e s m below meth c A ls hx hb hr hts hlocks hml hown hnm hA hKK hP hD hS hl => ?_)
  have hK := hKK.1
  have hSF : CallFix p m c cX3_passesInterface 5 s _ wsX3_passesInterface RX3 := ⟨hx, hb, hml, hown, hts⟩
  have hl : lv_has ls 5 [(0, .ref h0), (1, .double m1), (3, .double m2)] := hl
  refine lv_aload_n hx hb dX3_passesInterface_0 rfl (lv_at hl 0 rfl) ?_
  refine y_Vi (As := []) (rest := []) (wc := [(h0, .inr (3, [.int k0, .int k1, .double k2, .double k3]))]) (wr := []) [0] [] hSF (c_Step_usesWater l D t s.heap.size h0 k0 k1 k2 k3 ) (cwV 0 hts gX3_passesInterface_X3_usesWater rfl rfl rfl (by decide +kernel) ⟨Nat.le_of_ble_eq_true rfl, Nat.le_of_ble_eq_true rfl⟩) hKK hP hD hS hA rfl rfl (by decide) (by decide) (by decide) (fs := [.int k0, .int k1, .double k2, .double k3]) (ci := 3) rfl rfl rfl rfl hl.1 rfl (Nat.le_of_ble_eq_true rfl) dX3_passesInterface_1 ⟨Nat.le_of_ble_eq_true rfl, Nat.le_of_ble_eq_true rfl⟩ (fun x u H locs hw1 hP hD hS => ?_)
  obtain rfl : x = (fW k0) := hw1
  have hP : va_P D vwCl [(h0, .inr (3, [.int k0, .int k1, .double k2, .double k3]))] H := hP
  have hD : va_D A [(h0, .inr (3, [.int k0, .int k1, .double k2, .double k3]))] := hD
  refine lv_if_eq (tgt := 21) hx hb dX3_passesInterface_4 (by decide) (fun c_4_0 => ?_) (fun c_4_0 => ?_)
  · refine lv_dload_n hx hb dX3_passesInterface_21 rfl (lv_at hl 1 rfl) ?_
    refine lv_dload_n hx hb dX3_passesInterface_22 rfl (lv_at hl 2 rfl) ?_
    refine lv_dcmp hx hb dX3_passesInterface_23 ?_
    refine lv_if_lt (tgt := 31) hx hb dX3_passesInterface_24 (by decide) (fun c_24_1 => ?_) (fun c_24_1 => ?_)
    · refine lv_iconst (v := 0) hx hb dX3_passesInterface_31 (by decide) ?_
      have hP9 : va_P D vwCl [(h0, .inr (3, [.int k0, .int k1, .double k2, .double k3]))] _ := hP.sub [0] rfl
      have hD9 : va_D A [(h0, .inr (3, [.int k0, .int k1, .double k2, .double k3]))] := hD.sub [0] (by decide) rfl
      exact W.zret (v := 0) hx hb hr (by decide) (fun tt ht hW => ⟨⟨0, (), rfl, by (simp only [fP, c_4_0, c_24_1, if_true, if_false]; try first | rfl | decide), by rw [ht]; exact hP9, hKK.moved hW.alike, hD9⟩, hS.F ht⟩) hS.2.2 dX3_passesInterface_32
    · refine lv_iconst (v := 1) hx hb dX3_passesInterface_27 (by decide) ?_
      refine lv_goto (tgt := 32) hx hb dX3_passesInterface_28 (by decide) ?_
      have hP9 : va_P D vwCl [(h0, .inr (3, [.int k0, .int k1, .double k2, .double k3]))] _ := hP.sub [0] rfl
      have hD9 : va_D A [(h0, .inr (3, [.int k0, .int k1, .double k2, .double k3]))] := hD.sub [0] (by decide) rfl
      exact W.zret (v := 1) hx hb hr (by decide) (fun tt ht hW => ⟨⟨1, (), rfl, by (simp only [fP, c_4_0, c_24_1, if_true, if_false]; try first | rfl | decide), by rw [ht]; exact hP9, hKK.moved hW.alike, hD9⟩, hS.F ht⟩) hS.2.2 dX3_passesInterface_32
  · refine lv_dload_n hx hb dX3_passesInterface_7 rfl (lv_at hl 1 rfl) ?_
    refine lv_dload_n hx hb dX3_passesInterface_8 rfl (lv_at hl 2 rfl) ?_
    refine lv_dcmp hx hb dX3_passesInterface_9 ?_
    refine lv_if_gt (tgt := 17) hx hb dX3_passesInterface_10 (by decide) (fun c_10_1 => ?_) (fun c_10_1 => ?_)
    · refine lv_iconst (v := 0) hx hb dX3_passesInterface_17 (by decide) ?_
      refine lv_goto (tgt := 32) hx hb dX3_passesInterface_18 (by decide) ?_
      have hP9 : va_P D vwCl [(h0, .inr (3, [.int k0, .int k1, .double k2, .double k3]))] _ := hP.sub [0] rfl
      have hD9 : va_D A [(h0, .inr (3, [.int k0, .int k1, .double k2, .double k3]))] := hD.sub [0] (by decide) rfl
      exact W.zret (v := 0) hx hb hr (by decide) (fun tt ht hW => ⟨⟨0, (), rfl, by (simp only [fP, c_4_0, c_10_1, if_true, if_false]; try first | rfl | decide), by rw [ht]; exact hP9, hKK.moved hW.alike, hD9⟩, hS.F ht⟩) hS.2.2 dX3_passesInterface_32
    · refine lv_iconst (v := 1) hx hb dX3_passesInterface_13 (by decide) ?_
      refine lv_goto (tgt := 32) hx hb dX3_passesInterface_14 (by decide) ?_
      have hP9 : va_P D vwCl [(h0, .inr (3, [.int k0, .int k1, .double k2, .double k3]))] _ := hP.sub [0] rfl
      have hD9 : va_D A [(h0, .inr (3, [.int k0, .int k1, .double k2, .double k3]))] := hD.sub [0] (by decide) rfl
      exact W.zret (v := 1) hx hb hr (by decide) (fun tt ht hW => ⟨⟨1, (), rfl, by (simp only [fP, c_4_0, c_10_1, if_true, if_false]; try first | rfl | decide), by rw [ht]; exact hP9, hKK.moved hW.alike, hD9⟩, hS.F ht⟩) hS.2.2 dX3_passesInterface_32
set_option maxHeartbeats 4000000 in
set_option maxRecDepth 100000 in
theorem c_Stay_init (l : Launch) (D : va_G) (t : Nat → ClassId) (sz : Nat) (h0 a1 : Nat) (a2 : Int32)  : Met l yX2_init wsX2_init ({ frames := 1, cells := 0, slots := 0, locals := 12 } : Room) (va_Pc [.ref h0, .ref a1, .int a2] (yS D t sz [(h0, .inr (2, [.null, .int 0, .int 0, .int 0, .int 0, .int 0, .int 0]))])) (va_Qv (fun (u : Unit) => True) (fun (u : Unit) tt => yB D t (va_A [(h0, .inr (2, [.null, .int 0, .int 0, .int 0, .int 0, .int 0, .int 0]))] sz) [(h0, .inr (2, [.ref a1, .int a2, .int (-1), .int 0, .int 0, .int 0, .int 0]))] tt) (va_A [(h0, .inr (2, [.null, .int 0, .int 0, .int 0, .int 0, .int 0, .int 0]))] sz)) 0 0 (va_A [(h0, .inr (2, [.null, .int 0, .int 0, .int 0, .int 0, .int 0, .int 0]))] sz) := by
  refine y_ofW (wc := [(h0, .inr (2, [.null, .int 0, .int 0, .int 0, .int 0, .int 0, .int 0]))]) (Qc := fun A => va_Qv (fun (u : Unit) => True) (fun (u : Unit) tt => yB D t A [(h0, .inr (2, [.ref a1, .int a2, .int (-1), .int 0, .int 0, .int 0, .int 0]))] tt) A) (cc := cX2_init) (maxL := 3) (ret := none) (by decide) rfl (Nat.le_of_ble_eq_true rfl) (fun p e s m below meth c A ls hx hb hr hts hlocks hml hown hnm hA hKK hP hD hS hl => ?_)
  have hK := hKK.1
  have hSF : CallFix p m c cX2_init 3 s _ wsX2_init RX2 := ⟨hx, hb, hml, hown, hts⟩
  have hl : lv_has ls 3 [(0, .ref h0), (1, .ref a1), (2, .int a2)] := hl
  refine lv_aload_n hx hb dX2_init_0 rfl (lv_at hl 0 rfl) ?_
  refine W.objInit hx hb hown (hts _ mw_X2_init_methodLinkCleanRunsStay3javalangObjectinitV) (hts _ mw_X2_init_instanceMethodjavalangObjectinitV) (hts _ mw_X2_init_codejavalangObjectinitVobjectmethod1code1none) rfl (by rw [hml]; exact hl.1) rfl dX2_init_1 (Nat.le_of_ble_eq_true rfl) (Nat.le_of_ble_eq_true rfl) ?_
  refine W.eq (g2 := F0 m 4 ls []) rfl ?_
  refine lv_aload_n hx hb dX2_init_4 rfl (lv_at hl 0 rfl) ?_
  refine lv_aload_n hx hb dX2_init_5 rfl (lv_at hl 1 rfl) ?_
  refine va_putF (D := D) (ci := 2) (v := .ref a1) (ty := (.object "CleanRuns$Step")) (C := RX2) (T := TX2) (N := 7) hx hb hts mc_X2_init_2 tyX2 tyX2_ok nmX2 hown hK hP hD hS 0 rfl rfl 0 (by decide) (hts _ mw_X2_init_fieldLinkCleanRunsStay9CleanRunsStaystepLCleanRunsStep) (fun _ h9 => h9) rfl hnm rfl (by decide +kernel) rfl rfl (Nat.le_of_ble_eq_true rfl) dX2_init_6 (fun H locs hP hD hS => ?_)
  have hP : va_P D vwCl [(h0, .inr (2, [.ref a1, .int 0, .int 0, .int 0, .int 0, .int 0, .int 0]))] H := hP
  have hD : va_D A [(h0, .inr (2, [.ref a1, .int 0, .int 0, .int 0, .int 0, .int 0, .int 0]))] := hD
  refine lv_aload_n hx hb dX2_init_9 rfl (lv_at hl 0 rfl) ?_
  refine lv_iload_n hx hb dX2_init_10 rfl (lv_at hl 2 rfl) ?_
  refine va_putF (D := D) (ci := 2) (v := .int a2) (ty := .int) (C := RX2) (T := TX2) (N := 7) hx hb hts mc_X2_init_2 tyX2 tyX2_ok nmX2 hown hK hP hD hS 0 rfl rfl 1 (by decide) (hts _ mw_X2_init_fieldLinkCleanRunsStay15CleanRunsStayfirstSecondI) (fun _ h9 => h9) rfl hnm rfl (by decide +kernel) rfl rfl (Nat.le_of_ble_eq_true rfl) dX2_init_11 (fun H locs hP hD hS => ?_)
  have hP : va_P D vwCl [(h0, .inr (2, [.ref a1, .int a2, .int 0, .int 0, .int 0, .int 0, .int 0]))] H := hP
  have hD : va_D A [(h0, .inr (2, [.ref a1, .int a2, .int 0, .int 0, .int 0, .int 0, .int 0]))] := hD
  refine lv_aload_n hx hb dX2_init_14 rfl (lv_at hl 0 rfl) ?_
  refine lv_iconst (v := -1) hx hb dX2_init_15 (by decide) ?_
  refine va_put (D := D) (ci := 2) (v := .int (-1)) (ty := .int) (C := RX2) (T := TX2) (N := 7) hx hb hts mc_X2_init_2 tyX2 tyX2_ok nmX2 hown hK hP hD hS 0 rfl rfl 2 (by decide) (hts _ mw_X2_init_fieldLinkCleanRunsStay19CleanRunsStayendSecondI) (fun _ h9 => h9) rfl (by decide +kernel) rfl rfl (Nat.le_of_ble_eq_true rfl) dX2_init_16 (fun H locs hP hD hS => ?_)
  have hP : va_P D vwCl [(h0, .inr (2, [.ref a1, .int a2, .int (-1), .int 0, .int 0, .int 0, .int 0]))] H := hP
  have hD : va_D A [(h0, .inr (2, [.ref a1, .int a2, .int (-1), .int 0, .int 0, .int 0, .int 0]))] := hD
  refine lv_aload_n hx hb dX2_init_19 rfl (lv_at hl 0 rfl) ?_
  refine lv_iconst (v := 0) hx hb dX2_init_20 (by decide) ?_
  refine va_put (D := D) (ci := 2) (v := .int 0) (ty := .int) (C := RX2) (T := TX2) (N := 7) hx hb hts mc_X2_init_2 tyX2 tyX2_ok nmX2 hown hK hP hD hS 0 rfl rfl 3 (by decide) (hts _ mw_X2_init_fieldLinkCleanRunsStay22CleanRunsStaywaitedI) (fun _ h9 => h9) rfl (by decide +kernel) rfl rfl (Nat.le_of_ble_eq_true rfl) dX2_init_21 (fun H locs hP hD hS => ?_)
  have hP : va_P D vwCl [(h0, .inr (2, [.ref a1, .int a2, .int (-1), .int 0, .int 0, .int 0, .int 0]))] H := hP
  have hD : va_D A [(h0, .inr (2, [.ref a1, .int a2, .int (-1), .int 0, .int 0, .int 0, .int 0]))] := hD
  refine lv_aload_n hx hb dX2_init_24 rfl (lv_at hl 0 rfl) ?_
  refine lv_iconst (v := 0) hx hb dX2_init_25 (by decide) ?_
  refine va_put (D := D) (ci := 2) (v := .int 0) (ty := .int) (C := RX2) (T := TX2) (N := 7) hx hb hts mc_X2_init_2 tyX2 tyX2_ok nmX2 hown hK hP hD hS 0 rfl rfl 4 (by decide) (hts _ mw_X2_init_fieldLinkCleanRunsStay25CleanRunsStaycountedI) (fun _ h9 => h9) rfl (by decide +kernel) rfl rfl (Nat.le_of_ble_eq_true rfl) dX2_init_26 (fun H locs hP hD hS => ?_)
  have hP : va_P D vwCl [(h0, .inr (2, [.ref a1, .int a2, .int (-1), .int 0, .int 0, .int 0, .int 0]))] H := hP
  have hD : va_D A [(h0, .inr (2, [.ref a1, .int a2, .int (-1), .int 0, .int 0, .int 0, .int 0]))] := hD
  refine lv_aload_n hx hb dX2_init_29 rfl (lv_at hl 0 rfl) ?_
  refine lv_iconst (v := 0) hx hb dX2_init_30 (by decide) ?_
  refine va_put (D := D) (ci := 2) (v := .int 0) (ty := .int) (C := RX2) (T := TX2) (N := 7) hx hb hts mc_X2_init_2 tyX2 tyX2_ok nmX2 hown hK hP hD hS 0 rfl rfl 5 (by decide) (hts _ mw_X2_init_fieldLinkCleanRunsStay28CleanRunsStaymissedI) (fun _ h9 => h9) rfl (by decide +kernel) rfl rfl (Nat.le_of_ble_eq_true rfl) dX2_init_31 (fun H locs hP hD hS => ?_)
  have hP : va_P D vwCl [(h0, .inr (2, [.ref a1, .int a2, .int (-1), .int 0, .int 0, .int 0, .int 0]))] H := hP
  have hD : va_D A [(h0, .inr (2, [.ref a1, .int a2, .int (-1), .int 0, .int 0, .int 0, .int 0]))] := hD
  refine lv_aload_n hx hb dX2_init_34 rfl (lv_at hl 0 rfl) ?_
  refine lv_iconst (v := 0) hx hb dX2_init_35 (by decide) ?_
  refine va_put (D := D) (ci := 2) (v := .int 0) (ty := .int) (C := RX2) (T := TX2) (N := 7) hx hb hts mc_X2_init_2 tyX2 tyX2_ok nmX2 hown hK hP hD hS 0 rfl rfl 6 (by decide) (hts _ mw_X2_init_fieldLinkCleanRunsStay31CleanRunsStayfailuresI) (fun _ h9 => h9) rfl (by decide +kernel) rfl rfl (Nat.le_of_ble_eq_true rfl) dX2_init_36 (fun H locs hP hD hS => ?_)
  have hP : va_P D vwCl [(h0, .inr (2, [.ref a1, .int a2, .int (-1), .int 0, .int 0, .int 0, .int 0]))] H := hP
  have hD : va_D A [(h0, .inr (2, [.ref a1, .int a2, .int (-1), .int 0, .int 0, .int 0, .int 0]))] := hD
  have hP9 : va_P D vwCl [(h0, .inr (2, [.ref a1, .int a2, .int (-1), .int 0, .int 0, .int 0, .int 0]))] _ := hP.sub [0] rfl
  have hD9 : va_D A [(h0, .inr (2, [.ref a1, .int a2, .int (-1), .int 0, .int 0, .int 0, .int 0]))] := hD.sub [0] (by decide) rfl
  exact W.vret hx hb hr (fun tt ht hW => ⟨⟨(), rfl, trivial, by rw [ht]; exact hP9, hKK.moved hW.alike, hD9⟩, hS.F ht⟩) hS.2.2 dX2_init_39
set_option maxHeartbeats 4000000 in
set_option maxRecDepth 100000 in
theorem c_Stay_told (l : Launch) (D : va_G) (t : Nat → ClassId) (sz : Nat) (h0 h1 : Nat) (fs es wt ct ms fl : Int32) (k0 k1 : Int32) (k2 k3 : UInt64) (w : Int32)  : Met l yX2_told wsX2_told ({ frames := 0, cells := 0, slots := 0, locals := 0 } : Room) (va_Pc [.ref h0, .int w] (yS D t sz [(h0, .inr (2, [.ref h1, .int fs, .int es, .int wt, .int ct, .int ms, .int fl])), (h1, .inr (3, [.int k0, .int k1, .double k2, .double k3]))])) (va_Qi (fun (x : Int32) (u : Unit) => x = fT k0 fl fs es w) (fun (u : Unit) tt => yB D t (va_A [(h0, .inr (2, [.ref h1, .int fs, .int es, .int wt, .int ct, .int ms, .int fl])), (h1, .inr (3, [.int k0, .int k1, .double k2, .double k3]))] sz) [(h0, .inr (2, [.ref h1, .int fs, .int es, .int wt, .int ct, .int ms, .int fl])), (h1, .inr (3, [.int k0, .int k1, .double k2, .double k3]))] tt) (va_A [(h0, .inr (2, [.ref h1, .int fs, .int es, .int wt, .int ct, .int ms, .int fl])), (h1, .inr (3, [.int k0, .int k1, .double k2, .double k3]))] sz)) 0 0 (va_A [(h0, .inr (2, [.ref h1, .int fs, .int es, .int wt, .int ct, .int ms, .int fl])), (h1, .inr (3, [.int k0, .int k1, .double k2, .double k3]))] sz) := by
  refine y_ofW (wc := [(h0, .inr (2, [.ref h1, .int fs, .int es, .int wt, .int ct, .int ms, .int fl])), (h1, .inr (3, [.int k0, .int k1, .double k2, .double k3]))]) (Qc := fun A => va_Qi (fun (x : Int32) (u : Unit) => x = fT k0 fl fs es w) (fun (u : Unit) tt => yB D t A [(h0, .inr (2, [.ref h1, .int fs, .int es, .int wt, .int ct, .int ms, .int fl])), (h1, .inr (3, [.int k0, .int k1, .double k2, .double k3]))] tt) A) (cc := cX2_told) (maxL := 2) (ret := (some .int)) (by decide) rfl (Nat.le_of_ble_eq_true rfl) (fun p e s m below meth c A ls hx hb hr hts hlocks hml hown hnm hA hKK hP hD hS hl => ?_)
  have hK := hKK.1
  have hSF : CallFix p m c cX2_told 2 s _ wsX2_told RX2 := ⟨hx, hb, hml, hown, hts⟩
  have hl : lv_has ls 2 [(0, .ref h0), (1, .int w)] := hl
  refine lv_iload_n hx hb dX2_told_0 rfl (lv_at hl 1 rfl) ?_
  by_cases c_1_0 : w = 0
  · refine y_int 0 c_1_0 ?_
    refine lv_tableIn (tgt := 32) hx hb dX2_told_1 (by decide) (by decide) rfl (by decide) ?_
    refine lv_aload_n hx hb dX2_told_32 rfl (lv_at hl 0 rfl) ?_
    refine va_get (D := D) (ci := 2) (v := .ref h1) (C := RX2) (T := TX2) (N := 7) hx hb hts mc_X2_told_2 hown hK hP 0 rfl rfl 0 (by decide) (hts _ mw_X2_told_fieldLinkCleanRunsStay9CleanRunsStaystepLCleanRunsStep) (fun _ h9 => h9) rfl dX2_told_33 ?_
    refine va_get (D := D) (ci := 3) (v := .int k0) (C := RX3) (T := TX3) (N := 4) hx hb hts mc_X2_told_3 hown hK hP 1 rfl rfl 0 (by decide) (hts _ mw_X2_told_fieldLinkCleanRunsStay34CleanRunsStepkindI) (fun _ h9 => h9) rfl dX2_told_36 ?_
    have hP9 : va_P D vwCl [(h0, .inr (2, [.ref h1, .int fs, .int es, .int wt, .int ct, .int ms, .int fl])), (h1, .inr (3, [.int k0, .int k1, .double k2, .double k3]))] _ := hP.sub [0, 1] rfl
    have hD9 : va_D A [(h0, .inr (2, [.ref h1, .int fs, .int es, .int wt, .int ct, .int ms, .int fl])), (h1, .inr (3, [.int k0, .int k1, .double k2, .double k3]))] := hD.sub [0, 1] (by decide) rfl
    exact W.iret (v := k0) hx hb hr (fun tt ht hW => ⟨⟨k0, (), rfl, by simp only [fT, c_1_0, if_true, if_false]; try first | rfl | decide, by rw [ht]; exact hP9, hKK.moved hW.alike, hD9⟩, hS.F ht⟩) hS.2.2 dX2_told_39
  by_cases c_1_1 : w = 1
  · refine y_int 1 c_1_1 ?_
    refine lv_tableIn (tgt := 40) hx hb dX2_told_1 (by decide) (by decide) rfl (by decide) ?_
    refine lv_aload_n hx hb dX2_told_40 rfl (lv_at hl 0 rfl) ?_
    refine va_get (D := D) (ci := 2) (v := .int fl) (C := RX2) (T := TX2) (N := 7) hx hb hts mc_X2_told_2 hown hK hP 0 rfl rfl 6 (by decide) (hts _ mw_X2_told_fieldLinkCleanRunsStay31CleanRunsStayfailuresI) (fun _ h9 => h9) rfl dX2_told_41 ?_
    have hP9 : va_P D vwCl [(h0, .inr (2, [.ref h1, .int fs, .int es, .int wt, .int ct, .int ms, .int fl])), (h1, .inr (3, [.int k0, .int k1, .double k2, .double k3]))] _ := hP.sub [0, 1] rfl
    have hD9 : va_D A [(h0, .inr (2, [.ref h1, .int fs, .int es, .int wt, .int ct, .int ms, .int fl])), (h1, .inr (3, [.int k0, .int k1, .double k2, .double k3]))] := hD.sub [0, 1] (by decide) rfl
    exact W.iret (v := fl) hx hb hr (fun tt ht hW => ⟨⟨fl, (), rfl, by simp only [fT, c_1_0, c_1_1, if_true, if_false]; try first | rfl | decide, by rw [ht]; exact hP9, hKK.moved hW.alike, hD9⟩, hS.F ht⟩) hS.2.2 dX2_told_44
  by_cases c_1_2 : w = 2
  · refine y_int 2 c_1_2 ?_
    refine lv_tableIn (tgt := 45) hx hb dX2_told_1 (by decide) (by decide) rfl (by decide) ?_
    refine lv_aload_n hx hb dX2_told_45 rfl (lv_at hl 0 rfl) ?_
    refine va_get (D := D) (ci := 2) (v := .int fs) (C := RX2) (T := TX2) (N := 7) hx hb hts mc_X2_told_2 hown hK hP 0 rfl rfl 1 (by decide) (hts _ mw_X2_told_fieldLinkCleanRunsStay15CleanRunsStayfirstSecondI) (fun _ h9 => h9) rfl dX2_told_46 ?_
    have hP9 : va_P D vwCl [(h0, .inr (2, [.ref h1, .int fs, .int es, .int wt, .int ct, .int ms, .int fl])), (h1, .inr (3, [.int k0, .int k1, .double k2, .double k3]))] _ := hP.sub [0, 1] rfl
    have hD9 : va_D A [(h0, .inr (2, [.ref h1, .int fs, .int es, .int wt, .int ct, .int ms, .int fl])), (h1, .inr (3, [.int k0, .int k1, .double k2, .double k3]))] := hD.sub [0, 1] (by decide) rfl
    exact W.iret (v := fs) hx hb hr (fun tt ht hW => ⟨⟨fs, (), rfl, by simp only [fT, c_1_0, c_1_1, c_1_2, if_true, if_false]; try first | rfl | decide, by rw [ht]; exact hP9, hKK.moved hW.alike, hD9⟩, hS.F ht⟩) hS.2.2 dX2_told_49
  by_cases c_1_3 : w = 3
  · refine y_int 3 c_1_3 ?_
    refine lv_tableIn (tgt := 50) hx hb dX2_told_1 (by decide) (by decide) rfl (by decide) ?_
    refine lv_aload_n hx hb dX2_told_50 rfl (lv_at hl 0 rfl) ?_
    refine va_get (D := D) (ci := 2) (v := .int es) (C := RX2) (T := TX2) (N := 7) hx hb hts mc_X2_told_2 hown hK hP 0 rfl rfl 2 (by decide) (hts _ mw_X2_told_fieldLinkCleanRunsStay19CleanRunsStayendSecondI) (fun _ h9 => h9) rfl dX2_told_51 ?_
    have hP9 : va_P D vwCl [(h0, .inr (2, [.ref h1, .int fs, .int es, .int wt, .int ct, .int ms, .int fl])), (h1, .inr (3, [.int k0, .int k1, .double k2, .double k3]))] _ := hP.sub [0, 1] rfl
    have hD9 : va_D A [(h0, .inr (2, [.ref h1, .int fs, .int es, .int wt, .int ct, .int ms, .int fl])), (h1, .inr (3, [.int k0, .int k1, .double k2, .double k3]))] := hD.sub [0, 1] (by decide) rfl
    exact W.iret (v := es) hx hb hr (fun tt ht hW => ⟨⟨es, (), rfl, by simp only [fT, c_1_0, c_1_1, c_1_2, c_1_3, if_true, if_false]; try first | rfl | decide, by rw [ht]; exact hP9, hKK.moved hW.alike, hD9⟩, hS.F ht⟩) hS.2.2 dX2_told_54
  refine lv_tableOut (tgt := 55) hx hb dX2_told_1 (y_out4 c_1_0 c_1_1 c_1_2 c_1_3) (by decide) ?_
  refine lv_iconst (v := -1) hx hb dX2_told_55 (by decide) ?_
  have hP9 : va_P D vwCl [(h0, .inr (2, [.ref h1, .int fs, .int es, .int wt, .int ct, .int ms, .int fl])), (h1, .inr (3, [.int k0, .int k1, .double k2, .double k3]))] _ := hP.sub [0, 1] rfl
  have hD9 : va_D A [(h0, .inr (2, [.ref h1, .int fs, .int es, .int wt, .int ct, .int ms, .int fl])), (h1, .inr (3, [.int k0, .int k1, .double k2, .double k3]))] := hD.sub [0, 1] (by decide) rfl
  exact W.iret (v := (-1)) hx hb hr (fun tt ht hW => ⟨⟨(-1), (), rfl, by simp only [fT, c_1_0, c_1_1, c_1_2, c_1_3, if_true, if_false]; try first | rfl | decide, by rw [ht]; exact hP9, hKK.moved hW.alike, hD9⟩, hS.F ht⟩) hS.2.2 dX2_told_56
set_option maxHeartbeats 4000000 in
set_option maxRecDepth 100000 in
theorem c_Recipe_init (l : Launch) (D : va_G) (t : Nat → ClassId) (sz : Nat) (h0 : Nat)  : Met l yX0_init wsX0_init ({ frames := 1, cells := 1, slots := 12, locals := 12 } : Room) (va_Pc [.ref h0] (yS D t sz [(h0, .inr (0, [.null, .int 0, .int 0]))])) (va_Qv (fun (u : Nat) => True) (fun (u : Nat) tt => yB D t (va_A [(h0, .inr (0, [.null, .int 0, .int 0]))] sz) [(h0, .inr (0, [.ref u, .int 0, .int 0])), (u, .inl (t 6, 12, .inr (.inr (.inr (.inr (fun _ => none))))))] tt) (va_A [(h0, .inr (0, [.null, .int 0, .int 0]))] sz)) 1 12 (va_A [(h0, .inr (0, [.null, .int 0, .int 0]))] sz) := by
  refine y_ofW (wc := [(h0, .inr (0, [.null, .int 0, .int 0]))]) (Qc := fun A => va_Qv (fun (u : Nat) => True) (fun (u : Nat) tt => yB D t A [(h0, .inr (0, [.ref u, .int 0, .int 0])), (u, .inl (t 6, 12, .inr (.inr (.inr (.inr (fun _ => none))))))] tt) A) (cc := cX0_init) (maxL := 1) (ret := none) (by decide) rfl (Nat.le_of_ble_eq_true rfl) (fun p e s m below meth c A ls hx hb hr hts hlocks hml hown hnm hA hKK hP hD hS hl => ?_)
  have hK := hKK.1
  have hSF : CallFix p m c cX0_init 1 s _ wsX0_init RX0 := ⟨hx, hb, hml, hown, hts⟩
  have hl : lv_has ls 1 [(0, .ref h0)] := hl
  refine lv_aload_n hx hb dX0_init_0 rfl (lv_at hl 0 rfl) ?_
  refine W.objInit hx hb hown (hts _ mw_X0_init_methodLinkCleanRunsRecipe3javalangObjectinitV) (hts _ mw_X0_init_instanceMethodjavalangObjectinitV) (hts _ mw_X0_init_codejavalangObjectinitVobjectmethod1code1none) rfl (by rw [hml]; exact hl.1) rfl dX0_init_1 (Nat.le_of_ble_eq_true rfl) (Nat.le_of_ble_eq_true rfl) ?_
  refine W.eq (g2 := F0 m 4 ls []) rfl ?_
  refine lv_aload_n hx hb dX0_init_4 rfl (lv_at hl 0 rfl) ?_
  refine lv_bipush (v := 12) hx hb dX0_init_5 (by decide) ?_
  refine va_newq (C := RX3) (N' := 12) hx hb hown (hts _ mw_X0_init_classLinkCleanRunsRecipe9CleanRunsStep) hKK.2.2.2.2 hK hP hD hS hA (by decide) (by decide) (by decide) (Nat.le_of_ble_eq_true rfl) (Nat.le_of_ble_eq_true rfl) dX0_init_7 (fun q7 cA H hK9 hP hD hS => ?_)
  obtain rfl : cA = t 6 := y_same hK9 (ty := .object RX3) 6 rfl
  have hP : va_P D vwCl [(h0, .inr (0, [.null, .int 0, .int 0])), (q7, .inl (t 6, 12, .inr (.inr (.inr (.inr (fun _ => none))))))] H := hP
  have hD : va_D A [(h0, .inr (0, [.null, .int 0, .int 0])), (q7, .inl (t 6, 12, .inr (.inr (.inr (.inr (fun _ => none))))))] := hD
  refine va_putF (D := D) (ci := 0) (v := .ref q7) (ty := (.array (.object "CleanRuns$Step"))) (C := RX0) (T := TX0) (N := 3) hx hb hts mc_X0_init_0 tyX0 tyX0_ok nmX0 hown hK hP hD hS 0 rfl rfl 0 (by decide) (hts _ mw_X0_init_fieldLinkCleanRunsRecipe11CleanRunsRecipestepsLCleanRunsStep) (fun _ h9 => h9) rfl hnm rfl (by decide +kernel) rfl rfl (Nat.le_of_ble_eq_true rfl) dX0_init_10 (fun H locs hP hD hS => ?_)
  have hP : va_P D vwCl [(h0, .inr (0, [.ref q7, .int 0, .int 0])), (q7, .inl (t 6, 12, .inr (.inr (.inr (.inr (fun _ => none))))))] H := hP
  have hD : va_D A [(h0, .inr (0, [.ref q7, .int 0, .int 0])), (q7, .inl (t 6, 12, .inr (.inr (.inr (.inr (fun _ => none))))))] := hD
  refine lv_aload_n hx hb dX0_init_13 rfl (lv_at hl 0 rfl) ?_
  refine lv_iconst (v := 0) hx hb dX0_init_14 (by decide) ?_
  refine va_put (D := D) (ci := 0) (v := .int 0) (ty := .int) (C := RX0) (T := TX0) (N := 3) hx hb hts mc_X0_init_0 tyX0 tyX0_ok nmX0 hown hK hP hD hS 0 rfl rfl 1 (by decide) (hts _ mw_X0_init_fieldLinkCleanRunsRecipe17CleanRunsRecipesizeI) (fun _ h9 => h9) rfl (by decide +kernel) rfl rfl (Nat.le_of_ble_eq_true rfl) dX0_init_15 (fun H locs hP hD hS => ?_)
  have hP : va_P D vwCl [(h0, .inr (0, [.ref q7, .int 0, .int 0])), (q7, .inl (t 6, 12, .inr (.inr (.inr (.inr (fun _ => none))))))] H := hP
  have hD : va_D A [(h0, .inr (0, [.ref q7, .int 0, .int 0])), (q7, .inl (t 6, 12, .inr (.inr (.inr (.inr (fun _ => none))))))] := hD
  refine lv_aload_n hx hb dX0_init_18 rfl (lv_at hl 0 rfl) ?_
  refine lv_iconst (v := 0) hx hb dX0_init_19 (by decide) ?_
  refine va_put (D := D) (ci := 0) (v := .int 0) (ty := .boolean) (C := RX0) (T := TX0) (N := 3) hx hb hts mc_X0_init_0 tyX0 tyX0_ok nmX0 hown hK hP hD hS 0 rfl rfl 2 (by decide) (hts _ mw_X0_init_fieldLinkCleanRunsRecipe21CleanRunsRecipebegunZ) (fun _ h9 => h9) rfl (by decide +kernel) rfl rfl (Nat.le_of_ble_eq_true rfl) dX0_init_20 (fun H locs hP hD hS => ?_)
  have hP : va_P D vwCl [(h0, .inr (0, [.ref q7, .int 0, .int 0])), (q7, .inl (t 6, 12, .inr (.inr (.inr (.inr (fun _ => none))))))] H := hP
  have hD : va_D A [(h0, .inr (0, [.ref q7, .int 0, .int 0])), (q7, .inl (t 6, 12, .inr (.inr (.inr (.inr (fun _ => none))))))] := hD
  have hP9 : va_P D vwCl [(h0, .inr (0, [.ref q7, .int 0, .int 0])), (q7, .inl (t 6, 12, .inr (.inr (.inr (.inr (fun _ => none))))))] _ := hP.sub [0, 1] rfl
  have hD9 : va_D A [(h0, .inr (0, [.ref q7, .int 0, .int 0])), (q7, .inl (t 6, 12, .inr (.inr (.inr (.inr (fun _ => none))))))] := hD.sub [0, 1] (by decide) rfl
  exact W.vret hx hb hr (fun tt ht hW => ⟨⟨q7, rfl, trivial, by rw [ht]; exact hP9, hKK.moved hW.alike, hD9⟩, hS.F ht⟩) hS.2.2 dX0_init_23
set_option maxHeartbeats 4000000 in
set_option maxRecDepth 100000 in
theorem c_Recipe_takes (l : Launch) (D : va_G) (t : Nat → ClassId) (sz : Nat) (h0 h1 : Nat) (n g : Int32) (f : Nat → Option Nat)  : Met l yX0_takesAStep wsX0_takesAStep ({ frames := 0, cells := 0, slots := 0, locals := 0 } : Room) (va_Pc [.ref h0] (yS D t sz [(h0, .inr (0, [.ref h1, .int n, .int g])), (h1, .inl (t 6, 12, .inr (.inr (.inr (.inr (f))))))])) (va_Qi (fun (x : Int32) (u : Unit) => x = fK n g) (fun (u : Unit) tt => yB D t (va_A [(h0, .inr (0, [.ref h1, .int n, .int g])), (h1, .inl (t 6, 12, .inr (.inr (.inr (.inr (f))))))] sz) [(h0, .inr (0, [.ref h1, .int n, .int g])), (h1, .inl (t 6, 12, .inr (.inr (.inr (.inr (f))))))] tt) (va_A [(h0, .inr (0, [.ref h1, .int n, .int g])), (h1, .inl (t 6, 12, .inr (.inr (.inr (.inr (f))))))] sz)) 0 0 (va_A [(h0, .inr (0, [.ref h1, .int n, .int g])), (h1, .inl (t 6, 12, .inr (.inr (.inr (.inr (f))))))] sz) := by
  refine y_ofW (wc := [(h0, .inr (0, [.ref h1, .int n, .int g])), (h1, .inl (t 6, 12, .inr (.inr (.inr (.inr (f))))))]) (Qc := fun A => va_Qi (fun (x : Int32) (u : Unit) => x = fK n g) (fun (u : Unit) tt => yB D t A [(h0, .inr (0, [.ref h1, .int n, .int g])), (h1, .inl (t 6, 12, .inr (.inr (.inr (.inr (f))))))] tt) A) (cc := cX0_takesAStep) (maxL := 1) (ret := (some .boolean)) (by decide) rfl (Nat.le_of_ble_eq_true rfl) (fun p e s m below meth c A ls hx hb hr hts hlocks hml hown hnm hA hKK hP hD hS hl => ?_)
  have hK := hKK.1
  have hSF : CallFix p m c cX0_takesAStep 1 s _ wsX0_takesAStep RX0 := ⟨hx, hb, hml, hown, hts⟩
  have hl : lv_has ls 1 [(0, .ref h0)] := hl
  refine lv_aload_n hx hb dX0_takesAStep_0 rfl (lv_at hl 0 rfl) ?_
  refine va_get (D := D) (ci := 0) (v := .int g) (C := RX0) (T := TX0) (N := 3) hx hb hts mc_X0_takesAStep_0 hown hK hP 0 rfl rfl 2 (by decide) (hts _ mw_X0_takesAStep_fieldLinkCleanRunsRecipe21CleanRunsRecipebegunZ) (fun _ h9 => h9) rfl dX0_takesAStep_1 ?_
  refine lv_if_ne (tgt := 23) hx hb dX0_takesAStep_4 (by decide) (fun c_4_0 => ?_) (fun c_4_0 => ?_)
  · refine lv_iconst (v := 0) hx hb dX0_takesAStep_23 (by decide) ?_
    have hP9 : va_P D vwCl [(h0, .inr (0, [.ref h1, .int n, .int g])), (h1, .inl (t 6, 12, .inr (.inr (.inr (.inr (f))))))] _ := hP.sub [0, 1] rfl
    have hD9 : va_D A [(h0, .inr (0, [.ref h1, .int n, .int g])), (h1, .inl (t 6, 12, .inr (.inr (.inr (.inr (f))))))] := hD.sub [0, 1] (by decide) rfl
    exact W.zret (v := 0) hx hb hr (by decide) (fun tt ht hW => ⟨⟨0, (), rfl, by (simp only [fK, c_4_0, if_true, if_false]; try first | rfl | decide), by rw [ht]; exact hP9, hKK.moved hW.alike, hD9⟩, hS.F ht⟩) hS.2.2 dX0_takesAStep_24
  · refine lv_aload_n hx hb dX0_takesAStep_7 rfl (lv_at hl 0 rfl) ?_
    refine va_get (D := D) (ci := 0) (v := .int n) (C := RX0) (T := TX0) (N := 3) hx hb hts mc_X0_takesAStep_0 hown hK hP 0 rfl rfl 1 (by decide) (hts _ mw_X0_takesAStep_fieldLinkCleanRunsRecipe17CleanRunsRecipesizeI) (fun _ h9 => h9) rfl dX0_takesAStep_8 ?_
    refine lv_aload_n hx hb dX0_takesAStep_11 rfl (lv_at hl 0 rfl) ?_
    refine va_get (D := D) (ci := 0) (v := .ref h1) (C := RX0) (T := TX0) (N := 3) hx hb hts mc_X0_takesAStep_0 hown hK hP 0 rfl rfl 0 (by decide) (hts _ mw_X0_takesAStep_fieldLinkCleanRunsRecipe11CleanRunsRecipestepsLCleanRunsStep) (fun _ h9 => h9) rfl dX0_takesAStep_12 ?_
    refine va_alen (v := 12) hx hb hK hP 1 6 rfl rfl rfl dX0_takesAStep_15 ?_
    refine lv_icmp_ge (tgt := 23) hx hb dX0_takesAStep_16 (by decide) (fun c_16_1 => ?_) (fun c_16_1 => ?_)
    · refine lv_iconst (v := 0) hx hb dX0_takesAStep_23 (by decide) ?_
      have hP9 : va_P D vwCl [(h0, .inr (0, [.ref h1, .int n, .int g])), (h1, .inl (t 6, 12, .inr (.inr (.inr (.inr (f))))))] _ := hP.sub [0, 1] rfl
      have hD9 : va_D A [(h0, .inr (0, [.ref h1, .int n, .int g])), (h1, .inl (t 6, 12, .inr (.inr (.inr (.inr (f))))))] := hD.sub [0, 1] (by decide) rfl
      exact W.zret (v := 0) hx hb hr (by decide) (fun tt ht hW => ⟨⟨0, (), rfl, by (simp only [fK, c_4_0, c_16_1, if_true, if_false]; try first | rfl | decide), by rw [ht]; exact hP9, hKK.moved hW.alike, hD9⟩, hS.F ht⟩) hS.2.2 dX0_takesAStep_24
    · refine lv_iconst (v := 1) hx hb dX0_takesAStep_19 (by decide) ?_
      refine lv_goto (tgt := 24) hx hb dX0_takesAStep_20 (by decide) ?_
      have hP9 : va_P D vwCl [(h0, .inr (0, [.ref h1, .int n, .int g])), (h1, .inl (t 6, 12, .inr (.inr (.inr (.inr (f))))))] _ := hP.sub [0, 1] rfl
      have hD9 : va_D A [(h0, .inr (0, [.ref h1, .int n, .int g])), (h1, .inl (t 6, 12, .inr (.inr (.inr (.inr (f))))))] := hD.sub [0, 1] (by decide) rfl
      exact W.zret (v := 1) hx hb hr (by decide) (fun tt ht hW => ⟨⟨1, (), rfl, by (simp only [fK, c_4_0, c_16_1, if_true, if_false]; try first | rfl | decide), by rw [ht]; exact hP9, hKK.moved hW.alike, hD9⟩, hS.F ht⟩) hS.2.2 dX0_takesAStep_24
set_option maxHeartbeats 4000000 in
set_option maxRecDepth 100000 in
theorem c_Recipe_append (l : Launch) (D : va_G) (t : Nat → ClassId) (sz : Nat) (h0 h1 h2 : Nat) (n : Nat) (g : Int32) (f : Nat → Option Nat) (k0 k1 : Int32) (k2 k3 : UInt64) (hn : n < 12) : Met l yX0_append wsX0_append ({ frames := 0, cells := 0, slots := 0, locals := 0 } : Room) (va_Pc [.ref h0, .ref h2] (yS D t sz [(h0, .inr (0, [.ref h1, .int (nI n), .int g])), (h1, .inl (t 6, 12, .inr (.inr (.inr (.inr (f)))))), (h2, .inr (3, [.int k0, .int k1, .double k2, .double k3]))])) (va_Qv (fun (u : Unit) => True) (fun (u : Unit) tt => yB D t (va_A [(h0, .inr (0, [.ref h1, .int (nI n), .int g])), (h1, .inl (t 6, 12, .inr (.inr (.inr (.inr (f)))))), (h2, .inr (3, [.int k0, .int k1, .double k2, .double k3]))] sz) [(h0, .inr (0, [.ref h1, .int (nI n + 1), .int g])), (h1, .inl (t 6, 12, .inr (.inr (.inr (.inr (va_up f n (some h2))))))), (h2, .inr (3, [.int k0, .int k1, .double k2, .double k3]))] tt) (va_A [(h0, .inr (0, [.ref h1, .int (nI n), .int g])), (h1, .inl (t 6, 12, .inr (.inr (.inr (.inr (f)))))), (h2, .inr (3, [.int k0, .int k1, .double k2, .double k3]))] sz)) 0 0 (va_A [(h0, .inr (0, [.ref h1, .int (nI n), .int g])), (h1, .inl (t 6, 12, .inr (.inr (.inr (.inr (f)))))), (h2, .inr (3, [.int k0, .int k1, .double k2, .double k3]))] sz) := by
  refine y_ofW (wc := [(h0, .inr (0, [.ref h1, .int (nI n), .int g])), (h1, .inl (t 6, 12, .inr (.inr (.inr (.inr (f)))))), (h2, .inr (3, [.int k0, .int k1, .double k2, .double k3]))]) (Qc := fun A => va_Qv (fun (u : Unit) => True) (fun (u : Unit) tt => yB D t A [(h0, .inr (0, [.ref h1, .int (nI n + 1), .int g])), (h1, .inl (t 6, 12, .inr (.inr (.inr (.inr (va_up f n (some h2))))))), (h2, .inr (3, [.int k0, .int k1, .double k2, .double k3]))] tt) A) (cc := cX0_append) (maxL := 2) (ret := none) (by decide) rfl (Nat.le_of_ble_eq_true rfl) (fun p e s m below meth c A ls hx hb hr hts hlocks hml hown hnm hA hKK hP hD hS hl => ?_)
  have hK := hKK.1
  have hSF : CallFix p m c cX0_append 2 s _ wsX0_append RX0 := ⟨hx, hb, hml, hown, hts⟩
  have hl : lv_has ls 2 [(0, .ref h0), (1, .ref h2)] := hl
  refine lv_aload_n hx hb dX0_append_0 rfl (lv_at hl 0 rfl) ?_
  refine va_get (D := D) (ci := 0) (v := .int (nI n)) (C := RX0) (T := TX0) (N := 3) hx hb hts mc_X0_append_0 hown hK hP 0 rfl rfl 1 (by decide) (hts _ mw_X0_append_fieldLinkCleanRunsRecipe17CleanRunsRecipesizeI) (fun _ h9 => h9) rfl dX0_append_1 ?_
  refine lv_if_lt (tgt := 39) hx hb dX0_append_4 (by decide) (fun hc9 => absurd hc9 (nI_pos (by omega))) (fun _ => ?_)
  refine lv_aload_n hx hb dX0_append_7 rfl (lv_at hl 0 rfl) ?_
  refine va_get (D := D) (ci := 0) (v := .int (nI n)) (C := RX0) (T := TX0) (N := 3) hx hb hts mc_X0_append_0 hown hK hP 0 rfl rfl 1 (by decide) (hts _ mw_X0_append_fieldLinkCleanRunsRecipe17CleanRunsRecipesizeI) (fun _ h9 => h9) rfl dX0_append_8 ?_
  refine lv_aload_n hx hb dX0_append_11 rfl (lv_at hl 0 rfl) ?_
  refine va_get (D := D) (ci := 0) (v := .ref h1) (C := RX0) (T := TX0) (N := 3) hx hb hts mc_X0_append_0 hown hK hP 0 rfl rfl 0 (by decide) (hts _ mw_X0_append_fieldLinkCleanRunsRecipe11CleanRunsRecipestepsLCleanRunsStep) (fun _ h9 => h9) rfl dX0_append_12 ?_
  refine va_alen (v := 12) hx hb hK hP 1 6 rfl rfl rfl dX0_append_15 ?_
  refine lv_icmp_ge (tgt := 39) hx hb dX0_append_16 (by decide) (fun hc9 => absurd hc9 (nI_ge (b := 12) hn (by decide))) (fun _ => ?_)
  refine lv_aload_n hx hb dX0_append_19 rfl (lv_at hl 0 rfl) ?_
  refine va_get (D := D) (ci := 0) (v := .ref h1) (C := RX0) (T := TX0) (N := 3) hx hb hts mc_X0_append_0 hown hK hP 0 rfl rfl 0 (by decide) (hts _ mw_X0_append_fieldLinkCleanRunsRecipe11CleanRunsRecipestepsLCleanRunsStep) (fun _ h9 => h9) rfl dX0_append_20 ?_
  refine lv_aload_n hx hb dX0_append_23 rfl (lv_at hl 0 rfl) ?_
  refine va_get (D := D) (ci := 0) (v := .int (nI n)) (C := RX0) (T := TX0) (N := 3) hx hb hts mc_X0_append_0 hown hK hP 0 rfl rfl 1 (by decide) (hts _ mw_X0_append_fieldLinkCleanRunsRecipe17CleanRunsRecipesizeI) (fun _ h9 => h9) rfl dX0_append_24 ?_
  refine lv_aload_n hx hb dX0_append_27 rfl (lv_at hl 1 rfl) ?_
  refine y_aast (j := n) hx hb hK hP hD hS 1 6 2 3 rfl rfl rfl rfl (hn) (by decide) dX0_append_28 (fun H locs hP hD hS => ?_)
  have hP : va_P D vwCl [(h0, .inr (0, [.ref h1, .int (nI n), .int g])), (h1, .inl (t 6, 12, .inr (.inr (.inr (.inr (va_up f n (some h2))))))), (h2, .inr (3, [.int k0, .int k1, .double k2, .double k3]))] H := hP
  have hD : va_D A [(h0, .inr (0, [.ref h1, .int (nI n), .int g])), (h1, .inl (t 6, 12, .inr (.inr (.inr (.inr (va_up f n (some h2))))))), (h2, .inr (3, [.int k0, .int k1, .double k2, .double k3]))] := hD
  refine lv_aload_n hx hb dX0_append_29 rfl (lv_at hl 0 rfl) ?_
  refine lv_dup hx hb dX0_append_30 rfl ?_
  refine va_get (D := D) (ci := 0) (v := .int (nI n)) (C := RX0) (T := TX0) (N := 3) hx hb hts mc_X0_append_0 hown hK hP 0 rfl rfl 1 (by decide) (hts _ mw_X0_append_fieldLinkCleanRunsRecipe17CleanRunsRecipesizeI) (fun _ h9 => h9) rfl dX0_append_31 ?_
  refine lv_iconst (v := 1) hx hb dX0_append_34 (by decide) ?_
  refine lv_iadd hx hb dX0_append_35 ?_
  refine va_put (D := D) (ci := 0) (v := .int ((nI n) + 1)) (ty := .int) (C := RX0) (T := TX0) (N := 3) hx hb hts mc_X0_append_0 tyX0 tyX0_ok nmX0 hown hK hP hD hS 0 rfl rfl 1 (by decide) (hts _ mw_X0_append_fieldLinkCleanRunsRecipe17CleanRunsRecipesizeI) (fun _ h9 => h9) rfl (by decide +kernel) rfl rfl (Nat.le_of_ble_eq_true rfl) dX0_append_36 (fun H locs hP hD hS => ?_)
  have hP : va_P D vwCl [(h0, .inr (0, [.ref h1, .int ((nI n) + 1), .int g])), (h1, .inl (t 6, 12, .inr (.inr (.inr (.inr (va_up f n (some h2))))))), (h2, .inr (3, [.int k0, .int k1, .double k2, .double k3]))] H := hP
  have hD : va_D A [(h0, .inr (0, [.ref h1, .int ((nI n) + 1), .int g])), (h1, .inl (t 6, 12, .inr (.inr (.inr (.inr (va_up f n (some h2))))))), (h2, .inr (3, [.int k0, .int k1, .double k2, .double k3]))] := hD
  have hP9 : va_P D vwCl [(h0, .inr (0, [.ref h1, .int ((nI n) + 1), .int g])), (h1, .inl (t 6, 12, .inr (.inr (.inr (.inr (va_up f n (some h2))))))), (h2, .inr (3, [.int k0, .int k1, .double k2, .double k3]))] _ := hP.sub [0, 1, 2] rfl
  have hD9 : va_D A [(h0, .inr (0, [.ref h1, .int ((nI n) + 1), .int g])), (h1, .inl (t 6, 12, .inr (.inr (.inr (.inr (va_up f n (some h2))))))), (h2, .inr (3, [.int k0, .int k1, .double k2, .double k3]))] := hD.sub [0, 1, 2] (by decide) rfl
  have e9 : ([(h0, .inr (0, [.ref h1, .int (nI n + 1), .int g])), (h1, .inl (t 6, 12, .inr (.inr (.inr (.inr (va_up f n (some h2))))))), (h2, .inr (3, [.int k0, .int k1, .double k2, .double k3]))] : va_W) = [(h0, .inr (0, [.ref h1, .int ((nI n) + 1), .int g])), (h1, .inl (t 6, 12, .inr (.inr (.inr (.inr (va_up f n (some h2))))))), (h2, .inr (3, [.int k0, .int k1, .double k2, .double k3]))] := by rfl
  rw [← e9] at hP9 hD9
  exact W.vret hx hb hr (fun tt ht hW => ⟨⟨(), rfl, trivial, by rw [ht]; exact hP9, hKK.moved hW.alike, hD9⟩, hS.F ht⟩) hS.2.2 dX0_append_39
set_option maxHeartbeats 4000000 in
set_option maxRecDepth 100000 in
theorem c_Recipe_stepAt_no (l : Launch) (D : va_G) (t : Nat → ClassId) (sz : Nat) (h0 h1 : Nat) (n k : Nat) (g : Int32) (f : Nat → Option Nat) (hk : n ≤ k) (hk2 : k < 2 ^ 31) : Met l yX0_stepAt wsX0_stepAt ({ frames := 0, cells := 0, slots := 0, locals := 0 } : Room) (va_Pc [.ref h0, .int (nI k)] (yS D t sz [(h0, .inr (0, [.ref h1, .int (nI n), .int g])), (h1, .inl (t 6, 12, .inr (.inr (.inr (.inr (f))))))])) (va_Qq (fun (x : Option Nat) (u : Unit) => x = none) (fun (u : Unit) tt => yB D t (va_A [(h0, .inr (0, [.ref h1, .int (nI n), .int g])), (h1, .inl (t 6, 12, .inr (.inr (.inr (.inr (f))))))] sz) [(h0, .inr (0, [.ref h1, .int (nI n), .int g])), (h1, .inl (t 6, 12, .inr (.inr (.inr (.inr (f))))))] tt) (va_A [(h0, .inr (0, [.ref h1, .int (nI n), .int g])), (h1, .inl (t 6, 12, .inr (.inr (.inr (.inr (f))))))] sz)) 0 0 (va_A [(h0, .inr (0, [.ref h1, .int (nI n), .int g])), (h1, .inl (t 6, 12, .inr (.inr (.inr (.inr (f))))))] sz) := by
  refine y_ofW (wc := [(h0, .inr (0, [.ref h1, .int (nI n), .int g])), (h1, .inl (t 6, 12, .inr (.inr (.inr (.inr (f))))))]) (Qc := fun A => va_Qq (fun (x : Option Nat) (u : Unit) => x = none) (fun (u : Unit) tt => yB D t A [(h0, .inr (0, [.ref h1, .int (nI n), .int g])), (h1, .inl (t 6, 12, .inr (.inr (.inr (.inr (f))))))] tt) A) (cc := cX0_stepAt) (maxL := 2) (ret := (some (.object "CleanRuns$Step"))) (by decide) rfl (Nat.le_of_ble_eq_true rfl) (fun p e s m below meth c A ls hx hb hr hts hlocks hml hown hnm hA hKK hP hD hS hl => ?_)
  have hK := hKK.1
  have hSF : CallFix p m c cX0_stepAt 2 s _ wsX0_stepAt RX0 := ⟨hx, hb, hml, hown, hts⟩
  have hl : lv_has ls 2 [(0, .ref h0), (1, .int (nI k))] := hl
  refine lv_iload_n hx hb dX0_stepAt_0 rfl (lv_at hl 1 rfl) ?_
  refine lv_if_lt (tgt := 21) hx hb dX0_stepAt_1 (by decide) (fun hc9 => absurd hc9 (nI_pos hk2)) (fun _ => ?_)
  refine lv_iload_n hx hb dX0_stepAt_4 rfl (lv_at hl 1 rfl) ?_
  refine lv_aload_n hx hb dX0_stepAt_5 rfl (lv_at hl 0 rfl) ?_
  refine va_get (D := D) (ci := 0) (v := .int (nI n)) (C := RX0) (T := TX0) (N := 3) hx hb hts mc_X0_stepAt_0 hown hK hP 0 rfl rfl 1 (by decide) (hts _ mw_X0_stepAt_fieldLinkCleanRunsRecipe17CleanRunsRecipesizeI) (fun _ h9 => h9) rfl dX0_stepAt_6 ?_
  refine lv_icmp_ge (tgt := 21) hx hb dX0_stepAt_9 (by decide) (fun _ => ?_) (fun hc9 => absurd (nI_le hk hk2) hc9)
  refine lv_null hx hb dX0_stepAt_21 ?_
  have hP9 : va_P D vwCl [(h0, .inr (0, [.ref h1, .int (nI n), .int g])), (h1, .inl (t 6, 12, .inr (.inr (.inr (.inr (f))))))] _ := hP.sub [0, 1] rfl
  have hD9 : va_D A [(h0, .inr (0, [.ref h1, .int (nI n), .int g])), (h1, .inl (t 6, 12, .inr (.inr (.inr (.inr (f))))))] := hD.sub [0, 1] (by decide) rfl
  exact W.aret (v := va_rf (none)) hx hb hr (Or.inl ⟨_, rfl⟩) (Or.inl rfl) (fun tt ht hW => ⟨⟨none, (), rfl, rfl, by rw [ht]; exact hP9, hKK.moved hW.alike, hD9⟩, hS.F ht⟩) hS.2.2 dX0_stepAt_22
set_option maxHeartbeats 4000000 in
set_option maxRecDepth 100000 in
theorem c_Recipe_stepAt_at (l : Launch) (D : va_G) (t : Nat → ClassId) (sz : Nat) (h0 h1 : Nat) (n k q : Nat) (g : Int32) (f : Nat → Option Nat) (hk : k < n) (hn : n ≤ 12) (hf : f k = some q) : Met l yX0_stepAt wsX0_stepAt ({ frames := 0, cells := 0, slots := 0, locals := 0 } : Room) (va_Pc [.ref h0, .int (nI k)] (yS D t sz [(h0, .inr (0, [.ref h1, .int (nI n), .int g])), (h1, .inl (t 6, 12, .inr (.inr (.inr (.inr (f))))))])) (va_Qq (fun (x : Option Nat) (u : Unit) => x = some q) (fun (u : Unit) tt => yB D t (va_A [(h0, .inr (0, [.ref h1, .int (nI n), .int g])), (h1, .inl (t 6, 12, .inr (.inr (.inr (.inr (f))))))] sz) [(h0, .inr (0, [.ref h1, .int (nI n), .int g])), (h1, .inl (t 6, 12, .inr (.inr (.inr (.inr (f))))))] tt) (va_A [(h0, .inr (0, [.ref h1, .int (nI n), .int g])), (h1, .inl (t 6, 12, .inr (.inr (.inr (.inr (f))))))] sz)) 0 0 (va_A [(h0, .inr (0, [.ref h1, .int (nI n), .int g])), (h1, .inl (t 6, 12, .inr (.inr (.inr (.inr (f))))))] sz) := by
  refine y_ofW (wc := [(h0, .inr (0, [.ref h1, .int (nI n), .int g])), (h1, .inl (t 6, 12, .inr (.inr (.inr (.inr (f))))))]) (Qc := fun A => va_Qq (fun (x : Option Nat) (u : Unit) => x = some q) (fun (u : Unit) tt => yB D t A [(h0, .inr (0, [.ref h1, .int (nI n), .int g])), (h1, .inl (t 6, 12, .inr (.inr (.inr (.inr (f))))))] tt) A) (cc := cX0_stepAt) (maxL := 2) (ret := (some (.object "CleanRuns$Step"))) (by decide) rfl (Nat.le_of_ble_eq_true rfl) (fun p e s m below meth c A ls hx hb hr hts hlocks hml hown hnm hA hKK hP hD hS hl => ?_)
  have hK := hKK.1
  have hSF : CallFix p m c cX0_stepAt 2 s _ wsX0_stepAt RX0 := ⟨hx, hb, hml, hown, hts⟩
  have hl : lv_has ls 2 [(0, .ref h0), (1, .int (nI k))] := hl
  refine lv_iload_n hx hb dX0_stepAt_0 rfl (lv_at hl 1 rfl) ?_
  refine lv_if_lt (tgt := 21) hx hb dX0_stepAt_1 (by decide) (fun hc9 => absurd hc9 (nI_pos (by omega))) (fun _ => ?_)
  refine lv_iload_n hx hb dX0_stepAt_4 rfl (lv_at hl 1 rfl) ?_
  refine lv_aload_n hx hb dX0_stepAt_5 rfl (lv_at hl 0 rfl) ?_
  refine va_get (D := D) (ci := 0) (v := .int (nI n)) (C := RX0) (T := TX0) (N := 3) hx hb hts mc_X0_stepAt_0 hown hK hP 0 rfl rfl 1 (by decide) (hts _ mw_X0_stepAt_fieldLinkCleanRunsRecipe17CleanRunsRecipesizeI) (fun _ h9 => h9) rfl dX0_stepAt_6 ?_
  refine lv_icmp_ge (tgt := 21) hx hb dX0_stepAt_9 (by decide) (fun hc9 => absurd hc9 (nI_ge hk (by omega))) (fun _ => ?_)
  refine lv_iload_n hx hb dX0_stepAt_12 rfl (lv_at hl 1 rfl) ?_
  refine lv_aload_n hx hb dX0_stepAt_13 rfl (lv_at hl 0 rfl) ?_
  refine va_get (D := D) (ci := 0) (v := .ref h1) (C := RX0) (T := TX0) (N := 3) hx hb hts mc_X0_stepAt_0 hown hK hP 0 rfl rfl 0 (by decide) (hts _ mw_X0_stepAt_fieldLinkCleanRunsRecipe11CleanRunsRecipestepsLCleanRunsStep) (fun _ h9 => h9) rfl dX0_stepAt_14 ?_
  refine va_alen (v := 12) hx hb hK hP 1 6 rfl rfl rfl dX0_stepAt_17 ?_
  refine lv_icmp_lt (tgt := 23) hx hb dX0_stepAt_18 (by decide) (fun _ => ?_) (fun hc9 => absurd (nI_lt (a := k) (b := 12) (by omega) (by decide)) hc9)
  refine lv_aload_n hx hb dX0_stepAt_23 rfl (lv_at hl 0 rfl) ?_
  refine va_get (D := D) (ci := 0) (v := .ref h1) (C := RX0) (T := TX0) (N := 3) hx hb hts mc_X0_stepAt_0 hown hK hP 0 rfl rfl 0 (by decide) (hts _ mw_X0_stepAt_fieldLinkCleanRunsRecipe11CleanRunsRecipestepsLCleanRunsStep) (fun _ h9 => h9) rfl dX0_stepAt_24 ?_
  refine lv_iload_n hx hb dX0_stepAt_27 rfl (lv_at hl 1 rfl) ?_
  refine y_aald (j := k) (q := q) hx hb hK hP 1 6 rfl rfl (by omega) (by decide) (hf) dX0_stepAt_28 ?_
  have hP9 : va_P D vwCl [(h0, .inr (0, [.ref h1, .int (nI n), .int g])), (h1, .inl (t 6, 12, .inr (.inr (.inr (.inr (f))))))] _ := hP.sub [0, 1] rfl
  have hD9 : va_D A [(h0, .inr (0, [.ref h1, .int (nI n), .int g])), (h1, .inl (t 6, 12, .inr (.inr (.inr (.inr (f))))))] := hD.sub [0, 1] (by decide) rfl
  exact W.aret (v := va_rf (some q)) hx hb hr (Or.inl ⟨_, rfl⟩) (Or.inr ⟨_, rfl⟩) (fun tt ht hW => ⟨⟨some q, (), rfl, rfl, by rw [ht]; exact hP9, hKK.moved hW.alike, hD9⟩, hS.F ht⟩) hS.2.2 dX0_stepAt_29
