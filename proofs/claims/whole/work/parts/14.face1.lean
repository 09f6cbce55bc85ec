/-- a second's measures are taken -/
def okT (s d f : UInt64) : Prop := ¬ fB s FP.dconst0 4652007308841189376 = 0 ∧ ¬ fB f FP.dconst0 4652007308841189376 = 0 ∧ ¬ fB d 13855605728582041600 4641240890982006784 = 0
/-- an interface is taken -/
def okI (v : UInt64) (h : Int32) : Prop := ¬ fB v FP.dconst0 4636737291354636288 = 0 ∧ ¬ h < 1 ∧ h ≤ 600
/-- a step is taken -/
def okS (kd sc : Int32) (sg dg : UInt64) : Prop := ¬ kd < 0 ∧ ¬ 4 < kd ∧ ¬ sc < 1 ∧ sc ≤ 3600 ∧ ¬ fB sg FP.dconst0 4636737291354636288 = 0 ∧ ¬ fB dg FP.dconst0 4639481672377565184 = 0
set_option maxHeartbeats 4000000 in
set_option maxRecDepth 100000 in
theorem c_within (l : Launch) (x a b : UInt64) : Met l yX4_within wsX4_within ({ frames := 0, cells := 0, slots := 0, locals := 0 } : Room) (va_Pc [.double x, .double a, .double b] (fun _ => True)) (va_Qi (fun r (_ : Unit) => r = fB x a b) (fun _ _ => True) (fun _ => False)) 0 0 (fun _ => False) := by
  refine Met.ofW (cc := cX4_within) (maxL := 6) (ret := some .boolean) (by decide) rfl ?_
  intro p e s m args below meth c s₁ B hml hv
  obtain ⟨rfl, -⟩ := hv
  have hx := B.exec
  have hb := B.bytes
  have hr := B.returns
  have hlocks := B.notSynchronized
  have hS : va_S (fun _ => False) s.heap s.heap [] := va_S.rf
  have hl := lv_entry ([.double x, .double a, .double b]) (n := 6) (Nat.le_of_ble_eq_true rfl)
  rw [lg_entry_eq]
  generalize (lg_sl ([.double x, .double a, .double b]) ++ List.replicate (6 - (lg_sl ([.double x, .double a, .double b])).length) Slot.unset).toArray = ls at hl ⊢
  have hl : lv_has ls 6 [(0, .double x), (2, .double a), (4, .double b)] := hl
  refine lv_dload_n hx hb dX4_within_0 rfl (lv_at hl 0 rfl) ?_
  refine lv_dload_n hx hb dX4_within_1 rfl (lv_at hl 1 rfl) ?_
  refine lv_dcmp hx hb dX4_within_2 ?_
  refine lv_if_lt (tgt := 17) hx hb dX4_within_3 (by decide) (fun c1 => ?_) (fun c1 => ?_)
  · refine lv_iconst (v := 0) hx hb dX4_within_17 (by decide) ?_
    exact W.zret (v := 0) hx hb hr (by decide) (fun t ht hW => ⟨⟨0, (), rfl, by simp only [fB, c1, if_true], trivial⟩, hS.F ht⟩) hS.2.2 dX4_within_18
  · refine lv_dload_n hx hb dX4_within_6 rfl (lv_at hl 0 rfl) ?_
    refine lv_dload hx hb dX4_within_7 (lv_at hl 2 rfl) ?_
    refine lv_dcmp hx hb dX4_within_9 ?_
    refine lv_if_gt (tgt := 17) hx hb dX4_within_10 (by decide) (fun c2 => ?_) (fun c2 => ?_)
    · refine lv_iconst (v := 0) hx hb dX4_within_17 (by decide) ?_
      exact W.zret (v := 0) hx hb hr (by decide) (fun t ht hW => ⟨⟨0, (), rfl, by simp only [fB, c1, c2, if_true, if_false], trivial⟩, hS.F ht⟩) hS.2.2 dX4_within_18
    · refine lv_iconst (v := 1) hx hb dX4_within_13 (by decide) ?_
      refine lv_goto (tgt := 18) hx hb dX4_within_14 (by decide) ?_
      exact W.zret (v := 1) hx hb hr (by decide) (fun t ht hW => ⟨⟨1, (), rfl, by simp only [fB, c1, c2, if_false], trivial⟩, hS.F ht⟩) hS.2.2 dX4_within_18
theorem mc_X4_recipeAt_4 : ∀ w ∈ wsX40, w ∈ wsX4_recipeAt := fun w h => List.mem_cons_of_mem _ (List.mem_append_right _ (h))
theorem mw_X4_recipeAt_fieldLinkCleanRuns21CleanRunsrecipeCountI : Cond.fieldLink RX4 21 "CleanRuns" "recipeCount" "I" ∈ wsX4_recipeAt := List.mem_cons_of_mem _ (List.mem_append_left _ (List.mem_of_getElem? (i := 0) rfl))
theorem mw_X4_recipeAt_fieldLinkCleanRuns11CleanRunsrecipesLCleanRunsRecipe : Cond.fieldLink RX4 11 "CleanRuns" "recipes" "[LCleanRuns$Recipe;" ∈ wsX4_recipeAt := List.mem_cons_of_mem _ (List.mem_append_left _ (List.mem_of_getElem? (i := 1) rfl))
theorem mc_X4_runAt_4 : ∀ w ∈ wsX40, w ∈ wsX4_runAt := fun w h => List.mem_cons_of_mem _ (List.mem_append_right _ (h))
theorem mw_X4_runAt_fieldLinkCleanRuns25CleanRunsrunCountI : Cond.fieldLink RX4 25 "CleanRuns" "runCount" "I" ∈ wsX4_runAt := List.mem_cons_of_mem _ (List.mem_append_left _ (List.mem_of_getElem? (i := 0) rfl))
theorem mw_X4_runAt_fieldLinkCleanRuns17CleanRunsrunsLCleanRunsRun : Cond.fieldLink RX4 17 "CleanRuns" "runs" "[LCleanRuns$Run;" ∈ wsX4_runAt := List.mem_cons_of_mem _ (List.mem_append_left _ (List.mem_of_getElem? (i := 1) rfl))
theorem mw_X4_init_methodLinkCleanRuns1javalangObjectinitV : Cond.methodLink RX4 1 objectInit ∈ wsX4_init := List.mem_cons_of_mem _ (List.mem_append_left _ (List.mem_of_getElem? (i := 0) rfl))
theorem mw_X4_init_instanceMethodjavalangObjectinitV : Cond.instanceMethod objectInit ∈ wsX4_init := List.mem_cons_of_mem _ (List.mem_append_left _ (List.mem_of_getElem? (i := 1) rfl))
theorem mw_X4_init_codejavalangObjectinitVobjectmethod1code1none : Cond.code objectInit ⟨#[0xb1]⟩ 1 none ∈ wsX4_init := List.mem_cons_of_mem _ (List.mem_append_left _ (List.mem_of_getElem? (i := 2) rfl))
theorem mw_X4_init_classLinkCleanRuns9CleanRunsRecipe : Cond.classLink RX4 9 RX0 ∈ wsX4_init := List.mem_cons_of_mem _ (List.mem_append_left _ (List.mem_of_getElem? (i := 3) rfl))
theorem mc_X4_init_4 : ∀ w ∈ wsX40, w ∈ wsX4_init := fun w h => List.mem_cons_of_mem _ (List.mem_append_right _ (h))
theorem mw_X4_init_fieldLinkCleanRuns11CleanRunsrecipesLCleanRunsRecipe : Cond.fieldLink RX4 11 "CleanRuns" "recipes" "[LCleanRuns$Recipe;" ∈ wsX4_init := List.mem_cons_of_mem _ (List.mem_append_left _ (List.mem_of_getElem? (i := 4) rfl))
theorem mw_X4_init_classLinkCleanRuns15CleanRunsRun : Cond.classLink RX4 15 RX1 ∈ wsX4_init := List.mem_cons_of_mem _ (List.mem_append_left _ (List.mem_of_getElem? (i := 5) rfl))
theorem mw_X4_init_fieldLinkCleanRuns17CleanRunsrunsLCleanRunsRun : Cond.fieldLink RX4 17 "CleanRuns" "runs" "[LCleanRuns$Run;" ∈ wsX4_init := List.mem_cons_of_mem _ (List.mem_append_left _ (List.mem_of_getElem? (i := 6) rfl))
theorem mw_X4_init_fieldLinkCleanRuns21CleanRunsrecipeCountI : Cond.fieldLink RX4 21 "CleanRuns" "recipeCount" "I" ∈ wsX4_init := List.mem_cons_of_mem _ (List.mem_append_left _ (List.mem_of_getElem? (i := 7) rfl))
theorem mw_X4_init_fieldLinkCleanRuns25CleanRunsrunCountI : Cond.fieldLink RX4 25 "CleanRuns" "runCount" "I" ∈ wsX4_init := List.mem_cons_of_mem _ (List.mem_append_left _ (List.mem_of_getElem? (i := 8) rfl))
theorem mc_X4_recipe_4 : ∀ w ∈ wsX40, w ∈ wsX4_recipe := fun w h => List.mem_cons_of_mem _ (List.mem_append_left _ (List.mem_append_right _ (h)))
theorem mw_X4_recipe_fieldLinkCleanRuns21CleanRunsrecipeCountI : Cond.fieldLink RX4 21 "CleanRuns" "recipeCount" "I" ∈ wsX4_recipe := List.mem_cons_of_mem _ (List.mem_append_left _ (List.mem_append_left _ (List.mem_of_getElem? (i := 0) rfl)))
theorem mw_X4_recipe_fieldLinkCleanRuns11CleanRunsrecipesLCleanRunsRecipe : Cond.fieldLink RX4 11 "CleanRuns" "recipes" "[LCleanRuns$Recipe;" ∈ wsX4_recipe := List.mem_cons_of_mem _ (List.mem_append_left _ (List.mem_append_left _ (List.mem_of_getElem? (i := 1) rfl)))
theorem mc_X4_recipe_0 : ∀ w ∈ wsX00, w ∈ wsX4_recipe := fun w h => List.mem_cons_of_mem _ (List.mem_append_right _ (h))
theorem mw_X4_recipe_classLinkCleanRuns9CleanRunsRecipe : Cond.classLink RX4 9 RX0 ∈ wsX4_recipe := List.mem_cons_of_mem _ (List.mem_append_left _ (List.mem_append_left _ (List.mem_of_getElem? (i := 2) rfl)))
theorem mw_X4_recipe_instantiableCleanRunsRecipe3 : Cond.instantiable RX0 3 ∈ wsX4_recipe := List.mem_cons_of_mem _ (List.mem_append_left _ (List.mem_append_left _ (List.mem_of_getElem? (i := 3) rfl)))
theorem mw_X4_recipe_initializedCleanRunsRecipe : Cond.initialized RX0 ∈ wsX4_recipe := List.mem_cons_of_mem _ (List.mem_append_left _ (List.mem_append_left _ (List.mem_of_getElem? (i := 4) rfl)))
theorem mw_X4_recipe_methodLinkCleanRuns28CleanRunsRecipeinitV : Cond.methodLink RX4 28 yX0_init ∈ wsX4_recipe := List.mem_cons_of_mem _ (List.mem_append_left _ (List.mem_append_left _ (List.mem_of_getElem? (i := 5) rfl)))
theorem mw_X4_recipe_instanceMethodCleanRunsRecipeinitV : Cond.instanceMethod yX0_init ∈ wsX4_recipe := List.mem_cons_of_mem _ (List.mem_append_left _ (List.mem_append_left _ (List.mem_of_getElem? (i := 6) rfl)))
theorem mw_X4_step_constantDoubleCleanRuns374636737291354636288 : Cond.constantDouble RX4 37 (4636737291354636288) ∈ wsX4_step := List.mem_cons_of_mem _ (List.mem_append_left _ (List.mem_append_left _ (List.mem_append_left _ (List.mem_append_left _ (List.mem_of_getElem? (i := 0) rfl)))))
theorem mw_X4_step_constantDoubleCleanRuns434639481672377565184 : Cond.constantDouble RX4 43 (4639481672377565184) ∈ wsX4_step := List.mem_cons_of_mem _ (List.mem_append_left _ (List.mem_append_left _ (List.mem_append_left _ (List.mem_append_left _ (List.mem_of_getElem? (i := 1) rfl)))))
theorem mc_X4_step_3 : ∀ w ∈ wsX30, w ∈ wsX4_step := fun w h => List.mem_cons_of_mem _ (List.mem_append_left _ (List.mem_append_left _ (List.mem_append_right _ (h))))
theorem mw_X4_step_classLinkCleanRuns45CleanRunsStep : Cond.classLink RX4 45 RX3 ∈ wsX4_step := List.mem_cons_of_mem _ (List.mem_append_left _ (List.mem_append_left _ (List.mem_append_left _ (List.mem_append_left _ (List.mem_of_getElem? (i := 2) rfl)))))
theorem mw_X4_step_instantiableCleanRunsStep4 : Cond.instantiable RX3 4 ∈ wsX4_step := List.mem_cons_of_mem _ (List.mem_append_left _ (List.mem_append_left _ (List.mem_append_left _ (List.mem_append_left _ (List.mem_of_getElem? (i := 3) rfl)))))
theorem mw_X4_step_initializedCleanRunsStep : Cond.initialized RX3 ∈ wsX4_step := List.mem_cons_of_mem _ (List.mem_append_left _ (List.mem_append_left _ (List.mem_append_left _ (List.mem_append_left _ (List.mem_of_getElem? (i := 4) rfl)))))
theorem mw_X4_step_methodLinkCleanRuns47CleanRunsStepinitIIDDV : Cond.methodLink RX4 47 yX3_init ∈ wsX4_step := List.mem_cons_of_mem _ (List.mem_append_left _ (List.mem_append_left _ (List.mem_append_left _ (List.mem_append_left _ (List.mem_of_getElem? (i := 23) rfl)))))
theorem mw_X4_step_instanceMethodCleanRunsStepinitIIDDV : Cond.instanceMethod yX3_init ∈ wsX4_step := List.mem_cons_of_mem _ (List.mem_append_left _ (List.mem_append_left _ (List.mem_append_left _ (List.mem_append_right _ (List.mem_of_getElem? (i := 0) rfl)))))
theorem mc_X4_start_4 : ∀ w ∈ wsX40, w ∈ wsX4_start := fun w h => List.mem_cons_of_mem _ (List.mem_append_left _ (List.mem_append_left _ (List.mem_append_left _ (List.mem_append_right _ (h)))))
theorem mw_X4_start_fieldLinkCleanRuns25CleanRunsrunCountI : Cond.fieldLink RX4 25 "CleanRuns" "runCount" "I" ∈ wsX4_start := List.mem_cons_of_mem _ (List.mem_append_left _ (List.mem_append_left _ (List.mem_append_left _ (List.mem_append_left _ (List.mem_append_left _ (List.mem_of_getElem? (i := 0) rfl))))))
theorem mw_X4_start_fieldLinkCleanRuns17CleanRunsrunsLCleanRunsRun : Cond.fieldLink RX4 17 "CleanRuns" "runs" "[LCleanRuns$Run;" ∈ wsX4_start := List.mem_cons_of_mem _ (List.mem_append_left _ (List.mem_append_left _ (List.mem_append_left _ (List.mem_append_left _ (List.mem_append_left _ (List.mem_of_getElem? (i := 1) rfl))))))
theorem mc_X4_start_1 : ∀ w ∈ wsX10, w ∈ wsX4_start := fun w h => List.mem_cons_of_mem _ (List.mem_append_left _ (List.mem_append_left _ (List.mem_append_right _ (h))))
theorem mw_X4_start_classLinkCleanRuns15CleanRunsRun : Cond.classLink RX4 15 RX1 ∈ wsX4_start := List.mem_cons_of_mem _ (List.mem_append_left _ (List.mem_append_left _ (List.mem_append_left _ (List.mem_append_left _ (List.mem_append_left _ (List.mem_of_getElem? (i := 2) rfl))))))
theorem mw_X4_start_instantiableCleanRunsRun14 : Cond.instantiable RX1 14 ∈ wsX4_start := List.mem_cons_of_mem _ (List.mem_append_left _ (List.mem_append_left _ (List.mem_append_left _ (List.mem_append_left _ (List.mem_append_left _ (List.mem_of_getElem? (i := 3) rfl))))))
theorem mw_X4_start_initializedCleanRunsRun : Cond.initialized RX1 ∈ wsX4_start := List.mem_cons_of_mem _ (List.mem_append_left _ (List.mem_append_left _ (List.mem_append_left _ (List.mem_append_left _ (List.mem_append_left _ (List.mem_of_getElem? (i := 4) rfl))))))
theorem mw_X4_start_methodLinkCleanRuns58CleanRunsRuninitLCleanRunsRecipeLCleanR : Cond.methodLink RX4 58 yX1_init ∈ wsX4_start := List.mem_cons_of_mem _ (List.mem_append_left _ (List.mem_append_left _ (List.mem_append_left _ (List.mem_append_left _ (List.mem_append_left _ (List.mem_of_getElem? (i := 20) rfl))))))
theorem mw_X4_start_instanceMethodCleanRunsRuninitLCleanRunsRecipeLCleanRunsStep : Cond.instanceMethod yX1_init ∈ wsX4_start := List.mem_cons_of_mem _ (List.mem_append_left _ (List.mem_append_left _ (List.mem_append_left _ (List.mem_append_left _ (List.mem_append_left _ (List.mem_of_getElem? (i := 21) rfl))))))
theorem mc_X4_start_0 : ∀ w ∈ wsX00, w ∈ wsX4_start := fun w h => List.mem_cons_of_mem _ (List.mem_append_left _ (List.mem_append_right _ (h)))
theorem mw_X4_start_fieldLinkCleanRuns61CleanRunsRecipebegunZ : Cond.fieldLink RX4 61 "CleanRuns$Recipe" "begun" "Z" ∈ wsX4_start := List.mem_cons_of_mem _ (List.mem_append_left _ (List.mem_append_left _ (List.mem_append_left _ (List.mem_append_left _ (List.mem_append_left _ (List.mem_of_getElem? (i := 5) rfl))))))
set_option maxHeartbeats 4000000 in
set_option maxRecDepth 100000 in
theorem c_CR_recipeAt_no (l : Launch) (D : va_G) (t : Nat → ClassId) (sz : Nat) (h0 xr xn nr nn : Nat) (k : Int32) (hk : k < 0 ∨ nI nr ≤ k) : Met l yX4_recipeAt wsX4_recipeAt ({ frames := 0, cells := 0, slots := 0, locals := 0 } : Room) (va_Pc [.ref h0, .int k] (yS D t sz [(h0, .inr (4, [.ref xr, .ref xn, .int (nI nr), .int (nI nn)]))])) (va_Qq (fun (x : Option Nat) (u : Unit) => x = none) (fun (u : Unit) tt => yB D t (va_A [(h0, .inr (4, [.ref xr, .ref xn, .int (nI nr), .int (nI nn)]))] sz) [(h0, .inr (4, [.ref xr, .ref xn, .int (nI nr), .int (nI nn)]))] tt) (va_A [(h0, .inr (4, [.ref xr, .ref xn, .int (nI nr), .int (nI nn)]))] sz)) 0 0 (va_A [(h0, .inr (4, [.ref xr, .ref xn, .int (nI nr), .int (nI nn)]))] sz) := by
  refine y_ofW (wc := [(h0, .inr (4, [.ref xr, .ref xn, .int (nI nr), .int (nI nn)]))]) (Qc := fun A => va_Qq (fun (x : Option Nat) (u : Unit) => x = none) (fun (u : Unit) tt => yB D t A [(h0, .inr (4, [.ref xr, .ref xn, .int (nI nr), .int (nI nn)]))] tt) A) (cc := cX4_recipeAt) (maxL := 2) (ret := (some (.object "CleanRuns$Recipe"))) (by decide) rfl (Nat.le_of_ble_eq_true rfl) (fun p e s m below meth c A ls hx hb hr hts hlocks hml hown hnm hA hKK hP hD hS hl => ?_)
  have hK := hKK.1
  have hSF : CallFix p m c cX4_recipeAt 2 s _ wsX4_recipeAt RX4 := ⟨hx, hb, hml, hown, hts⟩
  have hl : lv_has ls 2 [(0, .ref h0), (1, .int k)] := hl
  refine lv_iload_n hx hb dX4_recipeAt_0 rfl (lv_at hl 1 rfl) ?_
  refine lv_if_lt (tgt := 21) hx hb dX4_recipeAt_1 (by decide) (fun c_1_0 => ?_) (fun c_1_0 => ?_)
  · refine lv_null hx hb dX4_recipeAt_21 ?_
    have hP9 : va_P D vwCl [(h0, .inr (4, [.ref xr, .ref xn, .int (nI nr), .int (nI nn)]))] _ := hP.sub [0] rfl
    have hD9 : va_D A [(h0, .inr (4, [.ref xr, .ref xn, .int (nI nr), .int (nI nn)]))] := hD.sub [0] (by decide) rfl
    exact W.aret (v := va_rf (none)) hx hb hr (Or.inl ⟨_, rfl⟩) (Or.inl rfl) (fun tt ht hW => ⟨⟨none, (), rfl, rfl, by rw [ht]; exact hP9, hKK.moved hW.alike, hD9⟩, hS.F ht⟩) hS.2.2 dX4_recipeAt_22
  · refine lv_iload_n hx hb dX4_recipeAt_4 rfl (lv_at hl 1 rfl) ?_
    refine lv_aload_n hx hb dX4_recipeAt_5 rfl (lv_at hl 0 rfl) ?_
    refine va_get (D := D) (ci := 4) (v := .int (nI nr)) (C := RX4) (T := TX4) (N := 4) hx hb hts mc_X4_recipeAt_4 hown hK hP 0 rfl rfl 2 (by decide) (hts _ mw_X4_recipeAt_fieldLinkCleanRuns21CleanRunsrecipeCountI) (fun _ h9 => h9) rfl dX4_recipeAt_6 ?_
    refine lv_icmp_ge (tgt := 21) hx hb dX4_recipeAt_9 (by decide) (fun _ => ?_) (fun hc9 => absurd (hk.resolve_left c_1_0) hc9)
    refine lv_null hx hb dX4_recipeAt_21 ?_
    have hP9 : va_P D vwCl [(h0, .inr (4, [.ref xr, .ref xn, .int (nI nr), .int (nI nn)]))] _ := hP.sub [0] rfl
    have hD9 : va_D A [(h0, .inr (4, [.ref xr, .ref xn, .int (nI nr), .int (nI nn)]))] := hD.sub [0] (by decide) rfl
    exact W.aret (v := va_rf (none)) hx hb hr (Or.inl ⟨_, rfl⟩) (Or.inl rfl) (fun tt ht hW => ⟨⟨none, (), rfl, rfl, by rw [ht]; exact hP9, hKK.moved hW.alike, hD9⟩, hS.F ht⟩) hS.2.2 dX4_recipeAt_22
set_option maxHeartbeats 4000000 in
set_option maxRecDepth 100000 in
theorem c_CR_recipeAt_at (l : Launch) (D : va_G) (t : Nat → ClassId) (sz : Nat) (h0 xr xn nr nn : Nat) (j q : Nat) (g : Nat → Option Nat) (hj : j < nr) (hn : nr ≤ 10) (hf : g j = some q) : Met l yX4_recipeAt wsX4_recipeAt ({ frames := 0, cells := 0, slots := 0, locals := 0 } : Room) (va_Pc [.ref h0, .int (nI j)] (yS D t sz [(h0, .inr (4, [.ref xr, .ref xn, .int (nI nr), .int (nI nn)])), (xr, .inl (t 3, 10, .inr (.inr (.inr (.inr (g))))))])) (va_Qq (fun (x : Option Nat) (u : Unit) => x = some q) (fun (u : Unit) tt => yB D t (va_A [(h0, .inr (4, [.ref xr, .ref xn, .int (nI nr), .int (nI nn)])), (xr, .inl (t 3, 10, .inr (.inr (.inr (.inr (g))))))] sz) [(h0, .inr (4, [.ref xr, .ref xn, .int (nI nr), .int (nI nn)])), (xr, .inl (t 3, 10, .inr (.inr (.inr (.inr (g))))))] tt) (va_A [(h0, .inr (4, [.ref xr, .ref xn, .int (nI nr), .int (nI nn)])), (xr, .inl (t 3, 10, .inr (.inr (.inr (.inr (g))))))] sz)) 0 0 (va_A [(h0, .inr (4, [.ref xr, .ref xn, .int (nI nr), .int (nI nn)])), (xr, .inl (t 3, 10, .inr (.inr (.inr (.inr (g))))))] sz) := by
  refine y_ofW (wc := [(h0, .inr (4, [.ref xr, .ref xn, .int (nI nr), .int (nI nn)])), (xr, .inl (t 3, 10, .inr (.inr (.inr (.inr (g))))))]) (Qc := fun A => va_Qq (fun (x : Option Nat) (u : Unit) => x = some q) (fun (u : Unit) tt => yB D t A [(h0, .inr (4, [.ref xr, .ref xn, .int (nI nr), .int (nI nn)])), (xr, .inl (t 3, 10, .inr (.inr (.inr (.inr (g))))))] tt) A) (cc := cX4_recipeAt) (maxL := 2) (ret := (some (.object "CleanRuns$Recipe"))) (by decide) rfl (Nat.le_of_ble_eq_true rfl) (fun p e s m below meth c A ls hx hb hr hts hlocks hml hown hnm hA hKK hP hD hS hl => ?_)
  have hK := hKK.1
  have hSF : CallFix p m c cX4_recipeAt 2 s _ wsX4_recipeAt RX4 := ⟨hx, hb, hml, hown, hts⟩
  have hl : lv_has ls 2 [(0, .ref h0), (1, .int (nI j))] := hl
  refine lv_iload_n hx hb dX4_recipeAt_0 rfl (lv_at hl 1 rfl) ?_
  refine lv_if_lt (tgt := 21) hx hb dX4_recipeAt_1 (by decide) (fun hc9 => absurd hc9 (nI_pos (by omega))) (fun _ => ?_)
  refine lv_iload_n hx hb dX4_recipeAt_4 rfl (lv_at hl 1 rfl) ?_
  refine lv_aload_n hx hb dX4_recipeAt_5 rfl (lv_at hl 0 rfl) ?_
  refine va_get (D := D) (ci := 4) (v := .int (nI nr)) (C := RX4) (T := TX4) (N := 4) hx hb hts mc_X4_recipeAt_4 hown hK hP 0 rfl rfl 2 (by decide) (hts _ mw_X4_recipeAt_fieldLinkCleanRuns21CleanRunsrecipeCountI) (fun _ h9 => h9) rfl dX4_recipeAt_6 ?_
  refine lv_icmp_ge (tgt := 21) hx hb dX4_recipeAt_9 (by decide) (fun hc9 => absurd hc9 (nI_ge hj (by omega))) (fun _ => ?_)
  refine lv_iload_n hx hb dX4_recipeAt_12 rfl (lv_at hl 1 rfl) ?_
  refine lv_aload_n hx hb dX4_recipeAt_13 rfl (lv_at hl 0 rfl) ?_
  refine va_get (D := D) (ci := 4) (v := .ref xr) (C := RX4) (T := TX4) (N := 4) hx hb hts mc_X4_recipeAt_4 hown hK hP 0 rfl rfl 0 (by decide) (hts _ mw_X4_recipeAt_fieldLinkCleanRuns11CleanRunsrecipesLCleanRunsRecipe) (fun _ h9 => h9) rfl dX4_recipeAt_14 ?_
  refine va_alen (v := 10) hx hb hK hP 1 3 rfl rfl rfl dX4_recipeAt_17 ?_
  refine lv_icmp_lt (tgt := 23) hx hb dX4_recipeAt_18 (by decide) (fun _ => ?_) (fun hc9 => absurd (nI_lt (a := j) (b := 10) (by omega) (by decide)) hc9)
  refine lv_aload_n hx hb dX4_recipeAt_23 rfl (lv_at hl 0 rfl) ?_
  refine va_get (D := D) (ci := 4) (v := .ref xr) (C := RX4) (T := TX4) (N := 4) hx hb hts mc_X4_recipeAt_4 hown hK hP 0 rfl rfl 0 (by decide) (hts _ mw_X4_recipeAt_fieldLinkCleanRuns11CleanRunsrecipesLCleanRunsRecipe) (fun _ h9 => h9) rfl dX4_recipeAt_24 ?_
  refine lv_iload_n hx hb dX4_recipeAt_27 rfl (lv_at hl 1 rfl) ?_
  refine y_aald (j := j) (q := q) hx hb hK hP 1 3 rfl rfl (by omega) (by decide) (hf) dX4_recipeAt_28 ?_
  have hP9 : va_P D vwCl [(h0, .inr (4, [.ref xr, .ref xn, .int (nI nr), .int (nI nn)])), (xr, .inl (t 3, 10, .inr (.inr (.inr (.inr (g))))))] _ := hP.sub [0, 1] rfl
  have hD9 : va_D A [(h0, .inr (4, [.ref xr, .ref xn, .int (nI nr), .int (nI nn)])), (xr, .inl (t 3, 10, .inr (.inr (.inr (.inr (g))))))] := hD.sub [0, 1] (by decide) rfl
  exact W.aret (v := va_rf (some q)) hx hb hr (Or.inl ⟨_, rfl⟩) (Or.inr ⟨_, rfl⟩) (fun tt ht hW => ⟨⟨some q, (), rfl, rfl, by rw [ht]; exact hP9, hKK.moved hW.alike, hD9⟩, hS.F ht⟩) hS.2.2 dX4_recipeAt_29
set_option maxHeartbeats 4000000 in
set_option maxRecDepth 100000 in
theorem c_CR_runAt_no (l : Launch) (D : va_G) (t : Nat → ClassId) (sz : Nat) (h0 xr xn nr nn : Nat) (k : Int32) (hk : k < 0 ∨ nI nn ≤ k) : Met l yX4_runAt wsX4_runAt ({ frames := 0, cells := 0, slots := 0, locals := 0 } : Room) (va_Pc [.ref h0, .int k] (yS D t sz [(h0, .inr (4, [.ref xr, .ref xn, .int (nI nr), .int (nI nn)]))])) (va_Qq (fun (x : Option Nat) (u : Unit) => x = none) (fun (u : Unit) tt => yB D t (va_A [(h0, .inr (4, [.ref xr, .ref xn, .int (nI nr), .int (nI nn)]))] sz) [(h0, .inr (4, [.ref xr, .ref xn, .int (nI nr), .int (nI nn)]))] tt) (va_A [(h0, .inr (4, [.ref xr, .ref xn, .int (nI nr), .int (nI nn)]))] sz)) 0 0 (va_A [(h0, .inr (4, [.ref xr, .ref xn, .int (nI nr), .int (nI nn)]))] sz) := by
  refine y_ofW (wc := [(h0, .inr (4, [.ref xr, .ref xn, .int (nI nr), .int (nI nn)]))]) (Qc := fun A => va_Qq (fun (x : Option Nat) (u : Unit) => x = none) (fun (u : Unit) tt => yB D t A [(h0, .inr (4, [.ref xr, .ref xn, .int (nI nr), .int (nI nn)]))] tt) A) (cc := cX4_runAt) (maxL := 2) (ret := (some (.object "CleanRuns$Run"))) (by decide) rfl (Nat.le_of_ble_eq_true rfl) (fun p e s m below meth c A ls hx hb hr hts hlocks hml hown hnm hA hKK hP hD hS hl => ?_)
  have hK := hKK.1
  have hSF : CallFix p m c cX4_runAt 2 s _ wsX4_runAt RX4 := ⟨hx, hb, hml, hown, hts⟩
  have hl : lv_has ls 2 [(0, .ref h0), (1, .int k)] := hl
  refine lv_iload_n hx hb dX4_runAt_0 rfl (lv_at hl 1 rfl) ?_
  refine lv_if_lt (tgt := 21) hx hb dX4_runAt_1 (by decide) (fun c_1_0 => ?_) (fun c_1_0 => ?_)
  · refine lv_null hx hb dX4_runAt_21 ?_
    have hP9 : va_P D vwCl [(h0, .inr (4, [.ref xr, .ref xn, .int (nI nr), .int (nI nn)]))] _ := hP.sub [0] rfl
    have hD9 : va_D A [(h0, .inr (4, [.ref xr, .ref xn, .int (nI nr), .int (nI nn)]))] := hD.sub [0] (by decide) rfl
    exact W.aret (v := va_rf (none)) hx hb hr (Or.inl ⟨_, rfl⟩) (Or.inl rfl) (fun tt ht hW => ⟨⟨none, (), rfl, rfl, by rw [ht]; exact hP9, hKK.moved hW.alike, hD9⟩, hS.F ht⟩) hS.2.2 dX4_runAt_22
  · refine lv_iload_n hx hb dX4_runAt_4 rfl (lv_at hl 1 rfl) ?_
    refine lv_aload_n hx hb dX4_runAt_5 rfl (lv_at hl 0 rfl) ?_
    refine va_get (D := D) (ci := 4) (v := .int (nI nn)) (C := RX4) (T := TX4) (N := 4) hx hb hts mc_X4_runAt_4 hown hK hP 0 rfl rfl 3 (by decide) (hts _ mw_X4_runAt_fieldLinkCleanRuns25CleanRunsrunCountI) (fun _ h9 => h9) rfl dX4_runAt_6 ?_
    refine lv_icmp_ge (tgt := 21) hx hb dX4_runAt_9 (by decide) (fun _ => ?_) (fun hc9 => absurd (hk.resolve_left c_1_0) hc9)
    refine lv_null hx hb dX4_runAt_21 ?_
    have hP9 : va_P D vwCl [(h0, .inr (4, [.ref xr, .ref xn, .int (nI nr), .int (nI nn)]))] _ := hP.sub [0] rfl
    have hD9 : va_D A [(h0, .inr (4, [.ref xr, .ref xn, .int (nI nr), .int (nI nn)]))] := hD.sub [0] (by decide) rfl
    exact W.aret (v := va_rf (none)) hx hb hr (Or.inl ⟨_, rfl⟩) (Or.inl rfl) (fun tt ht hW => ⟨⟨none, (), rfl, rfl, by rw [ht]; exact hP9, hKK.moved hW.alike, hD9⟩, hS.F ht⟩) hS.2.2 dX4_runAt_22
set_option maxHeartbeats 4000000 in
set_option maxRecDepth 100000 in
theorem c_CR_runAt_at (l : Launch) (D : va_G) (t : Nat → ClassId) (sz : Nat) (h0 xr xn nr nn : Nat) (j q : Nat) (g2 : Nat → Option Nat) (hj : j < nn) (hn : nn ≤ 30) (hf : g2 j = some q) : Met l yX4_runAt wsX4_runAt ({ frames := 0, cells := 0, slots := 0, locals := 0 } : Room) (va_Pc [.ref h0, .int (nI j)] (yS D t sz [(h0, .inr (4, [.ref xr, .ref xn, .int (nI nr), .int (nI nn)])), (xn, .inl (t 4, 30, .inr (.inr (.inr (.inr (g2))))))])) (va_Qq (fun (x : Option Nat) (u : Unit) => x = some q) (fun (u : Unit) tt => yB D t (va_A [(h0, .inr (4, [.ref xr, .ref xn, .int (nI nr), .int (nI nn)])), (xn, .inl (t 4, 30, .inr (.inr (.inr (.inr (g2))))))] sz) [(h0, .inr (4, [.ref xr, .ref xn, .int (nI nr), .int (nI nn)])), (xn, .inl (t 4, 30, .inr (.inr (.inr (.inr (g2))))))] tt) (va_A [(h0, .inr (4, [.ref xr, .ref xn, .int (nI nr), .int (nI nn)])), (xn, .inl (t 4, 30, .inr (.inr (.inr (.inr (g2))))))] sz)) 0 0 (va_A [(h0, .inr (4, [.ref xr, .ref xn, .int (nI nr), .int (nI nn)])), (xn, .inl (t 4, 30, .inr (.inr (.inr (.inr (g2))))))] sz) := by
  refine y_ofW (wc := [(h0, .inr (4, [.ref xr, .ref xn, .int (nI nr), .int (nI nn)])), (xn, .inl (t 4, 30, .inr (.inr (.inr (.inr (g2))))))]) (Qc := fun A => va_Qq (fun (x : Option Nat) (u : Unit) => x = some q) (fun (u : Unit) tt => yB D t A [(h0, .inr (4, [.ref xr, .ref xn, .int (nI nr), .int (nI nn)])), (xn, .inl (t 4, 30, .inr (.inr (.inr (.inr (g2))))))] tt) A) (cc := cX4_runAt) (maxL := 2) (ret := (some (.object "CleanRuns$Run"))) (by decide) rfl (Nat.le_of_ble_eq_true rfl) (fun p e s m below meth c A ls hx hb hr hts hlocks hml hown hnm hA hKK hP hD hS hl => ?_)
  have hK := hKK.1
  have hSF : CallFix p m c cX4_runAt 2 s _ wsX4_runAt RX4 := ⟨hx, hb, hml, hown, hts⟩
  have hl : lv_has ls 2 [(0, .ref h0), (1, .int (nI j))] := hl
  refine lv_iload_n hx hb dX4_runAt_0 rfl (lv_at hl 1 rfl) ?_
  refine lv_if_lt (tgt := 21) hx hb dX4_runAt_1 (by decide) (fun hc9 => absurd hc9 (nI_pos (by omega))) (fun _ => ?_)
  refine lv_iload_n hx hb dX4_runAt_4 rfl (lv_at hl 1 rfl) ?_
  refine lv_aload_n hx hb dX4_runAt_5 rfl (lv_at hl 0 rfl) ?_
  refine va_get (D := D) (ci := 4) (v := .int (nI nn)) (C := RX4) (T := TX4) (N := 4) hx hb hts mc_X4_runAt_4 hown hK hP 0 rfl rfl 3 (by decide) (hts _ mw_X4_runAt_fieldLinkCleanRuns25CleanRunsrunCountI) (fun _ h9 => h9) rfl dX4_runAt_6 ?_
  refine lv_icmp_ge (tgt := 21) hx hb dX4_runAt_9 (by decide) (fun hc9 => absurd hc9 (nI_ge hj (by omega))) (fun _ => ?_)
  refine lv_iload_n hx hb dX4_runAt_12 rfl (lv_at hl 1 rfl) ?_
  refine lv_aload_n hx hb dX4_runAt_13 rfl (lv_at hl 0 rfl) ?_
  refine va_get (D := D) (ci := 4) (v := .ref xn) (C := RX4) (T := TX4) (N := 4) hx hb hts mc_X4_runAt_4 hown hK hP 0 rfl rfl 1 (by decide) (hts _ mw_X4_runAt_fieldLinkCleanRuns17CleanRunsrunsLCleanRunsRun) (fun _ h9 => h9) rfl dX4_runAt_14 ?_
  refine va_alen (v := 30) hx hb hK hP 1 4 rfl rfl rfl dX4_runAt_17 ?_
  refine lv_icmp_lt (tgt := 23) hx hb dX4_runAt_18 (by decide) (fun _ => ?_) (fun hc9 => absurd (nI_lt (a := j) (b := 30) (by omega) (by decide)) hc9)
  refine lv_aload_n hx hb dX4_runAt_23 rfl (lv_at hl 0 rfl) ?_
  refine va_get (D := D) (ci := 4) (v := .ref xn) (C := RX4) (T := TX4) (N := 4) hx hb hts mc_X4_runAt_4 hown hK hP 0 rfl rfl 1 (by decide) (hts _ mw_X4_runAt_fieldLinkCleanRuns17CleanRunsrunsLCleanRunsRun) (fun _ h9 => h9) rfl dX4_runAt_24 ?_
  refine lv_iload_n hx hb dX4_runAt_27 rfl (lv_at hl 1 rfl) ?_
  refine y_aald (j := j) (q := q) hx hb hK hP 1 4 rfl rfl (by omega) (by decide) (hf) dX4_runAt_28 ?_
  have hP9 : va_P D vwCl [(h0, .inr (4, [.ref xr, .ref xn, .int (nI nr), .int (nI nn)])), (xn, .inl (t 4, 30, .inr (.inr (.inr (.inr (g2))))))] _ := hP.sub [0, 1] rfl
  have hD9 : va_D A [(h0, .inr (4, [.ref xr, .ref xn, .int (nI nr), .int (nI nn)])), (xn, .inl (t 4, 30, .inr (.inr (.inr (.inr (g2))))))] := hD.sub [0, 1] (by decide) rfl
  exact W.aret (v := va_rf (some q)) hx hb hr (Or.inl ⟨_, rfl⟩) (Or.inr ⟨_, rfl⟩) (fun tt ht hW => ⟨⟨some q, (), rfl, rfl, by rw [ht]; exact hP9, hKK.moved hW.alike, hD9⟩, hS.F ht⟩) hS.2.2 dX4_runAt_29
set_option maxHeartbeats 4000000 in
set_option maxRecDepth 100000 in
theorem c_CR_init (l : Launch) (D : va_G) (t : Nat → ClassId) (sz : Nat) (h0 : Nat)  : Met l yX4_init wsX4_init ({ frames := 1, cells := 2, slots := 40, locals := 12 } : Room) (va_Pc [.ref h0] (yS D t sz [(h0, .inr (4, [.null, .null, .int 0, .int 0]))])) (va_Qv (fun (u : Nat × Nat) => True) (fun (u : Nat × Nat) tt => yB D t (va_A [(h0, .inr (4, [.null, .null, .int 0, .int 0]))] sz) [(h0, .inr (4, [.ref u.1, .ref u.2, .int 0, .int 0])), (u.1, .inl (t 3, 10, .inr (.inr (.inr (.inr (fun _ => none)))))), (u.2, .inl (t 4, 30, .inr (.inr (.inr (.inr (fun _ => none))))))] tt) (va_A [(h0, .inr (4, [.null, .null, .int 0, .int 0]))] sz)) 2 40 (va_A [(h0, .inr (4, [.null, .null, .int 0, .int 0]))] sz) := by
  refine y_ofW (wc := [(h0, .inr (4, [.null, .null, .int 0, .int 0]))]) (Qc := fun A => va_Qv (fun (u : Nat × Nat) => True) (fun (u : Nat × Nat) tt => yB D t A [(h0, .inr (4, [.ref u.1, .ref u.2, .int 0, .int 0])), (u.1, .inl (t 3, 10, .inr (.inr (.inr (.inr (fun _ => none)))))), (u.2, .inl (t 4, 30, .inr (.inr (.inr (.inr (fun _ => none))))))] tt) A) (cc := cX4_init) (maxL := 1) (ret := none) (by decide) rfl (Nat.le_of_ble_eq_true rfl) (fun p e s m below meth c A ls hx hb hr hts hlocks hml hown hnm hA hKK hP hD hS hl => ?_)
  have hK := hKK.1
  have hSF : CallFix p m c cX4_init 1 s _ wsX4_init RX4 := ⟨hx, hb, hml, hown, hts⟩
  have hl : lv_has ls 1 [(0, .ref h0)] := hl
  refine lv_aload_n hx hb dX4_init_0 rfl (lv_at hl 0 rfl) ?_
  refine W.objInit hx hb hown (hts _ mw_X4_init_methodLinkCleanRuns1javalangObjectinitV) (hts _ mw_X4_init_instanceMethodjavalangObjectinitV) (hts _ mw_X4_init_codejavalangObjectinitVobjectmethod1code1none) rfl (by rw [hml]; exact hl.1) rfl dX4_init_1 (Nat.le_of_ble_eq_true rfl) (Nat.le_of_ble_eq_true rfl) ?_
  refine W.eq (g2 := F0 m 4 ls []) rfl ?_
  refine lv_aload_n hx hb dX4_init_4 rfl (lv_at hl 0 rfl) ?_
  refine lv_bipush (v := 10) hx hb dX4_init_5 (by decide) ?_
  refine va_newq (C := RX0) (N' := 10) hx hb hown (hts _ mw_X4_init_classLinkCleanRuns9CleanRunsRecipe) hKK.2.1 hK hP hD hS hA (by decide) (by decide) (by decide) (Nat.le_of_ble_eq_true rfl) (Nat.le_of_ble_eq_true rfl) dX4_init_7 (fun q7 cA H hK9 hP hD hS => ?_)
  obtain rfl : cA = t 3 := y_same hK9 (ty := .object RX0) 3 rfl
  have hP : va_P D vwCl [(h0, .inr (4, [.null, .null, .int 0, .int 0])), (q7, .inl (t 3, 10, .inr (.inr (.inr (.inr (fun _ => none))))))] H := hP
  have hD : va_D A [(h0, .inr (4, [.null, .null, .int 0, .int 0])), (q7, .inl (t 3, 10, .inr (.inr (.inr (.inr (fun _ => none))))))] := hD
  refine va_putF (D := D) (ci := 4) (v := .ref q7) (ty := (.array (.object "CleanRuns$Recipe"))) (C := RX4) (T := TX4) (N := 4) hx hb hts mc_X4_init_4 tyX4 tyX4_ok nmX4 hown hK hP hD hS 0 rfl rfl 0 (by decide) (hts _ mw_X4_init_fieldLinkCleanRuns11CleanRunsrecipesLCleanRunsRecipe) (fun _ h9 => h9) rfl hnm rfl (by decide +kernel) rfl rfl (Nat.le_of_ble_eq_true rfl) dX4_init_10 (fun H locs hP hD hS => ?_)
  have hP : va_P D vwCl [(h0, .inr (4, [.ref q7, .null, .int 0, .int 0])), (q7, .inl (t 3, 10, .inr (.inr (.inr (.inr (fun _ => none))))))] H := hP
  have hD : va_D A [(h0, .inr (4, [.ref q7, .null, .int 0, .int 0])), (q7, .inl (t 3, 10, .inr (.inr (.inr (.inr (fun _ => none))))))] := hD
  refine lv_aload_n hx hb dX4_init_13 rfl (lv_at hl 0 rfl) ?_
  refine lv_bipush (v := 30) hx hb dX4_init_14 (by decide) ?_
  refine va_newq (C := RX1) (N' := 30) hx hb hown (hts _ mw_X4_init_classLinkCleanRuns15CleanRunsRun) hKK.2.2.1 hK hP hD hS hA (by decide) (by decide) (by decide) (Nat.le_of_ble_eq_true rfl) (Nat.le_of_ble_eq_true rfl) dX4_init_16 (fun q16 cA H hK9 hP hD hS => ?_)
  obtain rfl : cA = t 4 := y_same hK9 (ty := .object RX1) 4 rfl
  have hP : va_P D vwCl [(h0, .inr (4, [.ref q7, .null, .int 0, .int 0])), (q7, .inl (t 3, 10, .inr (.inr (.inr (.inr (fun _ => none)))))), (q16, .inl (t 4, 30, .inr (.inr (.inr (.inr (fun _ => none))))))] H := hP
  have hD : va_D A [(h0, .inr (4, [.ref q7, .null, .int 0, .int 0])), (q7, .inl (t 3, 10, .inr (.inr (.inr (.inr (fun _ => none)))))), (q16, .inl (t 4, 30, .inr (.inr (.inr (.inr (fun _ => none))))))] := hD
  refine va_putF (D := D) (ci := 4) (v := .ref q16) (ty := (.array (.object "CleanRuns$Run"))) (C := RX4) (T := TX4) (N := 4) hx hb hts mc_X4_init_4 tyX4 tyX4_ok nmX4 hown hK hP hD hS 0 rfl rfl 1 (by decide) (hts _ mw_X4_init_fieldLinkCleanRuns17CleanRunsrunsLCleanRunsRun) (fun _ h9 => h9) rfl hnm rfl (by decide +kernel) rfl rfl (Nat.le_of_ble_eq_true rfl) dX4_init_19 (fun H locs hP hD hS => ?_)
  have hP : va_P D vwCl [(h0, .inr (4, [.ref q7, .ref q16, .int 0, .int 0])), (q7, .inl (t 3, 10, .inr (.inr (.inr (.inr (fun _ => none)))))), (q16, .inl (t 4, 30, .inr (.inr (.inr (.inr (fun _ => none))))))] H := hP
  have hD : va_D A [(h0, .inr (4, [.ref q7, .ref q16, .int 0, .int 0])), (q7, .inl (t 3, 10, .inr (.inr (.inr (.inr (fun _ => none)))))), (q16, .inl (t 4, 30, .inr (.inr (.inr (.inr (fun _ => none))))))] := hD
  refine lv_aload_n hx hb dX4_init_22 rfl (lv_at hl 0 rfl) ?_
  refine lv_iconst (v := 0) hx hb dX4_init_23 (by decide) ?_
  refine va_put (D := D) (ci := 4) (v := .int 0) (ty := .int) (C := RX4) (T := TX4) (N := 4) hx hb hts mc_X4_init_4 tyX4 tyX4_ok nmX4 hown hK hP hD hS 0 rfl rfl 2 (by decide) (hts _ mw_X4_init_fieldLinkCleanRuns21CleanRunsrecipeCountI) (fun _ h9 => h9) rfl (by decide +kernel) rfl rfl (Nat.le_of_ble_eq_true rfl) dX4_init_24 (fun H locs hP hD hS => ?_)
  have hP : va_P D vwCl [(h0, .inr (4, [.ref q7, .ref q16, .int 0, .int 0])), (q7, .inl (t 3, 10, .inr (.inr (.inr (.inr (fun _ => none)))))), (q16, .inl (t 4, 30, .inr (.inr (.inr (.inr (fun _ => none))))))] H := hP
  have hD : va_D A [(h0, .inr (4, [.ref q7, .ref q16, .int 0, .int 0])), (q7, .inl (t 3, 10, .inr (.inr (.inr (.inr (fun _ => none)))))), (q16, .inl (t 4, 30, .inr (.inr (.inr (.inr (fun _ => none))))))] := hD
  refine lv_aload_n hx hb dX4_init_27 rfl (lv_at hl 0 rfl) ?_
  refine lv_iconst (v := 0) hx hb dX4_init_28 (by decide) ?_
  refine va_put (D := D) (ci := 4) (v := .int 0) (ty := .int) (C := RX4) (T := TX4) (N := 4) hx hb hts mc_X4_init_4 tyX4 tyX4_ok nmX4 hown hK hP hD hS 0 rfl rfl 3 (by decide) (hts _ mw_X4_init_fieldLinkCleanRuns25CleanRunsrunCountI) (fun _ h9 => h9) rfl (by decide +kernel) rfl rfl (Nat.le_of_ble_eq_true rfl) dX4_init_29 (fun H locs hP hD hS => ?_)
  have hP : va_P D vwCl [(h0, .inr (4, [.ref q7, .ref q16, .int 0, .int 0])), (q7, .inl (t 3, 10, .inr (.inr (.inr (.inr (fun _ => none)))))), (q16, .inl (t 4, 30, .inr (.inr (.inr (.inr (fun _ => none))))))] H := hP
  have hD : va_D A [(h0, .inr (4, [.ref q7, .ref q16, .int 0, .int 0])), (q7, .inl (t 3, 10, .inr (.inr (.inr (.inr (fun _ => none)))))), (q16, .inl (t 4, 30, .inr (.inr (.inr (.inr (fun _ => none))))))] := hD
  have hP9 : va_P D vwCl [(h0, .inr (4, [.ref q7, .ref q16, .int 0, .int 0])), (q7, .inl (t 3, 10, .inr (.inr (.inr (.inr (fun _ => none)))))), (q16, .inl (t 4, 30, .inr (.inr (.inr (.inr (fun _ => none))))))] _ := hP.sub [0, 1, 2] rfl
  have hD9 : va_D A [(h0, .inr (4, [.ref q7, .ref q16, .int 0, .int 0])), (q7, .inl (t 3, 10, .inr (.inr (.inr (.inr (fun _ => none)))))), (q16, .inl (t 4, 30, .inr (.inr (.inr (.inr (fun _ => none))))))] := hD.sub [0, 1, 2] (by decide) rfl
  exact W.vret hx hb hr (fun tt ht hW => ⟨⟨(q7, q16), rfl, trivial, by rw [ht]; exact hP9, hKK.moved hW.alike, hD9⟩, hS.F ht⟩) hS.2.2 dX4_init_32
set_option maxHeartbeats 4000000 in
set_option maxRecDepth 100000 in
theorem c_CR_recipe_full (l : Launch) (D : va_G) (t : Nat → ClassId) (sz : Nat) (h0 xr xn nr nn : Nat) (g : Nat → Option Nat) (h1 : 10 ≤ nr) (h2 : nr < 2 ^ 31) : Met l yX4_recipe wsX4_recipe ({ frames := 2, cells := 2, slots := 15, locals := 32 } : Room) (va_Pc [.ref h0] (yS D t sz [(h0, .inr (4, [.ref xr, .ref xn, .int (nI nr), .int (nI nn)])), (xr, .inl (t 3, 10, .inr (.inr (.inr (.inr (g))))))])) (va_Qi (fun (x : Int32) (u : Unit) => x = (-2)) (fun (u : Unit) tt => yB D t (va_A [(h0, .inr (4, [.ref xr, .ref xn, .int (nI nr), .int (nI nn)])), (xr, .inl (t 3, 10, .inr (.inr (.inr (.inr (g))))))] sz) [(h0, .inr (4, [.ref xr, .ref xn, .int (nI nr), .int (nI nn)])), (xr, .inl (t 3, 10, .inr (.inr (.inr (.inr (g))))))] tt) (va_A [(h0, .inr (4, [.ref xr, .ref xn, .int (nI nr), .int (nI nn)])), (xr, .inl (t 3, 10, .inr (.inr (.inr (.inr (g))))))] sz)) 2 15 (va_A [(h0, .inr (4, [.ref xr, .ref xn, .int (nI nr), .int (nI nn)])), (xr, .inl (t 3, 10, .inr (.inr (.inr (.inr (g))))))] sz) := by
  refine y_ofW (wc := [(h0, .inr (4, [.ref xr, .ref xn, .int (nI nr), .int (nI nn)])), (xr, .inl (t 3, 10, .inr (.inr (.inr (.inr (g))))))]) (Qc := fun A => va_Qi (fun (x : Int32) (u : Unit) => x = (-2)) (fun (u : Unit) tt => yB D t A [(h0, .inr (4, [.ref xr, .ref xn, .int (nI nr), .int (nI nn)])), (xr, .inl (t 3, 10, .inr (.inr (.inr (.inr (g))))))] tt) A) (cc := cX4_recipe) (maxL := 2) (ret := (some .int)) (by decide) rfl (Nat.le_of_ble_eq_true rfl) (fun p e s m below meth c A ls hx hb hr hts hlocks hml hown hnm hA hKK hP hD hS hl => ?_)
  have hK := hKK.1
  have hSF : CallFix p m c cX4_recipe 2 s _ wsX4_recipe RX4 := ⟨hx, hb, hml, hown, hts⟩
  have hl : lv_has ls 2 [(0, .ref h0)] := hl
  refine lv_aload_n hx hb dX4_recipe_0 rfl (lv_at hl 0 rfl) ?_
  refine va_get (D := D) (ci := 4) (v := .int (nI nr)) (C := RX4) (T := TX4) (N := 4) hx hb hts mc_X4_recipe_4 hown hK hP 0 rfl rfl 2 (by decide) (hts _ mw_X4_recipe_fieldLinkCleanRuns21CleanRunsrecipeCountI) (fun _ h9 => h9) rfl dX4_recipe_1 ?_
  refine lv_if_lt (tgt := 19) hx hb dX4_recipe_4 (by decide) (fun hc9 => absurd hc9 (nI_pos h2)) (fun _ => ?_)
  refine lv_aload_n hx hb dX4_recipe_7 rfl (lv_at hl 0 rfl) ?_
  refine va_get (D := D) (ci := 4) (v := .int (nI nr)) (C := RX4) (T := TX4) (N := 4) hx hb hts mc_X4_recipe_4 hown hK hP 0 rfl rfl 2 (by decide) (hts _ mw_X4_recipe_fieldLinkCleanRuns21CleanRunsrecipeCountI) (fun _ h9 => h9) rfl dX4_recipe_8 ?_
  refine lv_aload_n hx hb dX4_recipe_11 rfl (lv_at hl 0 rfl) ?_
  refine va_get (D := D) (ci := 4) (v := .ref xr) (C := RX4) (T := TX4) (N := 4) hx hb hts mc_X4_recipe_4 hown hK hP 0 rfl rfl 0 (by decide) (hts _ mw_X4_recipe_fieldLinkCleanRuns11CleanRunsrecipesLCleanRunsRecipe) (fun _ h9 => h9) rfl dX4_recipe_12 ?_
  refine va_alen (v := 10) hx hb hK hP 1 3 rfl rfl rfl dX4_recipe_15 ?_
  refine lv_icmp_lt (tgt := 22) hx hb dX4_recipe_16 (by decide) (fun hc9 => absurd hc9 (nI_nlt (b := 10) h1 h2)) (fun _ => ?_)
  refine lv_bipush (v := -2) hx hb dX4_recipe_19 (by decide) ?_
  have hP9 : va_P D vwCl [(h0, .inr (4, [.ref xr, .ref xn, .int (nI nr), .int (nI nn)])), (xr, .inl (t 3, 10, .inr (.inr (.inr (.inr (g))))))] _ := hP.sub [0, 1] rfl
  have hD9 : va_D A [(h0, .inr (4, [.ref xr, .ref xn, .int (nI nr), .int (nI nn)])), (xr, .inl (t 3, 10, .inr (.inr (.inr (.inr (g))))))] := hD.sub [0, 1] (by decide) rfl
  refine W.widen (k := 2) (n := 15) (by decide) (by decide) ?_
  exact W.iret (v := (-2)) hx hb hr (fun tt ht hW => ⟨⟨(-2), (), rfl, rfl, by rw [ht]; exact hP9, hKK.moved hW.alike, hD9⟩, hS.F ht⟩) hS.2.2 dX4_recipe_21
set_option maxHeartbeats 4000000 in
set_option maxRecDepth 100000 in
theorem c_CR_recipe_new (l : Launch) (D : va_G) (t : Nat → ClassId) (sz : Nat) (h0 xr xn nr nn : Nat) (g : Nat → Option Nat) (h1 : nr < 10) : Met l yX4_recipe wsX4_recipe ({ frames := 2, cells := 2, slots := 15, locals := 32 } : Room) (va_Pc [.ref h0] (yS D t sz [(h0, .inr (4, [.ref xr, .ref xn, .int (nI nr), .int (nI nn)])), (xr, .inl (t 3, 10, .inr (.inr (.inr (.inr (g))))))])) (va_Qi (fun (x : Int32) (u : Nat × Nat) => x = nI nr) (fun (u : Nat × Nat) tt => yB D t (va_A [(h0, .inr (4, [.ref xr, .ref xn, .int (nI nr), .int (nI nn)])), (xr, .inl (t 3, 10, .inr (.inr (.inr (.inr (g))))))] sz) [(h0, .inr (4, [.ref xr, .ref xn, .int (nI nr + 1), .int (nI nn)])), (xr, .inl (t 3, 10, .inr (.inr (.inr (.inr (va_up g nr (some u.1))))))), (u.1, .inr (0, [.ref u.2, .int 0, .int 0])), (u.2, .inl (t 6, 12, .inr (.inr (.inr (.inr (fun _ => none))))))] tt) (va_A [(h0, .inr (4, [.ref xr, .ref xn, .int (nI nr), .int (nI nn)])), (xr, .inl (t 3, 10, .inr (.inr (.inr (.inr (g))))))] sz)) 2 15 (va_A [(h0, .inr (4, [.ref xr, .ref xn, .int (nI nr), .int (nI nn)])), (xr, .inl (t 3, 10, .inr (.inr (.inr (.inr (g))))))] sz) := by
  refine y_ofW (wc := [(h0, .inr (4, [.ref xr, .ref xn, .int (nI nr), .int (nI nn)])), (xr, .inl (t 3, 10, .inr (.inr (.inr (.inr (g))))))]) (Qc := fun A => va_Qi (fun (x : Int32) (u : Nat × Nat) => x = nI nr) (fun (u : Nat × Nat) tt => yB D t A [(h0, .inr (4, [.ref xr, .ref xn, .int (nI nr + 1), .int (nI nn)])), (xr, .inl (t 3, 10, .inr (.inr (.inr (.inr (va_up g nr (some u.1))))))), (u.1, .inr (0, [.ref u.2, .int 0, .int 0])), (u.2, .inl (t 6, 12, .inr (.inr (.inr (.inr (fun _ => none))))))] tt) A) (cc := cX4_recipe) (maxL := 2) (ret := (some .int)) (by decide) rfl (Nat.le_of_ble_eq_true rfl) (fun p e s m below meth c A ls hx hb hr hts hlocks hml hown hnm hA hKK hP hD hS hl => ?_)
  have hK := hKK.1
  have hSF : CallFix p m c cX4_recipe 2 s _ wsX4_recipe RX4 := ⟨hx, hb, hml, hown, hts⟩
  have hl : lv_has ls 2 [(0, .ref h0)] := hl
  refine lv_aload_n hx hb dX4_recipe_0 rfl (lv_at hl 0 rfl) ?_
  refine va_get (D := D) (ci := 4) (v := .int (nI nr)) (C := RX4) (T := TX4) (N := 4) hx hb hts mc_X4_recipe_4 hown hK hP 0 rfl rfl 2 (by decide) (hts _ mw_X4_recipe_fieldLinkCleanRuns21CleanRunsrecipeCountI) (fun _ h9 => h9) rfl dX4_recipe_1 ?_
  refine lv_if_lt (tgt := 19) hx hb dX4_recipe_4 (by decide) (fun hc9 => absurd hc9 (nI_pos (by omega))) (fun _ => ?_)
  refine lv_aload_n hx hb dX4_recipe_7 rfl (lv_at hl 0 rfl) ?_
  refine va_get (D := D) (ci := 4) (v := .int (nI nr)) (C := RX4) (T := TX4) (N := 4) hx hb hts mc_X4_recipe_4 hown hK hP 0 rfl rfl 2 (by decide) (hts _ mw_X4_recipe_fieldLinkCleanRuns21CleanRunsrecipeCountI) (fun _ h9 => h9) rfl dX4_recipe_8 ?_
  refine lv_aload_n hx hb dX4_recipe_11 rfl (lv_at hl 0 rfl) ?_
  refine va_get (D := D) (ci := 4) (v := .ref xr) (C := RX4) (T := TX4) (N := 4) hx hb hts mc_X4_recipe_4 hown hK hP 0 rfl rfl 0 (by decide) (hts _ mw_X4_recipe_fieldLinkCleanRuns11CleanRunsrecipesLCleanRunsRecipe) (fun _ h9 => h9) rfl dX4_recipe_12 ?_
  refine va_alen (v := 10) hx hb hK hP 1 3 rfl rfl rfl dX4_recipe_15 ?_
  refine lv_icmp_lt (tgt := 22) hx hb dX4_recipe_16 (by decide) (fun _ => ?_) (fun hc9 => absurd (nI_lt (a := nr) (b := 10) h1 (by decide)) hc9)
  refine lv_aload_n hx hb dX4_recipe_22 rfl (lv_at hl 0 rfl) ?_
  refine va_get (D := D) (ci := 4) (v := .int (nI nr)) (C := RX4) (T := TX4) (N := 4) hx hb hts mc_X4_recipe_4 hown hK hP 0 rfl rfl 2 (by decide) (hts _ mw_X4_recipe_fieldLinkCleanRuns21CleanRunsrecipeCountI) (fun _ h9 => h9) rfl dX4_recipe_23 ?_
  refine lv_istore_n (lv' := [(1, .int (nI nr)), (0, .ref h0)]) hx hb dX4_recipe_26 rfl hl (by decide) rfl (fun ls hl => ?_)
  refine lv_aload_n hx hb dX4_recipe_27 rfl (lv_at hl 1 rfl) ?_
  refine va_get (D := D) (ci := 4) (v := .ref xr) (C := RX4) (T := TX4) (N := 4) hx hb hts mc_X4_recipe_4 hown hK hP 0 rfl rfl 0 (by decide) (hts _ mw_X4_recipe_fieldLinkCleanRuns11CleanRunsrecipesLCleanRunsRecipe) (fun _ h9 => h9) rfl dX4_recipe_28 ?_
  refine lv_iload_n hx hb dX4_recipe_31 rfl (lv_at hl 0 rfl) ?_
  refine va_new (ci := 0) (fs := [.null, .int 0, .int 0]) (C := RX0) (T := TX0) (N := 3) hx hb hts mc_X4_recipe_0 tyX0 tyX0_ok hown (hts _ mw_X4_recipe_classLinkCleanRuns9CleanRunsRecipe) (hts _ mw_X4_recipe_instantiableCleanRunsRecipe3) (hts _ mw_X4_recipe_initializedCleanRunsRecipe) hK hP hD hS hA rfl (fun j hj => by rcases (show j = 0 ∨ j = 1 ∨ j = 2 by omega) with rfl | rfl | rfl <;> rfl) (Nat.le_of_ble_eq_true rfl) (Nat.le_of_ble_eq_true rfl) dX4_recipe_32 (fun q32 H hP hD hS => ?_)
  have hP : va_P D vwCl [(h0, .inr (4, [.ref xr, .ref xn, .int (nI nr), .int (nI nn)])), (xr, .inl (t 3, 10, .inr (.inr (.inr (.inr (g)))))), (q32, .inr (0, [.null, .int 0, .int 0]))] H := hP
  have hD : va_D A [(h0, .inr (4, [.ref xr, .ref xn, .int (nI nr), .int (nI nn)])), (xr, .inl (t 3, 10, .inr (.inr (.inr (.inr (g)))))), (q32, .inr (0, [.null, .int 0, .int 0]))] := hD
  refine lv_dup hx hb dX4_recipe_35 rfl ?_
  refine y_Iv (As := []) (rest := [.ref q32, .int (nI nr), .ref xr]) (wc := [(q32, .inr (0, [.null, .int 0, .int 0]))]) (wr := [(h0, .inr (4, [.ref xr, .ref xn, .int (nI nr), .int (nI nn)])), (xr, .inl (t 3, 10, .inr (.inr (.inr (.inr (g))))))]) [2] [0, 1] hSF (c_Recipe_init l D t H.size q32 ) (cwI 0 hts gX4_recipe_X0_init rfl rfl rfl (hts _ mw_X4_recipe_initializedCleanRunsRecipe) (hts _ mw_X4_recipe_methodLinkCleanRuns28CleanRunsRecipeinitV) (hts _ mw_X4_recipe_instanceMethodCleanRunsRecipeinitV) rfl (by decide +kernel) ⟨Nat.le_of_ble_eq_true rfl, Nat.le_of_ble_eq_true rfl⟩) hKK hP hD hS hA rfl rfl (by decide) (by decide) (by decide) rfl hl.1 rfl (Nat.le_of_ble_eq_true rfl) dX4_recipe_36 ⟨Nat.le_of_ble_eq_true rfl, Nat.le_of_ble_eq_true rfl⟩ (fun u H locs hw36 hP hD hS => ?_)
  obtain ⟨q36a, rfl⟩ : ∃ z, z = u := ⟨_, rfl⟩
  have hP : va_P D vwCl [(h0, .inr (4, [.ref xr, .ref xn, .int (nI nr), .int (nI nn)])), (xr, .inl (t 3, 10, .inr (.inr (.inr (.inr (g)))))), (q32, .inr (0, [.ref q36a, .int 0, .int 0])), (q36a, .inl (t 6, 12, .inr (.inr (.inr (.inr (fun _ => none))))))] H := hP
  have hD : va_D A [(h0, .inr (4, [.ref xr, .ref xn, .int (nI nr), .int (nI nn)])), (xr, .inl (t 3, 10, .inr (.inr (.inr (.inr (g)))))), (q32, .inr (0, [.ref q36a, .int 0, .int 0])), (q36a, .inl (t 6, 12, .inr (.inr (.inr (.inr (fun _ => none))))))] := hD
  refine y_aast (j := nr) hx hb hK hP hD hS 1 3 2 0 rfl rfl rfl rfl (h1) (by decide) dX4_recipe_39 (fun H locs hP hD hS => ?_)
  have hP : va_P D vwCl [(h0, .inr (4, [.ref xr, .ref xn, .int (nI nr), .int (nI nn)])), (xr, .inl (t 3, 10, .inr (.inr (.inr (.inr (va_up g nr (some q32))))))), (q32, .inr (0, [.ref q36a, .int 0, .int 0])), (q36a, .inl (t 6, 12, .inr (.inr (.inr (.inr (fun _ => none))))))] H := hP
  have hD : va_D A [(h0, .inr (4, [.ref xr, .ref xn, .int (nI nr), .int (nI nn)])), (xr, .inl (t 3, 10, .inr (.inr (.inr (.inr (va_up g nr (some q32))))))), (q32, .inr (0, [.ref q36a, .int 0, .int 0])), (q36a, .inl (t 6, 12, .inr (.inr (.inr (.inr (fun _ => none))))))] := hD
  refine lv_aload_n hx hb dX4_recipe_40 rfl (lv_at hl 1 rfl) ?_
  refine lv_iload_n hx hb dX4_recipe_41 rfl (lv_at hl 0 rfl) ?_
  refine lv_iconst (v := 1) hx hb dX4_recipe_42 (by decide) ?_
  refine lv_iadd hx hb dX4_recipe_43 ?_
  refine va_put (D := D) (ci := 4) (v := .int ((nI nr) + 1)) (ty := .int) (C := RX4) (T := TX4) (N := 4) hx hb hts mc_X4_recipe_4 tyX4 tyX4_ok nmX4 hown hK hP hD hS 0 rfl rfl 2 (by decide) (hts _ mw_X4_recipe_fieldLinkCleanRuns21CleanRunsrecipeCountI) (fun _ h9 => h9) rfl (by decide +kernel) rfl rfl (Nat.le_of_ble_eq_true rfl) dX4_recipe_44 (fun H locs hP hD hS => ?_)
  have hP : va_P D vwCl [(h0, .inr (4, [.ref xr, .ref xn, .int ((nI nr) + 1), .int (nI nn)])), (xr, .inl (t 3, 10, .inr (.inr (.inr (.inr (va_up g nr (some q32))))))), (q32, .inr (0, [.ref q36a, .int 0, .int 0])), (q36a, .inl (t 6, 12, .inr (.inr (.inr (.inr (fun _ => none))))))] H := hP
  have hD : va_D A [(h0, .inr (4, [.ref xr, .ref xn, .int ((nI nr) + 1), .int (nI nn)])), (xr, .inl (t 3, 10, .inr (.inr (.inr (.inr (va_up g nr (some q32))))))), (q32, .inr (0, [.ref q36a, .int 0, .int 0])), (q36a, .inl (t 6, 12, .inr (.inr (.inr (.inr (fun _ => none))))))] := hD
  refine lv_iload_n hx hb dX4_recipe_47 rfl (lv_at hl 0 rfl) ?_
  have hP9 : va_P D vwCl [(h0, .inr (4, [.ref xr, .ref xn, .int ((nI nr) + 1), .int (nI nn)])), (xr, .inl (t 3, 10, .inr (.inr (.inr (.inr (va_up g nr (some q32))))))), (q32, .inr (0, [.ref q36a, .int 0, .int 0])), (q36a, .inl (t 6, 12, .inr (.inr (.inr (.inr (fun _ => none))))))] _ := hP.sub [0, 1, 2, 3] rfl
  have hD9 : va_D A [(h0, .inr (4, [.ref xr, .ref xn, .int ((nI nr) + 1), .int (nI nn)])), (xr, .inl (t 3, 10, .inr (.inr (.inr (.inr (va_up g nr (some q32))))))), (q32, .inr (0, [.ref q36a, .int 0, .int 0])), (q36a, .inl (t 6, 12, .inr (.inr (.inr (.inr (fun _ => none))))))] := hD.sub [0, 1, 2, 3] (by decide) rfl
  have e9 : ([(h0, .inr (4, [.ref xr, .ref xn, .int (nI nr + 1), .int (nI nn)])), (xr, .inl (t 3, 10, .inr (.inr (.inr (.inr (va_up g nr (some q32))))))), (q32, .inr (0, [.ref q36a, .int 0, .int 0])), (q36a, .inl (t 6, 12, .inr (.inr (.inr (.inr (fun _ => none))))))] : va_W) = [(h0, .inr (4, [.ref xr, .ref xn, .int ((nI nr) + 1), .int (nI nn)])), (xr, .inl (t 3, 10, .inr (.inr (.inr (.inr (va_up g nr (some q32))))))), (q32, .inr (0, [.ref q36a, .int 0, .int 0])), (q36a, .inl (t 6, 12, .inr (.inr (.inr (.inr (fun _ => none))))))] := by rfl
  rw [← e9] at hP9 hD9
  exact W.iret (v := (nI nr)) hx hb hr (fun tt ht hW => ⟨⟨(nI nr), (q32, q36a), rfl, rfl, by rw [ht]; exact hP9, hKK.moved hW.alike, hD9⟩, hS.F ht⟩) hS.2.2 dX4_recipe_48
set_option maxHeartbeats 4000000 in
set_option maxRecDepth 100000 in
theorem c_CR_step_no (l : Launch) (D : va_G) (t : Nat → ClassId) (sz : Nat) (h0 xr xn nr nn : Nat) (k kd sc : Int32) (sg dg : UInt64) (hk : k < 0 ∨ nI nr ≤ k) : Met l yX4_step wsX4_step ({ frames := 2, cells := 1, slots := 4, locals := 38 } : Room) (va_Pc [.ref h0, .int k, .int kd, .int sc, .double sg, .double dg] (yS D t sz [(h0, .inr (4, [.ref xr, .ref xn, .int (nI nr), .int (nI nn)]))])) (va_Qi (fun (x : Int32) (u : Unit) => x = 0) (fun (u : Unit) tt => yB D t (va_A [(h0, .inr (4, [.ref xr, .ref xn, .int (nI nr), .int (nI nn)]))] sz) [(h0, .inr (4, [.ref xr, .ref xn, .int (nI nr), .int (nI nn)]))] tt) (va_A [(h0, .inr (4, [.ref xr, .ref xn, .int (nI nr), .int (nI nn)]))] sz)) 1 4 (va_A [(h0, .inr (4, [.ref xr, .ref xn, .int (nI nr), .int (nI nn)]))] sz) := by
  refine y_ofW (wc := [(h0, .inr (4, [.ref xr, .ref xn, .int (nI nr), .int (nI nn)]))]) (Qc := fun A => va_Qi (fun (x : Int32) (u : Unit) => x = 0) (fun (u : Unit) tt => yB D t A [(h0, .inr (4, [.ref xr, .ref xn, .int (nI nr), .int (nI nn)]))] tt) A) (cc := cX4_step) (maxL := 9) (ret := (some .boolean)) (by decide) rfl (Nat.le_of_ble_eq_true rfl) (fun p e s m below meth c A ls hx hb hr hts hlocks hml hown hnm hA hKK hP hD hS hl => ?_)
  have hK := hKK.1
  have hSF : CallFix p m c cX4_step 9 s _ wsX4_step RX4 := ⟨hx, hb, hml, hown, hts⟩
  have hl : lv_has ls 9 [(0, .ref h0), (1, .int k), (2, .int kd), (3, .int sc), (4, .double sg), (6, .double dg)] := hl
  refine lv_aload_n hx hb dX4_step_0 rfl (lv_at hl 0 rfl) ?_
  refine lv_iload_n hx hb dX4_step_1 rfl (lv_at hl 1 rfl) ?_
  refine y_Vq (As := [.int k]) (rest := []) (wc := [(h0, .inr (4, [.ref xr, .ref xn, .int (nI nr), .int (nI nn)]))]) (wr := []) [0] [] hSF (c_CR_recipeAt_no l D t s.heap.size h0 xr xn nr nn k hk) (cwV 1 hts gX4_step_X4_recipeAt rfl rfl rfl (by decide +kernel) ⟨Nat.le_of_ble_eq_true rfl, Nat.le_of_ble_eq_true rfl⟩) hKK hP hD hS hA rfl rfl (by decide) (by decide) (by decide) (fs := [.ref xr, .ref xn, .int (nI nr), .int (nI nn)]) (ci := 4) rfl rfl rfl rfl hl.1 rfl (Nat.le_of_ble_eq_true rfl) dX4_step_2 ⟨Nat.le_of_ble_eq_true rfl, Nat.le_of_ble_eq_true rfl⟩ (fun x u H locs hw2 hP hD hS => ?_)
  obtain rfl : x = none := hw2
  refine W.eq (g2 := F0 m 5 ls [.null]) rfl ?_
  have hP : va_P D vwCl [(h0, .inr (4, [.ref xr, .ref xn, .int (nI nr), .int (nI nn)]))] H := hP
  have hD : va_D A [(h0, .inr (4, [.ref xr, .ref xn, .int (nI nr), .int (nI nn)]))] := hD
  refine lv_astoreN (lv' := [(8, .null), (0, .ref h0), (1, .int k), (2, .int kd), (3, .int sc), (4, .double sg), (6, .double dg)]) hx hb dX4_step_5 hl (by decide) rfl (fun ls hl => ?_)
  refine lv_aloadN hx hb dX4_step_7 (lv_at hl 0 rfl) ?_
  refine lv_ifnullN (tgt := 20) hx hb dX4_step_9 (by decide) ?_
  refine lv_iconst (v := 0) hx hb dX4_step_20 (by decide) ?_
  have hP9 : va_P D vwCl [(h0, .inr (4, [.ref xr, .ref xn, .int (nI nr), .int (nI nn)]))] _ := hP.sub [0] rfl
  have hD9 : va_D A [(h0, .inr (4, [.ref xr, .ref xn, .int (nI nr), .int (nI nn)]))] := hD.sub [0] (by decide) rfl
  refine W.widen (k := 1) (n := 4) (by decide) (by decide) ?_
  exact W.zret (v := 0) hx hb hr (by decide) (fun tt ht hW => ⟨⟨0, (), rfl, rfl, by rw [ht]; exact hP9, hKK.moved hW.alike, hD9⟩, hS.F ht⟩) hS.2.2 dX4_step_21
set_option maxHeartbeats 4000000 in
set_option maxRecDepth 100000 in
theorem c_CR_step_bad (l : Launch) (D : va_G) (t : Nat → ClassId) (sz : Nat) (h0 xr xn nr nn : Nat) (j rc ra n : Nat) (gb kd sc : Int32) (sg dg : UInt64) (g f : Nat → Option Nat) (hj : j < nr) (hn : nr ≤ 10) (hf : g j = some rc) (hb9 : ¬ (¬ fK (nI n) gb = 0 ∧ okS kd sc sg dg)) : Met l yX4_step wsX4_step ({ frames := 2, cells := 1, slots := 4, locals := 38 } : Room) (va_Pc [.ref h0, .int (nI j), .int kd, .int sc, .double sg, .double dg] (yS D t sz [(h0, .inr (4, [.ref xr, .ref xn, .int (nI nr), .int (nI nn)])), (xr, .inl (t 3, 10, .inr (.inr (.inr (.inr (g)))))), (rc, .inr (0, [.ref ra, .int (nI n), .int gb])), (ra, .inl (t 6, 12, .inr (.inr (.inr (.inr (f))))))])) (va_Qi (fun (x : Int32) (u : Unit) => x = 0) (fun (u : Unit) tt => yB D t (va_A [(h0, .inr (4, [.ref xr, .ref xn, .int (nI nr), .int (nI nn)])), (xr, .inl (t 3, 10, .inr (.inr (.inr (.inr (g)))))), (rc, .inr (0, [.ref ra, .int (nI n), .int gb])), (ra, .inl (t 6, 12, .inr (.inr (.inr (.inr (f))))))] sz) [(h0, .inr (4, [.ref xr, .ref xn, .int (nI nr), .int (nI nn)])), (xr, .inl (t 3, 10, .inr (.inr (.inr (.inr (g)))))), (rc, .inr (0, [.ref ra, .int (nI n), .int gb])), (ra, .inl (t 6, 12, .inr (.inr (.inr (.inr (f))))))] tt) (va_A [(h0, .inr (4, [.ref xr, .ref xn, .int (nI nr), .int (nI nn)])), (xr, .inl (t 3, 10, .inr (.inr (.inr (.inr (g)))))), (rc, .inr (0, [.ref ra, .int (nI n), .int gb])), (ra, .inl (t 6, 12, .inr (.inr (.inr (.inr (f))))))] sz)) 1 4 (va_A [(h0, .inr (4, [.ref xr, .ref xn, .int (nI nr), .int (nI nn)])), (xr, .inl (t 3, 10, .inr (.inr (.inr (.inr (g)))))), (rc, .inr (0, [.ref ra, .int (nI n), .int gb])), (ra, .inl (t 6, 12, .inr (.inr (.inr (.inr (f))))))] sz) := by
  refine y_ofW (wc := [(h0, .inr (4, [.ref xr, .ref xn, .int (nI nr), .int (nI nn)])), (xr, .inl (t 3, 10, .inr (.inr (.inr (.inr (g)))))), (rc, .inr (0, [.ref ra, .int (nI n), .int gb])), (ra, .inl (t 6, 12, .inr (.inr (.inr (.inr (f))))))]) (Qc := fun A => va_Qi (fun (x : Int32) (u : Unit) => x = 0) (fun (u : Unit) tt => yB D t A [(h0, .inr (4, [.ref xr, .ref xn, .int (nI nr), .int (nI nn)])), (xr, .inl (t 3, 10, .inr (.inr (.inr (.inr (g)))))), (rc, .inr (0, [.ref ra, .int (nI n), .int gb])), (ra, .inl (t 6, 12, .inr (.inr (.inr (.inr (f))))))] tt) A) (cc := cX4_step) (maxL := 9) (ret := (some .boolean)) (by decide) rfl (Nat.le_of_ble_eq_true rfl) (fun p e s m below meth c A ls hx hb hr hts hlocks hml hown hnm hA hKK hP hD hS hl => ?_)
  have hK := hKK.1
  have hSF : CallFix p m c cX4_step 9 s _ wsX4_step RX4 := ⟨hx, hb, hml, hown, hts⟩
  have hl : lv_has ls 9 [(0, .ref h0), (1, .int (nI j)), (2, .int kd), (3, .int sc), (4, .double sg), (6, .double dg)] := hl
  refine lv_aload_n hx hb dX4_step_0 rfl (lv_at hl 0 rfl) ?_
  refine lv_iload_n hx hb dX4_step_1 rfl (lv_at hl 1 rfl) ?_
  refine y_Vq (As := [.int (nI j)]) (rest := []) (wc := [(h0, .inr (4, [.ref xr, .ref xn, .int (nI nr), .int (nI nn)])), (xr, .inl (t 3, 10, .inr (.inr (.inr (.inr (g))))))]) (wr := [(rc, .inr (0, [.ref ra, .int (nI n), .int gb])), (ra, .inl (t 6, 12, .inr (.inr (.inr (.inr (f))))))]) [0, 1] [2, 3] hSF (c_CR_recipeAt_at l D t s.heap.size h0 xr xn nr nn j rc g hj hn hf) (cwV 1 hts gX4_step_X4_recipeAt rfl rfl rfl (by decide +kernel) ⟨Nat.le_of_ble_eq_true rfl, Nat.le_of_ble_eq_true rfl⟩) hKK hP hD hS hA rfl rfl (by decide) (by decide) (by decide) (fs := [.ref xr, .ref xn, .int (nI nr), .int (nI nn)]) (ci := 4) rfl rfl rfl rfl hl.1 rfl (Nat.le_of_ble_eq_true rfl) dX4_step_2 ⟨Nat.le_of_ble_eq_true rfl, Nat.le_of_ble_eq_true rfl⟩ (fun x u H locs hw2 hP hD hS => ?_)
  obtain rfl : x = some rc := hw2
  refine W.eq (g2 := F0 m 5 ls [.ref rc]) rfl ?_
  have hP : va_P D vwCl [(rc, .inr (0, [.ref ra, .int (nI n), .int gb])), (ra, .inl (t 6, 12, .inr (.inr (.inr (.inr (f)))))), (h0, .inr (4, [.ref xr, .ref xn, .int (nI nr), .int (nI nn)])), (xr, .inl (t 3, 10, .inr (.inr (.inr (.inr (g))))))] H := hP
  have hD : va_D A [(rc, .inr (0, [.ref ra, .int (nI n), .int gb])), (ra, .inl (t 6, 12, .inr (.inr (.inr (.inr (f)))))), (h0, .inr (4, [.ref xr, .ref xn, .int (nI nr), .int (nI nn)])), (xr, .inl (t 3, 10, .inr (.inr (.inr (.inr (g))))))] := hD
  refine lv_astore (lv' := [(8, .ref rc), (0, .ref h0), (1, .int (nI j)), (2, .int kd), (3, .int sc), (4, .double sg), (6, .double dg)]) hx hb dX4_step_5 hl (by decide) rfl (fun ls hl => ?_)
  refine lv_aload hx hb dX4_step_7 (lv_at hl 0 rfl) ?_
  refine lv_ifnull hx hb dX4_step_9 ?_
  refine lv_aload hx hb dX4_step_12 (lv_at hl 0 rfl) ?_
  refine y_Vi (As := []) (rest := []) (wc := [(rc, .inr (0, [.ref ra, .int (nI n), .int gb])), (ra, .inl (t 6, 12, .inr (.inr (.inr (.inr (f))))))]) (wr := [(h0, .inr (4, [.ref xr, .ref xn, .int (nI nr), .int (nI nn)])), (xr, .inl (t 3, 10, .inr (.inr (.inr (.inr (g))))))]) [0, 1] [2, 3] hSF (c_Recipe_takes l D t H.size rc ra (nI n) gb f ) (cwV 0 hts gX4_step_X0_takesAStep rfl rfl rfl (by decide +kernel) ⟨Nat.le_of_ble_eq_true rfl, Nat.le_of_ble_eq_true rfl⟩) hKK hP hD hS hA rfl rfl (by decide) (by decide) (by decide) (fs := [.ref ra, .int (nI n), .int gb]) (ci := 0) rfl rfl rfl rfl hl.1 rfl (Nat.le_of_ble_eq_true rfl) dX4_step_14 ⟨Nat.le_of_ble_eq_true rfl, Nat.le_of_ble_eq_true rfl⟩ (fun x u H locs hw14 hP hD hS => ?_)
  obtain rfl : x = (fK (nI n) gb) := hw14
  have hP : va_P D vwCl [(h0, .inr (4, [.ref xr, .ref xn, .int (nI nr), .int (nI nn)])), (xr, .inl (t 3, 10, .inr (.inr (.inr (.inr (g)))))), (rc, .inr (0, [.ref ra, .int (nI n), .int gb])), (ra, .inl (t 6, 12, .inr (.inr (.inr (.inr (f))))))] H := hP
  have hD : va_D A [(h0, .inr (4, [.ref xr, .ref xn, .int (nI nr), .int (nI nn)])), (xr, .inl (t 3, 10, .inr (.inr (.inr (.inr (g)))))), (rc, .inr (0, [.ref ra, .int (nI n), .int gb])), (ra, .inl (t 6, 12, .inr (.inr (.inr (.inr (f))))))] := hD
  refine lv_if_ne (tgt := 22) hx hb dX4_step_17 (by decide) (fun c_17_0 => ?_) (fun c_17_0 => ?_)
  · refine lv_iload_n hx hb dX4_step_22 rfl (lv_at hl 3 rfl) ?_
    refine lv_if_lt (tgt := 43) hx hb dX4_step_23 (by decide) (fun c_23_1 => ?_) (fun c_23_1 => ?_)
    · refine lv_iconst (v := 0) hx hb dX4_step_43 (by decide) ?_
      have hP9 : va_P D vwCl [(h0, .inr (4, [.ref xr, .ref xn, .int (nI nr), .int (nI nn)])), (xr, .inl (t 3, 10, .inr (.inr (.inr (.inr (g)))))), (rc, .inr (0, [.ref ra, .int (nI n), .int gb])), (ra, .inl (t 6, 12, .inr (.inr (.inr (.inr (f))))))] _ := hP.sub [0, 1, 2, 3] rfl
      have hD9 : va_D A [(h0, .inr (4, [.ref xr, .ref xn, .int (nI nr), .int (nI nn)])), (xr, .inl (t 3, 10, .inr (.inr (.inr (.inr (g)))))), (rc, .inr (0, [.ref ra, .int (nI n), .int gb])), (ra, .inl (t 6, 12, .inr (.inr (.inr (.inr (f))))))] := hD.sub [0, 1, 2, 3] (by decide) rfl
      refine W.widen (k := 1) (n := 4) (by decide) (by decide) ?_
      exact W.zret (v := 0) hx hb hr (by decide) (fun tt ht hW => ⟨⟨0, (), rfl, rfl, by rw [ht]; exact hP9, hKK.moved hW.alike, hD9⟩, hS.F ht⟩) hS.2.2 dX4_step_44
    · refine lv_iload_n hx hb dX4_step_26 rfl (lv_at hl 3 rfl) ?_
      refine lv_iconst (v := 4) hx hb dX4_step_27 (by decide) ?_
      refine lv_icmp_gt (tgt := 43) hx hb dX4_step_28 (by decide) (fun c_28_2 => ?_) (fun c_28_2 => ?_)
      · refine lv_iconst (v := 0) hx hb dX4_step_43 (by decide) ?_
        have hP9 : va_P D vwCl [(h0, .inr (4, [.ref xr, .ref xn, .int (nI nr), .int (nI nn)])), (xr, .inl (t 3, 10, .inr (.inr (.inr (.inr (g)))))), (rc, .inr (0, [.ref ra, .int (nI n), .int gb])), (ra, .inl (t 6, 12, .inr (.inr (.inr (.inr (f))))))] _ := hP.sub [0, 1, 2, 3] rfl
        have hD9 : va_D A [(h0, .inr (4, [.ref xr, .ref xn, .int (nI nr), .int (nI nn)])), (xr, .inl (t 3, 10, .inr (.inr (.inr (.inr (g)))))), (rc, .inr (0, [.ref ra, .int (nI n), .int gb])), (ra, .inl (t 6, 12, .inr (.inr (.inr (.inr (f))))))] := hD.sub [0, 1, 2, 3] (by decide) rfl
        refine W.widen (k := 1) (n := 4) (by decide) (by decide) ?_
        exact W.zret (v := 0) hx hb hr (by decide) (fun tt ht hW => ⟨⟨0, (), rfl, rfl, by rw [ht]; exact hP9, hKK.moved hW.alike, hD9⟩, hS.F ht⟩) hS.2.2 dX4_step_44
      · refine lv_iload_n hx hb dX4_step_31 rfl (lv_at hl 4 rfl) ?_
        refine lv_iconst (v := 1) hx hb dX4_step_32 (by decide) ?_
        refine lv_icmp_lt (tgt := 43) hx hb dX4_step_33 (by decide) (fun c_33_3 => ?_) (fun c_33_3 => ?_)
        · refine lv_iconst (v := 0) hx hb dX4_step_43 (by decide) ?_
          have hP9 : va_P D vwCl [(h0, .inr (4, [.ref xr, .ref xn, .int (nI nr), .int (nI nn)])), (xr, .inl (t 3, 10, .inr (.inr (.inr (.inr (g)))))), (rc, .inr (0, [.ref ra, .int (nI n), .int gb])), (ra, .inl (t 6, 12, .inr (.inr (.inr (.inr (f))))))] _ := hP.sub [0, 1, 2, 3] rfl
          have hD9 : va_D A [(h0, .inr (4, [.ref xr, .ref xn, .int (nI nr), .int (nI nn)])), (xr, .inl (t 3, 10, .inr (.inr (.inr (.inr (g)))))), (rc, .inr (0, [.ref ra, .int (nI n), .int gb])), (ra, .inl (t 6, 12, .inr (.inr (.inr (.inr (f))))))] := hD.sub [0, 1, 2, 3] (by decide) rfl
          refine W.widen (k := 1) (n := 4) (by decide) (by decide) ?_
          exact W.zret (v := 0) hx hb hr (by decide) (fun tt ht hW => ⟨⟨0, (), rfl, rfl, by rw [ht]; exact hP9, hKK.moved hW.alike, hD9⟩, hS.F ht⟩) hS.2.2 dX4_step_44
        · refine lv_iload_n hx hb dX4_step_36 rfl (lv_at hl 4 rfl) ?_
          refine lv_sipush (v := 3600) hx hb dX4_step_37 (by decide) ?_
          refine lv_icmp_le (tgt := 45) hx hb dX4_step_40 (by decide) (fun c_40_4 => ?_) (fun c_40_4 => ?_)
          · refine lv_dload hx hb dX4_step_45 (lv_at hl 5 rfl) ?_
            refine lv_dconst0 hx hb dX4_step_47 ?_
            refine lv_ldc2d (v := 4636737291354636288) hx hb hown (hts _ mw_X4_step_constantDoubleCleanRuns374636737291354636288) dX4_step_48 ?_
            refine y_Si (As := [.double sg, .double FP.dconst0, .double 4636737291354636288]) (rest := []) hSF (c_within l sg FP.dconst0 4636737291354636288 ) (va_cwS 3 hts gX4_step_X4_within rfl rfl rfl (by decide +kernel) ⟨Nat.le_of_ble_eq_true rfl, Nat.le_of_ble_eq_true rfl⟩) hP hD hS rfl hl.1 rfl (Nat.le_of_ble_eq_true rfl) dX4_step_51 ⟨Nat.le_of_ble_eq_true rfl, Nat.le_of_ble_eq_true rfl⟩ (fun x H locs hw51 hP hS => ?_)
            obtain rfl : x = (fB sg FP.dconst0 4636737291354636288) := hw51
            refine lv_if_eq (tgt := 69) hx hb dX4_step_54 (by decide) (fun c_54_5 => ?_) (fun c_54_5 => ?_)
            · refine lv_iconst (v := 0) hx hb dX4_step_69 (by decide) ?_
              have hP9 : va_P D vwCl [(h0, .inr (4, [.ref xr, .ref xn, .int (nI nr), .int (nI nn)])), (xr, .inl (t 3, 10, .inr (.inr (.inr (.inr (g)))))), (rc, .inr (0, [.ref ra, .int (nI n), .int gb])), (ra, .inl (t 6, 12, .inr (.inr (.inr (.inr (f))))))] _ := hP.sub [0, 1, 2, 3] rfl
              have hD9 : va_D A [(h0, .inr (4, [.ref xr, .ref xn, .int (nI nr), .int (nI nn)])), (xr, .inl (t 3, 10, .inr (.inr (.inr (.inr (g)))))), (rc, .inr (0, [.ref ra, .int (nI n), .int gb])), (ra, .inl (t 6, 12, .inr (.inr (.inr (.inr (f))))))] := hD.sub [0, 1, 2, 3] (by decide) rfl
              refine W.widen (k := 1) (n := 4) (by decide) (by decide) ?_
              exact W.zret (v := 0) hx hb hr (by decide) (fun tt ht hW => ⟨⟨0, (), rfl, rfl, by rw [ht]; exact hP9, hKK.moved hW.alike, hD9⟩, hS.F ht⟩) hS.2.2 dX4_step_70
            · refine lv_dload hx hb dX4_step_57 (lv_at hl 6 rfl) ?_
              refine lv_dconst0 hx hb dX4_step_59 ?_
              refine lv_ldc2d (v := 4639481672377565184) hx hb hown (hts _ mw_X4_step_constantDoubleCleanRuns434639481672377565184) dX4_step_60 ?_
              refine y_Si (As := [.double dg, .double FP.dconst0, .double 4639481672377565184]) (rest := []) hSF (c_within l dg FP.dconst0 4639481672377565184 ) (va_cwS 3 hts gX4_step_X4_within rfl rfl rfl (by decide +kernel) ⟨Nat.le_of_ble_eq_true rfl, Nat.le_of_ble_eq_true rfl⟩) hP hD hS rfl hl.1 rfl (Nat.le_of_ble_eq_true rfl) dX4_step_63 ⟨Nat.le_of_ble_eq_true rfl, Nat.le_of_ble_eq_true rfl⟩ (fun x H locs hw63 hP hS => ?_)
              obtain rfl : x = (fB dg FP.dconst0 4639481672377565184) := hw63
              refine lv_if_ne (tgt := 71) hx hb dX4_step_66 (by decide) (fun hc9 => absurd (Classical.byContradiction (fun h9 => hb9 ⟨c_17_0, c_23_1, c_28_2, c_33_3, c_40_4, c_54_5, h9⟩)) hc9) (fun _ => ?_)
              refine lv_iconst (v := 0) hx hb dX4_step_69 (by decide) ?_
              have hP9 : va_P D vwCl [(h0, .inr (4, [.ref xr, .ref xn, .int (nI nr), .int (nI nn)])), (xr, .inl (t 3, 10, .inr (.inr (.inr (.inr (g)))))), (rc, .inr (0, [.ref ra, .int (nI n), .int gb])), (ra, .inl (t 6, 12, .inr (.inr (.inr (.inr (f))))))] _ := hP.sub [0, 1, 2, 3] rfl
              have hD9 : va_D A [(h0, .inr (4, [.ref xr, .ref xn, .int (nI nr), .int (nI nn)])), (xr, .inl (t 3, 10, .inr (.inr (.inr (.inr (g)))))), (rc, .inr (0, [.ref ra, .int (nI n), .int gb])), (ra, .inl (t 6, 12, .inr (.inr (.inr (.inr (f))))))] := hD.sub [0, 1, 2, 3] (by decide) rfl
              refine W.widen (k := 1) (n := 4) (by decide) (by decide) ?_
              exact W.zret (v := 0) hx hb hr (by decide) (fun tt ht hW => ⟨⟨0, (), rfl, rfl, by rw [ht]; exact hP9, hKK.moved hW.alike, hD9⟩, hS.F ht⟩) hS.2.2 dX4_step_70
          · refine lv_iconst (v := 0) hx hb dX4_step_43 (by decide) ?_
            have hP9 : va_P D vwCl [(h0, .inr (4, [.ref xr, .ref xn, .int (nI nr), .int (nI nn)])), (xr, .inl (t 3, 10, .inr (.inr (.inr (.inr (g)))))), (rc, .inr (0, [.ref ra, .int (nI n), .int gb])), (ra, .inl (t 6, 12, .inr (.inr (.inr (.inr (f))))))] _ := hP.sub [0, 1, 2, 3] rfl
            have hD9 : va_D A [(h0, .inr (4, [.ref xr, .ref xn, .int (nI nr), .int (nI nn)])), (xr, .inl (t 3, 10, .inr (.inr (.inr (.inr (g)))))), (rc, .inr (0, [.ref ra, .int (nI n), .int gb])), (ra, .inl (t 6, 12, .inr (.inr (.inr (.inr (f))))))] := hD.sub [0, 1, 2, 3] (by decide) rfl
            refine W.widen (k := 1) (n := 4) (by decide) (by decide) ?_
            exact W.zret (v := 0) hx hb hr (by decide) (fun tt ht hW => ⟨⟨0, (), rfl, rfl, by rw [ht]; exact hP9, hKK.moved hW.alike, hD9⟩, hS.F ht⟩) hS.2.2 dX4_step_44
  · refine lv_iconst (v := 0) hx hb dX4_step_20 (by decide) ?_
    have hP9 : va_P D vwCl [(h0, .inr (4, [.ref xr, .ref xn, .int (nI nr), .int (nI nn)])), (xr, .inl (t 3, 10, .inr (.inr (.inr (.inr (g)))))), (rc, .inr (0, [.ref ra, .int (nI n), .int gb])), (ra, .inl (t 6, 12, .inr (.inr (.inr (.inr (f))))))] _ := hP.sub [0, 1, 2, 3] rfl
    have hD9 : va_D A [(h0, .inr (4, [.ref xr, .ref xn, .int (nI nr), .int (nI nn)])), (xr, .inl (t 3, 10, .inr (.inr (.inr (.inr (g)))))), (rc, .inr (0, [.ref ra, .int (nI n), .int gb])), (ra, .inl (t 6, 12, .inr (.inr (.inr (.inr (f))))))] := hD.sub [0, 1, 2, 3] (by decide) rfl
    refine W.widen (k := 1) (n := 4) (by decide) (by decide) ?_
    exact W.zret (v := 0) hx hb hr (by decide) (fun tt ht hW => ⟨⟨0, (), rfl, rfl, by rw [ht]; exact hP9, hKK.moved hW.alike, hD9⟩, hS.F ht⟩) hS.2.2 dX4_step_21
set_option maxHeartbeats 4000000 in
set_option maxRecDepth 100000 in
theorem c_CR_step_ok (l : Launch) (D : va_G) (t : Nat → ClassId) (sz : Nat) (h0 xr xn nr nn : Nat) (j rc ra n : Nat) (gb kd sc : Int32) (sg dg : UInt64) (g f : Nat → Option Nat) (hj : j < nr) (hn : nr ≤ 10) (hf : g j = some rc) (ht : ¬ fK (nI n) gb = 0) (hk : okS kd sc sg dg) (hn2 : n < 12) : Met l yX4_step wsX4_step ({ frames := 2, cells := 1, slots := 4, locals := 38 } : Room) (va_Pc [.ref h0, .int (nI j), .int kd, .int sc, .double sg, .double dg] (yS D t sz [(h0, .inr (4, [.ref xr, .ref xn, .int (nI nr), .int (nI nn)])), (xr, .inl (t 3, 10, .inr (.inr (.inr (.inr (g)))))), (rc, .inr (0, [.ref ra, .int (nI n), .int gb])), (ra, .inl (t 6, 12, .inr (.inr (.inr (.inr (f))))))])) (va_Qi (fun (x : Int32) (u : Nat) => x = 1) (fun (u : Nat) tt => yB D t (va_A [(h0, .inr (4, [.ref xr, .ref xn, .int (nI nr), .int (nI nn)])), (xr, .inl (t 3, 10, .inr (.inr (.inr (.inr (g)))))), (rc, .inr (0, [.ref ra, .int (nI n), .int gb])), (ra, .inl (t 6, 12, .inr (.inr (.inr (.inr (f))))))] sz) [(h0, .inr (4, [.ref xr, .ref xn, .int (nI nr), .int (nI nn)])), (xr, .inl (t 3, 10, .inr (.inr (.inr (.inr (g)))))), (rc, .inr (0, [.ref ra, .int (nI n + 1), .int gb])), (ra, .inl (t 6, 12, .inr (.inr (.inr (.inr (va_up f n (some u))))))), (u, .inr (3, [.int kd, .int sc, .double sg, .double dg]))] tt) (va_A [(h0, .inr (4, [.ref xr, .ref xn, .int (nI nr), .int (nI nn)])), (xr, .inl (t 3, 10, .inr (.inr (.inr (.inr (g)))))), (rc, .inr (0, [.ref ra, .int (nI n), .int gb])), (ra, .inl (t 6, 12, .inr (.inr (.inr (.inr (f))))))] sz)) 1 4 (va_A [(h0, .inr (4, [.ref xr, .ref xn, .int (nI nr), .int (nI nn)])), (xr, .inl (t 3, 10, .inr (.inr (.inr (.inr (g)))))), (rc, .inr (0, [.ref ra, .int (nI n), .int gb])), (ra, .inl (t 6, 12, .inr (.inr (.inr (.inr (f))))))] sz) := by
  refine y_ofW (wc := [(h0, .inr (4, [.ref xr, .ref xn, .int (nI nr), .int (nI nn)])), (xr, .inl (t 3, 10, .inr (.inr (.inr (.inr (g)))))), (rc, .inr (0, [.ref ra, .int (nI n), .int gb])), (ra, .inl (t 6, 12, .inr (.inr (.inr (.inr (f))))))]) (Qc := fun A => va_Qi (fun (x : Int32) (u : Nat) => x = 1) (fun (u : Nat) tt => yB D t A [(h0, .inr (4, [.ref xr, .ref xn, .int (nI nr), .int (nI nn)])), (xr, .inl (t 3, 10, .inr (.inr (.inr (.inr (g)))))), (rc, .inr (0, [.ref ra, .int (nI n + 1), .int gb])), (ra, .inl (t 6, 12, .inr (.inr (.inr (.inr (va_up f n (some u))))))), (u, .inr (3, [.int kd, .int sc, .double sg, .double dg]))] tt) A) (cc := cX4_step) (maxL := 9) (ret := (some .boolean)) (by decide) rfl (Nat.le_of_ble_eq_true rfl) (fun p e s m below meth c A ls hx hb hr hts hlocks hml hown hnm hA hKK hP hD hS hl => ?_)
  have hK := hKK.1
  have hSF : CallFix p m c cX4_step 9 s _ wsX4_step RX4 := ⟨hx, hb, hml, hown, hts⟩
  have hl : lv_has ls 9 [(0, .ref h0), (1, .int (nI j)), (2, .int kd), (3, .int sc), (4, .double sg), (6, .double dg)] := hl
  refine lv_aload_n hx hb dX4_step_0 rfl (lv_at hl 0 rfl) ?_
  refine lv_iload_n hx hb dX4_step_1 rfl (lv_at hl 1 rfl) ?_
  refine y_Vq (As := [.int (nI j)]) (rest := []) (wc := [(h0, .inr (4, [.ref xr, .ref xn, .int (nI nr), .int (nI nn)])), (xr, .inl (t 3, 10, .inr (.inr (.inr (.inr (g))))))]) (wr := [(rc, .inr (0, [.ref ra, .int (nI n), .int gb])), (ra, .inl (t 6, 12, .inr (.inr (.inr (.inr (f))))))]) [0, 1] [2, 3] hSF (c_CR_recipeAt_at l D t s.heap.size h0 xr xn nr nn j rc g hj hn hf) (cwV 1 hts gX4_step_X4_recipeAt rfl rfl rfl (by decide +kernel) ⟨Nat.le_of_ble_eq_true rfl, Nat.le_of_ble_eq_true rfl⟩) hKK hP hD hS hA rfl rfl (by decide) (by decide) (by decide) (fs := [.ref xr, .ref xn, .int (nI nr), .int (nI nn)]) (ci := 4) rfl rfl rfl rfl hl.1 rfl (Nat.le_of_ble_eq_true rfl) dX4_step_2 ⟨Nat.le_of_ble_eq_true rfl, Nat.le_of_ble_eq_true rfl⟩ (fun x u H locs hw2 hP hD hS => ?_)
  obtain rfl : x = some rc := hw2
  refine W.eq (g2 := F0 m 5 ls [.ref rc]) rfl ?_
  have hP : va_P D vwCl [(rc, .inr (0, [.ref ra, .int (nI n), .int gb])), (ra, .inl (t 6, 12, .inr (.inr (.inr (.inr (f)))))), (h0, .inr (4, [.ref xr, .ref xn, .int (nI nr), .int (nI nn)])), (xr, .inl (t 3, 10, .inr (.inr (.inr (.inr (g))))))] H := hP
  have hD : va_D A [(rc, .inr (0, [.ref ra, .int (nI n), .int gb])), (ra, .inl (t 6, 12, .inr (.inr (.inr (.inr (f)))))), (h0, .inr (4, [.ref xr, .ref xn, .int (nI nr), .int (nI nn)])), (xr, .inl (t 3, 10, .inr (.inr (.inr (.inr (g))))))] := hD
  refine lv_astore (lv' := [(8, .ref rc), (0, .ref h0), (1, .int (nI j)), (2, .int kd), (3, .int sc), (4, .double sg), (6, .double dg)]) hx hb dX4_step_5 hl (by decide) rfl (fun ls hl => ?_)
  refine lv_aload hx hb dX4_step_7 (lv_at hl 0 rfl) ?_
  refine lv_ifnull hx hb dX4_step_9 ?_
  refine lv_aload hx hb dX4_step_12 (lv_at hl 0 rfl) ?_
  refine y_Vi (As := []) (rest := []) (wc := [(rc, .inr (0, [.ref ra, .int (nI n), .int gb])), (ra, .inl (t 6, 12, .inr (.inr (.inr (.inr (f))))))]) (wr := [(h0, .inr (4, [.ref xr, .ref xn, .int (nI nr), .int (nI nn)])), (xr, .inl (t 3, 10, .inr (.inr (.inr (.inr (g))))))]) [0, 1] [2, 3] hSF (c_Recipe_takes l D t H.size rc ra (nI n) gb f ) (cwV 0 hts gX4_step_X0_takesAStep rfl rfl rfl (by decide +kernel) ⟨Nat.le_of_ble_eq_true rfl, Nat.le_of_ble_eq_true rfl⟩) hKK hP hD hS hA rfl rfl (by decide) (by decide) (by decide) (fs := [.ref ra, .int (nI n), .int gb]) (ci := 0) rfl rfl rfl rfl hl.1 rfl (Nat.le_of_ble_eq_true rfl) dX4_step_14 ⟨Nat.le_of_ble_eq_true rfl, Nat.le_of_ble_eq_true rfl⟩ (fun x u H locs hw14 hP hD hS => ?_)
  obtain rfl : x = (fK (nI n) gb) := hw14
  have hP : va_P D vwCl [(h0, .inr (4, [.ref xr, .ref xn, .int (nI nr), .int (nI nn)])), (xr, .inl (t 3, 10, .inr (.inr (.inr (.inr (g)))))), (rc, .inr (0, [.ref ra, .int (nI n), .int gb])), (ra, .inl (t 6, 12, .inr (.inr (.inr (.inr (f))))))] H := hP
  have hD : va_D A [(h0, .inr (4, [.ref xr, .ref xn, .int (nI nr), .int (nI nn)])), (xr, .inl (t 3, 10, .inr (.inr (.inr (.inr (g)))))), (rc, .inr (0, [.ref ra, .int (nI n), .int gb])), (ra, .inl (t 6, 12, .inr (.inr (.inr (.inr (f))))))] := hD
  refine lv_if_ne (tgt := 22) hx hb dX4_step_17 (by decide) (fun _ => ?_) (fun hc9 => absurd hc9 (ht))
  refine lv_iload_n hx hb dX4_step_22 rfl (lv_at hl 3 rfl) ?_
  refine lv_if_lt (tgt := 43) hx hb dX4_step_23 (by decide) (fun hc9 => absurd hc9 (hk.1)) (fun _ => ?_)
  refine lv_iload_n hx hb dX4_step_26 rfl (lv_at hl 3 rfl) ?_
  refine lv_iconst (v := 4) hx hb dX4_step_27 (by decide) ?_
  refine lv_icmp_gt (tgt := 43) hx hb dX4_step_28 (by decide) (fun hc9 => absurd hc9 (hk.2.1)) (fun _ => ?_)
  refine lv_iload_n hx hb dX4_step_31 rfl (lv_at hl 4 rfl) ?_
  refine lv_iconst (v := 1) hx hb dX4_step_32 (by decide) ?_
  refine lv_icmp_lt (tgt := 43) hx hb dX4_step_33 (by decide) (fun hc9 => absurd hc9 (hk.2.2.1)) (fun _ => ?_)
  refine lv_iload_n hx hb dX4_step_36 rfl (lv_at hl 4 rfl) ?_
  refine lv_sipush (v := 3600) hx hb dX4_step_37 (by decide) ?_
  refine lv_icmp_le (tgt := 45) hx hb dX4_step_40 (by decide) (fun _ => ?_) (fun hc9 => absurd (hk.2.2.2.1) hc9)
  refine lv_dload hx hb dX4_step_45 (lv_at hl 5 rfl) ?_
  refine lv_dconst0 hx hb dX4_step_47 ?_
  refine lv_ldc2d (v := 4636737291354636288) hx hb hown (hts _ mw_X4_step_constantDoubleCleanRuns374636737291354636288) dX4_step_48 ?_
  refine y_Si (As := [.double sg, .double FP.dconst0, .double 4636737291354636288]) (rest := []) hSF (c_within l sg FP.dconst0 4636737291354636288 ) (va_cwS 3 hts gX4_step_X4_within rfl rfl rfl (by decide +kernel) ⟨Nat.le_of_ble_eq_true rfl, Nat.le_of_ble_eq_true rfl⟩) hP hD hS rfl hl.1 rfl (Nat.le_of_ble_eq_true rfl) dX4_step_51 ⟨Nat.le_of_ble_eq_true rfl, Nat.le_of_ble_eq_true rfl⟩ (fun x H locs hw51 hP hS => ?_)
  obtain rfl : x = (fB sg FP.dconst0 4636737291354636288) := hw51
  refine lv_if_eq (tgt := 69) hx hb dX4_step_54 (by decide) (fun hc9 => absurd hc9 (hk.2.2.2.2.1)) (fun _ => ?_)
  refine lv_dload hx hb dX4_step_57 (lv_at hl 6 rfl) ?_
  refine lv_dconst0 hx hb dX4_step_59 ?_
  refine lv_ldc2d (v := 4639481672377565184) hx hb hown (hts _ mw_X4_step_constantDoubleCleanRuns434639481672377565184) dX4_step_60 ?_
  refine y_Si (As := [.double dg, .double FP.dconst0, .double 4639481672377565184]) (rest := []) hSF (c_within l dg FP.dconst0 4639481672377565184 ) (va_cwS 3 hts gX4_step_X4_within rfl rfl rfl (by decide +kernel) ⟨Nat.le_of_ble_eq_true rfl, Nat.le_of_ble_eq_true rfl⟩) hP hD hS rfl hl.1 rfl (Nat.le_of_ble_eq_true rfl) dX4_step_63 ⟨Nat.le_of_ble_eq_true rfl, Nat.le_of_ble_eq_true rfl⟩ (fun x H locs hw63 hP hS => ?_)
  obtain rfl : x = (fB dg FP.dconst0 4639481672377565184) := hw63
  refine lv_if_ne (tgt := 71) hx hb dX4_step_66 (by decide) (fun _ => ?_) (fun hc9 => absurd hc9 (hk.2.2.2.2.2))
  refine lv_aload hx hb dX4_step_71 (lv_at hl 0 rfl) ?_
  refine va_new (ci := 3) (fs := [.int 0, .int 0, .double 0, .double 0]) (C := RX3) (T := TX3) (N := 4) hx hb hts mc_X4_step_3 tyX3 tyX3_ok hown (hts _ mw_X4_step_classLinkCleanRuns45CleanRunsStep) (hts _ mw_X4_step_instantiableCleanRunsStep4) (hts _ mw_X4_step_initializedCleanRunsStep) hK hP hD hS hA rfl (fun j hj => by rcases (show j = 0 ∨ j = 1 ∨ j = 2 ∨ j = 3 by omega) with rfl | rfl | rfl | rfl <;> rfl) (Nat.le_of_ble_eq_true rfl) (Nat.le_of_ble_eq_true rfl) dX4_step_73 (fun q73 H hP hD hS => ?_)
  have hP : va_P D vwCl [(h0, .inr (4, [.ref xr, .ref xn, .int (nI nr), .int (nI nn)])), (xr, .inl (t 3, 10, .inr (.inr (.inr (.inr (g)))))), (rc, .inr (0, [.ref ra, .int (nI n), .int gb])), (ra, .inl (t 6, 12, .inr (.inr (.inr (.inr (f)))))), (q73, .inr (3, [.int 0, .int 0, .double 0, .double 0]))] H := hP
  have hD : va_D A [(h0, .inr (4, [.ref xr, .ref xn, .int (nI nr), .int (nI nn)])), (xr, .inl (t 3, 10, .inr (.inr (.inr (.inr (g)))))), (rc, .inr (0, [.ref ra, .int (nI n), .int gb])), (ra, .inl (t 6, 12, .inr (.inr (.inr (.inr (f)))))), (q73, .inr (3, [.int 0, .int 0, .double 0, .double 0]))] := hD
  refine lv_dup hx hb dX4_step_76 rfl ?_
  refine lv_iload_n hx hb dX4_step_77 rfl (lv_at hl 3 rfl) ?_
  refine lv_iload_n hx hb dX4_step_78 rfl (lv_at hl 4 rfl) ?_
  refine lv_dload hx hb dX4_step_79 (lv_at hl 5 rfl) ?_
  refine lv_dload hx hb dX4_step_81 (lv_at hl 6 rfl) ?_
  refine y_Iv (As := [.int kd, .int sc, .double sg, .double dg]) (rest := [.ref q73, .ref rc]) (wc := [(q73, .inr (3, [.int 0, .int 0, .double 0, .double 0]))]) (wr := [(h0, .inr (4, [.ref xr, .ref xn, .int (nI nr), .int (nI nn)])), (xr, .inl (t 3, 10, .inr (.inr (.inr (.inr (g)))))), (rc, .inr (0, [.ref ra, .int (nI n), .int gb])), (ra, .inl (t 6, 12, .inr (.inr (.inr (.inr (f))))))]) [4] [0, 1, 2, 3] hSF (c_Step_init l D t H.size q73 kd sc sg dg ) (cwI 4 hts gX4_step_X3_init rfl rfl rfl (hts _ mw_X4_step_initializedCleanRunsStep) (hts _ mw_X4_step_methodLinkCleanRuns47CleanRunsStepinitIIDDV) (hts _ mw_X4_step_instanceMethodCleanRunsStepinitIIDDV) rfl (by decide +kernel) ⟨Nat.le_of_ble_eq_true rfl, Nat.le_of_ble_eq_true rfl⟩) hKK hP hD hS hA rfl rfl (by decide) (by decide) (by decide) rfl hl.1 rfl (Nat.le_of_ble_eq_true rfl) dX4_step_83 ⟨Nat.le_of_ble_eq_true rfl, Nat.le_of_ble_eq_true rfl⟩ (fun u H locs hw83 hP hD hS => ?_)
  have hP : va_P D vwCl [(h0, .inr (4, [.ref xr, .ref xn, .int (nI nr), .int (nI nn)])), (xr, .inl (t 3, 10, .inr (.inr (.inr (.inr (g)))))), (rc, .inr (0, [.ref ra, .int (nI n), .int gb])), (ra, .inl (t 6, 12, .inr (.inr (.inr (.inr (f)))))), (q73, .inr (3, [.int kd, .int sc, .double sg, .double dg]))] H := hP
  have hD : va_D A [(h0, .inr (4, [.ref xr, .ref xn, .int (nI nr), .int (nI nn)])), (xr, .inl (t 3, 10, .inr (.inr (.inr (.inr (g)))))), (rc, .inr (0, [.ref ra, .int (nI n), .int gb])), (ra, .inl (t 6, 12, .inr (.inr (.inr (.inr (f)))))), (q73, .inr (3, [.int kd, .int sc, .double sg, .double dg]))] := hD
  refine y_Vv (As := [.ref q73]) (rest := []) (wc := [(rc, .inr (0, [.ref ra, .int (nI n), .int gb])), (ra, .inl (t 6, 12, .inr (.inr (.inr (.inr (f)))))), (q73, .inr (3, [.int kd, .int sc, .double sg, .double dg]))]) (wr := [(h0, .inr (4, [.ref xr, .ref xn, .int (nI nr), .int (nI nn)])), (xr, .inl (t 3, 10, .inr (.inr (.inr (.inr (g))))))]) [2, 3, 4] [0, 1] hSF (c_Recipe_append l D t H.size rc ra q73 n gb f kd sc sg dg hn2) (cwV 1 hts gX4_step_X0_append rfl rfl rfl (by decide +kernel) ⟨Nat.le_of_ble_eq_true rfl, Nat.le_of_ble_eq_true rfl⟩) hKK hP hD hS hA rfl rfl (by decide) (by decide) (by decide) (fs := [.ref ra, .int (nI n), .int gb]) (ci := 0) rfl rfl rfl rfl hl.1 rfl (Nat.le_of_ble_eq_true rfl) dX4_step_86 ⟨Nat.le_of_ble_eq_true rfl, Nat.le_of_ble_eq_true rfl⟩ (fun u H locs hw86 hP hD hS => ?_)
  have hP : va_P D vwCl [(h0, .inr (4, [.ref xr, .ref xn, .int (nI nr), .int (nI nn)])), (xr, .inl (t 3, 10, .inr (.inr (.inr (.inr (g)))))), (rc, .inr (0, [.ref ra, .int (nI n + 1), .int gb])), (ra, .inl (t 6, 12, .inr (.inr (.inr (.inr (va_up f n (some q73))))))), (q73, .inr (3, [.int kd, .int sc, .double sg, .double dg]))] H := hP
  have hD : va_D A [(h0, .inr (4, [.ref xr, .ref xn, .int (nI nr), .int (nI nn)])), (xr, .inl (t 3, 10, .inr (.inr (.inr (.inr (g)))))), (rc, .inr (0, [.ref ra, .int (nI n + 1), .int gb])), (ra, .inl (t 6, 12, .inr (.inr (.inr (.inr (va_up f n (some q73))))))), (q73, .inr (3, [.int kd, .int sc, .double sg, .double dg]))] := hD
  refine lv_iconst (v := 1) hx hb dX4_step_89 (by decide) ?_
  have hP9 : va_P D vwCl [(h0, .inr (4, [.ref xr, .ref xn, .int (nI nr), .int (nI nn)])), (xr, .inl (t 3, 10, .inr (.inr (.inr (.inr (g)))))), (rc, .inr (0, [.ref ra, .int (nI n + 1), .int gb])), (ra, .inl (t 6, 12, .inr (.inr (.inr (.inr (va_up f n (some q73))))))), (q73, .inr (3, [.int kd, .int sc, .double sg, .double dg]))] _ := hP.sub [0, 1, 2, 3, 4] rfl
  have hD9 : va_D A [(h0, .inr (4, [.ref xr, .ref xn, .int (nI nr), .int (nI nn)])), (xr, .inl (t 3, 10, .inr (.inr (.inr (.inr (g)))))), (rc, .inr (0, [.ref ra, .int (nI n + 1), .int gb])), (ra, .inl (t 6, 12, .inr (.inr (.inr (.inr (va_up f n (some q73))))))), (q73, .inr (3, [.int kd, .int sc, .double sg, .double dg]))] := hD.sub [0, 1, 2, 3, 4] (by decide) rfl
  exact W.zret (v := 1) hx hb hr (by decide) (fun tt ht hW => ⟨⟨1, q73, rfl, rfl, by rw [ht]; exact hP9, hKK.moved hW.alike, hD9⟩, hS.F ht⟩) hS.2.2 dX4_step_90
set_option maxHeartbeats 4000000 in
set_option maxRecDepth 100000 in
theorem c_CR_start_no (l : Launch) (D : va_G) (t : Nat → ClassId) (sz : Nat) (h0 xr xn nr nn : Nat) (k lv : Int32) (hk : k < 0 ∨ nI nr ≤ k) : Met l yX4_start wsX4_start ({ frames := 3, cells := 3, slots := 33, locals := 57 } : Room) (va_Pc [.ref h0, .int k, .int lv] (yS D t sz [(h0, .inr (4, [.ref xr, .ref xn, .int (nI nr), .int (nI nn)]))])) (va_Qi (fun (x : Int32) (u : Unit) => x = (-1)) (fun (u : Unit) tt => yB D t (va_A [(h0, .inr (4, [.ref xr, .ref xn, .int (nI nr), .int (nI nn)]))] sz) [(h0, .inr (4, [.ref xr, .ref xn, .int (nI nr), .int (nI nn)]))] tt) (va_A [(h0, .inr (4, [.ref xr, .ref xn, .int (nI nr), .int (nI nn)]))] sz)) 3 33 (va_A [(h0, .inr (4, [.ref xr, .ref xn, .int (nI nr), .int (nI nn)]))] sz) := by
  refine y_ofW (wc := [(h0, .inr (4, [.ref xr, .ref xn, .int (nI nr), .int (nI nn)]))]) (Qc := fun A => va_Qi (fun (x : Int32) (u : Unit) => x = (-1)) (fun (u : Unit) tt => yB D t A [(h0, .inr (4, [.ref xr, .ref xn, .int (nI nr), .int (nI nn)]))] tt) A) (cc := cX4_start) (maxL := 6) (ret := (some .int)) (by decide) rfl (Nat.le_of_ble_eq_true rfl) (fun p e s m below meth c A ls hx hb hr hts hlocks hml hown hnm hA hKK hP hD hS hl => ?_)
  have hK := hKK.1
  have hSF : CallFix p m c cX4_start 6 s _ wsX4_start RX4 := ⟨hx, hb, hml, hown, hts⟩
  have hl : lv_has ls 6 [(0, .ref h0), (1, .int k), (2, .int lv)] := hl
  refine lv_aload_n hx hb dX4_start_0 rfl (lv_at hl 0 rfl) ?_
  refine lv_iload_n hx hb dX4_start_1 rfl (lv_at hl 1 rfl) ?_
  refine y_Vq (As := [.int k]) (rest := []) (wc := [(h0, .inr (4, [.ref xr, .ref xn, .int (nI nr), .int (nI nn)]))]) (wr := []) [0] [] hSF (c_CR_recipeAt_no l D t s.heap.size h0 xr xn nr nn k hk) (cwV 1 hts gX4_start_X4_recipeAt rfl rfl rfl (by decide +kernel) ⟨Nat.le_of_ble_eq_true rfl, Nat.le_of_ble_eq_true rfl⟩) hKK hP hD hS hA rfl rfl (by decide) (by decide) (by decide) (fs := [.ref xr, .ref xn, .int (nI nr), .int (nI nn)]) (ci := 4) rfl rfl rfl rfl hl.1 rfl (Nat.le_of_ble_eq_true rfl) dX4_start_2 ⟨Nat.le_of_ble_eq_true rfl, Nat.le_of_ble_eq_true rfl⟩ (fun x u H locs hw2 hP hD hS => ?_)
  obtain rfl : x = none := hw2
  refine W.eq (g2 := F0 m 5 ls [.null]) rfl ?_
  have hP : va_P D vwCl [(h0, .inr (4, [.ref xr, .ref xn, .int (nI nr), .int (nI nn)]))] H := hP
  have hD : va_D A [(h0, .inr (4, [.ref xr, .ref xn, .int (nI nr), .int (nI nn)]))] := hD
  refine lv_astore_nN (lv' := [(3, .null), (0, .ref h0), (1, .int k), (2, .int lv)]) hx hb dX4_start_5 rfl hl (by decide) rfl (fun ls hl => ?_)
  refine lv_aload_nN hx hb dX4_start_6 rfl (lv_at hl 0 rfl) ?_
  refine lv_ifnullN (tgt := 21) hx hb dX4_start_7 (by decide) ?_
  refine lv_iconst (v := -1) hx hb dX4_start_21 (by decide) ?_
  have hP9 : va_P D vwCl [(h0, .inr (4, [.ref xr, .ref xn, .int (nI nr), .int (nI nn)]))] _ := hP.sub [0] rfl
  have hD9 : va_D A [(h0, .inr (4, [.ref xr, .ref xn, .int (nI nr), .int (nI nn)]))] := hD.sub [0] (by decide) rfl
  refine W.widen (k := 3) (n := 33) (by decide) (by decide) ?_
  exact W.iret (v := (-1)) hx hb hr (fun tt ht hW => ⟨⟨(-1), (), rfl, rfl, by rw [ht]; exact hP9, hKK.moved hW.alike, hD9⟩, hS.F ht⟩) hS.2.2 dX4_start_22
set_option maxHeartbeats 4000000 in
set_option maxRecDepth 100000 in
theorem c_CR_start_bad (l : Launch) (D : va_G) (t : Nat → ClassId) (sz : Nat) (h0 xr xn nr nn : Nat) (j rc : Nat) (lv : Int32) (g : Nat → Option Nat) (hj : j < nr) (hn : nr ≤ 10) (hf : g j = some rc) (hb9 : lv < 1 ∨ ¬ lv ≤ 9) : Met l yX4_start wsX4_start ({ frames := 3, cells := 3, slots := 33, locals := 57 } : Room) (va_Pc [.ref h0, .int (nI j), .int lv] (yS D t sz [(h0, .inr (4, [.ref xr, .ref xn, .int (nI nr), .int (nI nn)])), (xr, .inl (t 3, 10, .inr (.inr (.inr (.inr (g))))))])) (va_Qi (fun (x : Int32) (u : Unit) => x = (-1)) (fun (u : Unit) tt => yB D t (va_A [(h0, .inr (4, [.ref xr, .ref xn, .int (nI nr), .int (nI nn)])), (xr, .inl (t 3, 10, .inr (.inr (.inr (.inr (g))))))] sz) [(h0, .inr (4, [.ref xr, .ref xn, .int (nI nr), .int (nI nn)])), (xr, .inl (t 3, 10, .inr (.inr (.inr (.inr (g))))))] tt) (va_A [(h0, .inr (4, [.ref xr, .ref xn, .int (nI nr), .int (nI nn)])), (xr, .inl (t 3, 10, .inr (.inr (.inr (.inr (g))))))] sz)) 3 33 (va_A [(h0, .inr (4, [.ref xr, .ref xn, .int (nI nr), .int (nI nn)])), (xr, .inl (t 3, 10, .inr (.inr (.inr (.inr (g))))))] sz) := by
  refine y_ofW (wc := [(h0, .inr (4, [.ref xr, .ref xn, .int (nI nr), .int (nI nn)])), (xr, .inl (t 3, 10, .inr (.inr (.inr (.inr (g))))))]) (Qc := fun A => va_Qi (fun (x : Int32) (u : Unit) => x = (-1)) (fun (u : Unit) tt => yB D t A [(h0, .inr (4, [.ref xr, .ref xn, .int (nI nr), .int (nI nn)])), (xr, .inl (t 3, 10, .inr (.inr (.inr (.inr (g))))))] tt) A) (cc := cX4_start) (maxL := 6) (ret := (some .int)) (by decide) rfl (Nat.le_of_ble_eq_true rfl) (fun p e s m below meth c A ls hx hb hr hts hlocks hml hown hnm hA hKK hP hD hS hl => ?_)
  have hK := hKK.1
  have hSF : CallFix p m c cX4_start 6 s _ wsX4_start RX4 := ⟨hx, hb, hml, hown, hts⟩
  have hl : lv_has ls 6 [(0, .ref h0), (1, .int (nI j)), (2, .int lv)] := hl
  refine lv_aload_n hx hb dX4_start_0 rfl (lv_at hl 0 rfl) ?_
  refine lv_iload_n hx hb dX4_start_1 rfl (lv_at hl 1 rfl) ?_
  refine y_Vq (As := [.int (nI j)]) (rest := []) (wc := [(h0, .inr (4, [.ref xr, .ref xn, .int (nI nr), .int (nI nn)])), (xr, .inl (t 3, 10, .inr (.inr (.inr (.inr (g))))))]) (wr := []) [0, 1] [] hSF (c_CR_recipeAt_at l D t s.heap.size h0 xr xn nr nn j rc g hj hn hf) (cwV 1 hts gX4_start_X4_recipeAt rfl rfl rfl (by decide +kernel) ⟨Nat.le_of_ble_eq_true rfl, Nat.le_of_ble_eq_true rfl⟩) hKK hP hD hS hA rfl rfl (by decide) (by decide) (by decide) (fs := [.ref xr, .ref xn, .int (nI nr), .int (nI nn)]) (ci := 4) rfl rfl rfl rfl hl.1 rfl (Nat.le_of_ble_eq_true rfl) dX4_start_2 ⟨Nat.le_of_ble_eq_true rfl, Nat.le_of_ble_eq_true rfl⟩ (fun x u H locs hw2 hP hD hS => ?_)
  obtain rfl : x = some rc := hw2
  refine W.eq (g2 := F0 m 5 ls [.ref rc]) rfl ?_
  have hP : va_P D vwCl [(h0, .inr (4, [.ref xr, .ref xn, .int (nI nr), .int (nI nn)])), (xr, .inl (t 3, 10, .inr (.inr (.inr (.inr (g))))))] H := hP
  have hD : va_D A [(h0, .inr (4, [.ref xr, .ref xn, .int (nI nr), .int (nI nn)])), (xr, .inl (t 3, 10, .inr (.inr (.inr (.inr (g))))))] := hD
  refine lv_astore_n (lv' := [(3, .ref rc), (0, .ref h0), (1, .int (nI j)), (2, .int lv)]) hx hb dX4_start_5 rfl hl (by decide) rfl (fun ls hl => ?_)
  refine lv_aload_n hx hb dX4_start_6 rfl (lv_at hl 0 rfl) ?_
  refine lv_ifnull hx hb dX4_start_7 ?_
  refine lv_iload_n hx hb dX4_start_10 rfl (lv_at hl 3 rfl) ?_
  refine lv_iconst (v := 1) hx hb dX4_start_11 (by decide) ?_
  refine lv_icmp_lt (tgt := 21) hx hb dX4_start_12 (by decide) (fun c_12_0 => ?_) (fun c_12_0 => ?_)
  · refine lv_iconst (v := -1) hx hb dX4_start_21 (by decide) ?_
    have hP9 : va_P D vwCl [(h0, .inr (4, [.ref xr, .ref xn, .int (nI nr), .int (nI nn)])), (xr, .inl (t 3, 10, .inr (.inr (.inr (.inr (g))))))] _ := hP.sub [0, 1] rfl
    have hD9 : va_D A [(h0, .inr (4, [.ref xr, .ref xn, .int (nI nr), .int (nI nn)])), (xr, .inl (t 3, 10, .inr (.inr (.inr (.inr (g))))))] := hD.sub [0, 1] (by decide) rfl
    refine W.widen (k := 3) (n := 33) (by decide) (by decide) ?_
    exact W.iret (v := (-1)) hx hb hr (fun tt ht hW => ⟨⟨(-1), (), rfl, rfl, by rw [ht]; exact hP9, hKK.moved hW.alike, hD9⟩, hS.F ht⟩) hS.2.2 dX4_start_22
  · refine lv_iload_n hx hb dX4_start_15 rfl (lv_at hl 3 rfl) ?_
    refine lv_bipush (v := 9) hx hb dX4_start_16 (by decide) ?_
    refine lv_icmp_le (tgt := 23) hx hb dX4_start_18 (by decide) (fun hc9 => absurd hc9 (hb9.resolve_left c_12_0)) (fun _ => ?_)
    refine lv_iconst (v := -1) hx hb dX4_start_21 (by decide) ?_
    have hP9 : va_P D vwCl [(h0, .inr (4, [.ref xr, .ref xn, .int (nI nr), .int (nI nn)])), (xr, .inl (t 3, 10, .inr (.inr (.inr (.inr (g))))))] _ := hP.sub [0, 1] rfl
    have hD9 : va_D A [(h0, .inr (4, [.ref xr, .ref xn, .int (nI nr), .int (nI nn)])), (xr, .inl (t 3, 10, .inr (.inr (.inr (.inr (g))))))] := hD.sub [0, 1] (by decide) rfl
    refine W.widen (k := 3) (n := 33) (by decide) (by decide) ?_
    exact W.iret (v := (-1)) hx hb hr (fun tt ht hW => ⟨⟨(-1), (), rfl, rfl, by rw [ht]; exact hP9, hKK.moved hW.alike, hD9⟩, hS.F ht⟩) hS.2.2 dX4_start_22
set_option maxHeartbeats 4000000 in
set_option maxRecDepth 100000 in
theorem c_CR_start_empty (l : Launch) (D : va_G) (t : Nat → ClassId) (sz : Nat) (h0 xr xn nr nn : Nat) (j rc ra n : Nat) (gb lv : Int32) (g f : Nat → Option Nat) (hj : j < nr) (hn : nr ≤ 10) (hf : g j = some rc) (hl1 : ¬ lv < 1) (hl9 : lv ≤ 9) (hz : n = 0) : Met l yX4_start wsX4_start ({ frames := 3, cells := 3, slots := 33, locals := 57 } : Room) (va_Pc [.ref h0, .int (nI j), .int lv] (yS D t sz [(h0, .inr (4, [.ref xr, .ref xn, .int (nI nr), .int (nI nn)])), (xr, .inl (t 3, 10, .inr (.inr (.inr (.inr (g)))))), (rc, .inr (0, [.ref ra, .int (nI n), .int gb])), (ra, .inl (t 6, 12, .inr (.inr (.inr (.inr (f))))))])) (va_Qi (fun (x : Int32) (u : Unit) => x = (-1)) (fun (u : Unit) tt => yB D t (va_A [(h0, .inr (4, [.ref xr, .ref xn, .int (nI nr), .int (nI nn)])), (xr, .inl (t 3, 10, .inr (.inr (.inr (.inr (g)))))), (rc, .inr (0, [.ref ra, .int (nI n), .int gb])), (ra, .inl (t 6, 12, .inr (.inr (.inr (.inr (f))))))] sz) [(h0, .inr (4, [.ref xr, .ref xn, .int (nI nr), .int (nI nn)])), (xr, .inl (t 3, 10, .inr (.inr (.inr (.inr (g)))))), (rc, .inr (0, [.ref ra, .int (nI n), .int gb])), (ra, .inl (t 6, 12, .inr (.inr (.inr (.inr (f))))))] tt) (va_A [(h0, .inr (4, [.ref xr, .ref xn, .int (nI nr), .int (nI nn)])), (xr, .inl (t 3, 10, .inr (.inr (.inr (.inr (g)))))), (rc, .inr (0, [.ref ra, .int (nI n), .int gb])), (ra, .inl (t 6, 12, .inr (.inr (.inr (.inr (f))))))] sz)) 3 33 (va_A [(h0, .inr (4, [.ref xr, .ref xn, .int (nI nr), .int (nI nn)])), (xr, .inl (t 3, 10, .inr (.inr (.inr (.inr (g)))))), (rc, .inr (0, [.ref ra, .int (nI n), .int gb])), (ra, .inl (t 6, 12, .inr (.inr (.inr (.inr (f))))))] sz) := by
  refine y_ofW (wc := [(h0, .inr (4, [.ref xr, .ref xn, .int (nI nr), .int (nI nn)])), (xr, .inl (t 3, 10, .inr (.inr (.inr (.inr (g)))))), (rc, .inr (0, [.ref ra, .int (nI n), .int gb])), (ra, .inl (t 6, 12, .inr (.inr (.inr (.inr (f))))))]) (Qc := fun A => va_Qi (fun (x : Int32) (u : Unit) => x = (-1)) (fun (u : Unit) tt => yB D t A [(h0, .inr (4, [.ref xr, .ref xn, .int (nI nr), .int (nI nn)])), (xr, .inl (t 3, 10, .inr (.inr (.inr (.inr (g)))))), (rc, .inr (0, [.ref ra, .int (nI n), .int gb])), (ra, .inl (t 6, 12, .inr (.inr (.inr (.inr (f))))))] tt) A) (cc := cX4_start) (maxL := 6) (ret := (some .int)) (by decide) rfl (Nat.le_of_ble_eq_true rfl) (fun p e s m below meth c A ls hx hb hr hts hlocks hml hown hnm hA hKK hP hD hS hl => ?_)
  have hK := hKK.1
  have hSF : CallFix p m c cX4_start 6 s _ wsX4_start RX4 := ⟨hx, hb, hml, hown, hts⟩
  have hl : lv_has ls 6 [(0, .ref h0), (1, .int (nI j)), (2, .int lv)] := hl
  refine lv_aload_n hx hb dX4_start_0 rfl (lv_at hl 0 rfl) ?_
  refine lv_iload_n hx hb dX4_start_1 rfl (lv_at hl 1 rfl) ?_
  refine y_Vq (As := [.int (nI j)]) (rest := []) (wc := [(h0, .inr (4, [.ref xr, .ref xn, .int (nI nr), .int (nI nn)])), (xr, .inl (t 3, 10, .inr (.inr (.inr (.inr (g))))))]) (wr := [(rc, .inr (0, [.ref ra, .int (nI n), .int gb])), (ra, .inl (t 6, 12, .inr (.inr (.inr (.inr (f))))))]) [0, 1] [2, 3] hSF (c_CR_recipeAt_at l D t s.heap.size h0 xr xn nr nn j rc g hj hn hf) (cwV 1 hts gX4_start_X4_recipeAt rfl rfl rfl (by decide +kernel) ⟨Nat.le_of_ble_eq_true rfl, Nat.le_of_ble_eq_true rfl⟩) hKK hP hD hS hA rfl rfl (by decide) (by decide) (by decide) (fs := [.ref xr, .ref xn, .int (nI nr), .int (nI nn)]) (ci := 4) rfl rfl rfl rfl hl.1 rfl (Nat.le_of_ble_eq_true rfl) dX4_start_2 ⟨Nat.le_of_ble_eq_true rfl, Nat.le_of_ble_eq_true rfl⟩ (fun x u H locs hw2 hP hD hS => ?_)
  obtain rfl : x = some rc := hw2
  refine W.eq (g2 := F0 m 5 ls [.ref rc]) rfl ?_
  have hP : va_P D vwCl [(rc, .inr (0, [.ref ra, .int (nI n), .int gb])), (ra, .inl (t 6, 12, .inr (.inr (.inr (.inr (f)))))), (h0, .inr (4, [.ref xr, .ref xn, .int (nI nr), .int (nI nn)])), (xr, .inl (t 3, 10, .inr (.inr (.inr (.inr (g))))))] H := hP
  have hD : va_D A [(rc, .inr (0, [.ref ra, .int (nI n), .int gb])), (ra, .inl (t 6, 12, .inr (.inr (.inr (.inr (f)))))), (h0, .inr (4, [.ref xr, .ref xn, .int (nI nr), .int (nI nn)])), (xr, .inl (t 3, 10, .inr (.inr (.inr (.inr (g))))))] := hD
  refine lv_astore_n (lv' := [(3, .ref rc), (0, .ref h0), (1, .int (nI j)), (2, .int lv)]) hx hb dX4_start_5 rfl hl (by decide) rfl (fun ls hl => ?_)
  refine lv_aload_n hx hb dX4_start_6 rfl (lv_at hl 0 rfl) ?_
  refine lv_ifnull hx hb dX4_start_7 ?_
  refine lv_iload_n hx hb dX4_start_10 rfl (lv_at hl 3 rfl) ?_
  refine lv_iconst (v := 1) hx hb dX4_start_11 (by decide) ?_
  refine lv_icmp_lt (tgt := 21) hx hb dX4_start_12 (by decide) (fun hc9 => absurd hc9 (hl1)) (fun _ => ?_)
  refine lv_iload_n hx hb dX4_start_15 rfl (lv_at hl 3 rfl) ?_
  refine lv_bipush (v := 9) hx hb dX4_start_16 (by decide) ?_
  refine lv_icmp_le (tgt := 23) hx hb dX4_start_18 (by decide) (fun _ => ?_) (fun hc9 => absurd (hl9) hc9)
  refine lv_aload_n hx hb dX4_start_23 rfl (lv_at hl 0 rfl) ?_
  refine lv_iconst (v := 0) hx hb dX4_start_24 (by decide) ?_
  refine y_int (nI 0) (nI_0.symm) ?_
  refine y_Vq (As := [.int (nI 0)]) (rest := []) (wc := [(rc, .inr (0, [.ref ra, .int (nI n), .int gb])), (ra, .inl (t 6, 12, .inr (.inr (.inr (.inr (f))))))]) (wr := [(h0, .inr (4, [.ref xr, .ref xn, .int (nI nr), .int (nI nn)])), (xr, .inl (t 3, 10, .inr (.inr (.inr (.inr (g))))))]) [0, 1] [2, 3] hSF (c_Recipe_stepAt_no l D t H.size rc ra n 0 gb f (by omega) (by decide)) (cwV 1 hts gX4_start_X0_stepAt rfl rfl rfl (by decide +kernel) ⟨Nat.le_of_ble_eq_true rfl, Nat.le_of_ble_eq_true rfl⟩) hKK hP hD hS hA rfl rfl (by decide) (by decide) (by decide) (fs := [.ref ra, .int (nI n), .int gb]) (ci := 0) rfl rfl rfl rfl hl.1 rfl (Nat.le_of_ble_eq_true rfl) dX4_start_25 ⟨Nat.le_of_ble_eq_true rfl, Nat.le_of_ble_eq_true rfl⟩ (fun x u H locs hw25 hP hD hS => ?_)
  obtain rfl : x = none := hw25
  refine W.eq (g2 := F0 m 28 ls [.null]) rfl ?_
  have hP : va_P D vwCl [(h0, .inr (4, [.ref xr, .ref xn, .int (nI nr), .int (nI nn)])), (xr, .inl (t 3, 10, .inr (.inr (.inr (.inr (g)))))), (rc, .inr (0, [.ref ra, .int (nI n), .int gb])), (ra, .inl (t 6, 12, .inr (.inr (.inr (.inr (f))))))] H := hP
  have hD : va_D A [(h0, .inr (4, [.ref xr, .ref xn, .int (nI nr), .int (nI nn)])), (xr, .inl (t 3, 10, .inr (.inr (.inr (.inr (g)))))), (rc, .inr (0, [.ref ra, .int (nI n), .int gb])), (ra, .inl (t 6, 12, .inr (.inr (.inr (.inr (f))))))] := hD
  refine lv_astoreN (lv' := [(4, .null), (3, .ref rc), (0, .ref h0), (1, .int (nI j)), (2, .int lv)]) hx hb dX4_start_28 hl (by decide) rfl (fun ls hl => ?_)
  refine lv_aloadN hx hb dX4_start_30 (lv_at hl 0 rfl) ?_
  refine lv_ifnonnullN hx hb dX4_start_32 ?_
  refine lv_iconst (v := -1) hx hb dX4_start_35 (by decide) ?_
  have hP9 : va_P D vwCl [(h0, .inr (4, [.ref xr, .ref xn, .int (nI nr), .int (nI nn)])), (xr, .inl (t 3, 10, .inr (.inr (.inr (.inr (g)))))), (rc, .inr (0, [.ref ra, .int (nI n), .int gb])), (ra, .inl (t 6, 12, .inr (.inr (.inr (.inr (f))))))] _ := hP.sub [0, 1, 2, 3] rfl
  have hD9 : va_D A [(h0, .inr (4, [.ref xr, .ref xn, .int (nI nr), .int (nI nn)])), (xr, .inl (t 3, 10, .inr (.inr (.inr (.inr (g)))))), (rc, .inr (0, [.ref ra, .int (nI n), .int gb])), (ra, .inl (t 6, 12, .inr (.inr (.inr (.inr (f))))))] := hD.sub [0, 1, 2, 3] (by decide) rfl
  refine W.widen (k := 3) (n := 33) (by decide) (by decide) ?_
  exact W.iret (v := (-1)) hx hb hr (fun tt ht hW => ⟨⟨(-1), (), rfl, rfl, by rw [ht]; exact hP9, hKK.moved hW.alike, hD9⟩, hS.F ht⟩) hS.2.2 dX4_start_36
set_option maxHeartbeats 4000000 in
set_option maxRecDepth 100000 in
theorem c_CR_start_full (l : Launch) (D : va_G) (t : Nat → ClassId) (sz : Nat) (h0 xr xn nr nn : Nat) (j rc ra n sp : Nat) (gb lv : Int32) (g f g2 : Nat → Option Nat) (hj : j < nr) (hn : nr ≤ 10) (hf : g j = some rc) (hl1 : ¬ lv < 1) (hl9 : lv ≤ 9) (hz : 0 < n) (hn2 : n ≤ 12) (hs : f 0 = some sp) (h30 : 30 ≤ nn) (h31 : nn < 2 ^ 31) : Met l yX4_start wsX4_start ({ frames := 3, cells := 3, slots := 33, locals := 57 } : Room) (va_Pc [.ref h0, .int (nI j), .int lv] (yS D t sz [(h0, .inr (4, [.ref xr, .ref xn, .int (nI nr), .int (nI nn)])), (xr, .inl (t 3, 10, .inr (.inr (.inr (.inr (g)))))), (rc, .inr (0, [.ref ra, .int (nI n), .int gb])), (ra, .inl (t 6, 12, .inr (.inr (.inr (.inr (f)))))), (xn, .inl (t 4, 30, .inr (.inr (.inr (.inr (g2))))))])) (va_Qi (fun (x : Int32) (u : Unit) => x = (-2)) (fun (u : Unit) tt => yB D t (va_A [(h0, .inr (4, [.ref xr, .ref xn, .int (nI nr), .int (nI nn)])), (xr, .inl (t 3, 10, .inr (.inr (.inr (.inr (g)))))), (rc, .inr (0, [.ref ra, .int (nI n), .int gb])), (ra, .inl (t 6, 12, .inr (.inr (.inr (.inr (f)))))), (xn, .inl (t 4, 30, .inr (.inr (.inr (.inr (g2))))))] sz) [(h0, .inr (4, [.ref xr, .ref xn, .int (nI nr), .int (nI nn)])), (xr, .inl (t 3, 10, .inr (.inr (.inr (.inr (g)))))), (rc, .inr (0, [.ref ra, .int (nI n), .int gb])), (ra, .inl (t 6, 12, .inr (.inr (.inr (.inr (f)))))), (xn, .inl (t 4, 30, .inr (.inr (.inr (.inr (g2))))))] tt) (va_A [(h0, .inr (4, [.ref xr, .ref xn, .int (nI nr), .int (nI nn)])), (xr, .inl (t 3, 10, .inr (.inr (.inr (.inr (g)))))), (rc, .inr (0, [.ref ra, .int (nI n), .int gb])), (ra, .inl (t 6, 12, .inr (.inr (.inr (.inr (f)))))), (xn, .inl (t 4, 30, .inr (.inr (.inr (.inr (g2))))))] sz)) 3 33 (va_A [(h0, .inr (4, [.ref xr, .ref xn, .int (nI nr), .int (nI nn)])), (xr, .inl (t 3, 10, .inr (.inr (.inr (.inr (g)))))), (rc, .inr (0, [.ref ra, .int (nI n), .int gb])), (ra, .inl (t 6, 12, .inr (.inr (.inr (.inr (f)))))), (xn, .inl (t 4, 30, .inr (.inr (.inr (.inr (g2))))))] sz) := by
  refine y_ofW (wc := [(h0, .inr (4, [.ref xr, .ref xn, .int (nI nr), .int (nI nn)])), (xr, .inl (t 3, 10, .inr (.inr (.inr (.inr (g)))))), (rc, .inr (0, [.ref ra, .int (nI n), .int gb])), (ra, .inl (t 6, 12, .inr (.inr (.inr (.inr (f)))))), (xn, .inl (t 4, 30, .inr (.inr (.inr (.inr (g2))))))]) (Qc := fun A => va_Qi (fun (x : Int32) (u : Unit) => x = (-2)) (fun (u : Unit) tt => yB D t A [(h0, .inr (4, [.ref xr, .ref xn, .int (nI nr), .int (nI nn)])), (xr, .inl (t 3, 10, .inr (.inr (.inr (.inr (g)))))), (rc, .inr (0, [.ref ra, .int (nI n), .int gb])), (ra, .inl (t 6, 12, .inr (.inr (.inr (.inr (f)))))), (xn, .inl (t 4, 30, .inr (.inr (.inr (.inr (g2))))))] tt) A) (cc := cX4_start) (maxL := 6) (ret := (some .int)) (by decide) rfl (Nat.le_of_ble_eq_true rfl) (fun p e s m below meth c A ls hx hb hr hts hlocks hml hown hnm hA hKK hP hD hS hl => ?_)
  have hK := hKK.1
  have hSF : CallFix p m c cX4_start 6 s _ wsX4_start RX4 := ⟨hx, hb, hml, hown, hts⟩
  have hl : lv_has ls 6 [(0, .ref h0), (1, .int (nI j)), (2, .int lv)] := hl
  refine lv_aload_n hx hb dX4_start_0 rfl (lv_at hl 0 rfl) ?_
  refine lv_iload_n hx hb dX4_start_1 rfl (lv_at hl 1 rfl) ?_
  refine y_Vq (As := [.int (nI j)]) (rest := []) (wc := [(h0, .inr (4, [.ref xr, .ref xn, .int (nI nr), .int (nI nn)])), (xr, .inl (t 3, 10, .inr (.inr (.inr (.inr (g))))))]) (wr := [(rc, .inr (0, [.ref ra, .int (nI n), .int gb])), (ra, .inl (t 6, 12, .inr (.inr (.inr (.inr (f)))))), (xn, .inl (t 4, 30, .inr (.inr (.inr (.inr (g2))))))]) [0, 1] [2, 3, 4] hSF (c_CR_recipeAt_at l D t s.heap.size h0 xr xn nr nn j rc g hj hn hf) (cwV 1 hts gX4_start_X4_recipeAt rfl rfl rfl (by decide +kernel) ⟨Nat.le_of_ble_eq_true rfl, Nat.le_of_ble_eq_true rfl⟩) hKK hP hD hS hA rfl rfl (by decide) (by decide) (by decide) (fs := [.ref xr, .ref xn, .int (nI nr), .int (nI nn)]) (ci := 4) rfl rfl rfl rfl hl.1 rfl (Nat.le_of_ble_eq_true rfl) dX4_start_2 ⟨Nat.le_of_ble_eq_true rfl, Nat.le_of_ble_eq_true rfl⟩ (fun x u H locs hw2 hP hD hS => ?_)
  obtain rfl : x = some rc := hw2
  refine W.eq (g2 := F0 m 5 ls [.ref rc]) rfl ?_
  have hP : va_P D vwCl [(rc, .inr (0, [.ref ra, .int (nI n), .int gb])), (ra, .inl (t 6, 12, .inr (.inr (.inr (.inr (f)))))), (xn, .inl (t 4, 30, .inr (.inr (.inr (.inr (g2)))))), (h0, .inr (4, [.ref xr, .ref xn, .int (nI nr), .int (nI nn)])), (xr, .inl (t 3, 10, .inr (.inr (.inr (.inr (g))))))] H := hP
  have hD : va_D A [(rc, .inr (0, [.ref ra, .int (nI n), .int gb])), (ra, .inl (t 6, 12, .inr (.inr (.inr (.inr (f)))))), (xn, .inl (t 4, 30, .inr (.inr (.inr (.inr (g2)))))), (h0, .inr (4, [.ref xr, .ref xn, .int (nI nr), .int (nI nn)])), (xr, .inl (t 3, 10, .inr (.inr (.inr (.inr (g))))))] := hD
  refine lv_astore_n (lv' := [(3, .ref rc), (0, .ref h0), (1, .int (nI j)), (2, .int lv)]) hx hb dX4_start_5 rfl hl (by decide) rfl (fun ls hl => ?_)
  refine lv_aload_n hx hb dX4_start_6 rfl (lv_at hl 0 rfl) ?_
  refine lv_ifnull hx hb dX4_start_7 ?_
  refine lv_iload_n hx hb dX4_start_10 rfl (lv_at hl 3 rfl) ?_
  refine lv_iconst (v := 1) hx hb dX4_start_11 (by decide) ?_
  refine lv_icmp_lt (tgt := 21) hx hb dX4_start_12 (by decide) (fun hc9 => absurd hc9 (hl1)) (fun _ => ?_)
  refine lv_iload_n hx hb dX4_start_15 rfl (lv_at hl 3 rfl) ?_
  refine lv_bipush (v := 9) hx hb dX4_start_16 (by decide) ?_
  refine lv_icmp_le (tgt := 23) hx hb dX4_start_18 (by decide) (fun _ => ?_) (fun hc9 => absurd (hl9) hc9)
  refine lv_aload_n hx hb dX4_start_23 rfl (lv_at hl 0 rfl) ?_
  refine lv_iconst (v := 0) hx hb dX4_start_24 (by decide) ?_
  refine y_int (nI 0) (nI_0.symm) ?_
  refine y_Vq (As := [.int (nI 0)]) (rest := []) (wc := [(rc, .inr (0, [.ref ra, .int (nI n), .int gb])), (ra, .inl (t 6, 12, .inr (.inr (.inr (.inr (f))))))]) (wr := [(xn, .inl (t 4, 30, .inr (.inr (.inr (.inr (g2)))))), (h0, .inr (4, [.ref xr, .ref xn, .int (nI nr), .int (nI nn)])), (xr, .inl (t 3, 10, .inr (.inr (.inr (.inr (g))))))]) [0, 1] [2, 3, 4] hSF (c_Recipe_stepAt_at l D t H.size rc ra n 0 sp gb f hz hn2 hs) (cwV 1 hts gX4_start_X0_stepAt rfl rfl rfl (by decide +kernel) ⟨Nat.le_of_ble_eq_true rfl, Nat.le_of_ble_eq_true rfl⟩) hKK hP hD hS hA rfl rfl (by decide) (by decide) (by decide) (fs := [.ref ra, .int (nI n), .int gb]) (ci := 0) rfl rfl rfl rfl hl.1 rfl (Nat.le_of_ble_eq_true rfl) dX4_start_25 ⟨Nat.le_of_ble_eq_true rfl, Nat.le_of_ble_eq_true rfl⟩ (fun x u H locs hw25 hP hD hS => ?_)
  obtain rfl : x = some sp := hw25
  refine W.eq (g2 := F0 m 28 ls [.ref sp]) rfl ?_
  have hP : va_P D vwCl [(xn, .inl (t 4, 30, .inr (.inr (.inr (.inr (g2)))))), (h0, .inr (4, [.ref xr, .ref xn, .int (nI nr), .int (nI nn)])), (xr, .inl (t 3, 10, .inr (.inr (.inr (.inr (g)))))), (rc, .inr (0, [.ref ra, .int (nI n), .int gb])), (ra, .inl (t 6, 12, .inr (.inr (.inr (.inr (f))))))] H := hP
  have hD : va_D A [(xn, .inl (t 4, 30, .inr (.inr (.inr (.inr (g2)))))), (h0, .inr (4, [.ref xr, .ref xn, .int (nI nr), .int (nI nn)])), (xr, .inl (t 3, 10, .inr (.inr (.inr (.inr (g)))))), (rc, .inr (0, [.ref ra, .int (nI n), .int gb])), (ra, .inl (t 6, 12, .inr (.inr (.inr (.inr (f))))))] := hD
  refine lv_astore (lv' := [(4, .ref sp), (3, .ref rc), (0, .ref h0), (1, .int (nI j)), (2, .int lv)]) hx hb dX4_start_28 hl (by decide) rfl (fun ls hl => ?_)
  refine lv_aload hx hb dX4_start_30 (lv_at hl 0 rfl) ?_
  refine lv_ifnonnull (tgt := 37) hx hb dX4_start_32 (by decide) ?_
  refine lv_aload_n hx hb dX4_start_37 rfl (lv_at hl 2 rfl) ?_
  refine va_get (D := D) (ci := 4) (v := .int (nI nn)) (C := RX4) (T := TX4) (N := 4) hx hb hts mc_X4_start_4 hown hK hP 1 rfl rfl 3 (by decide) (hts _ mw_X4_start_fieldLinkCleanRuns25CleanRunsrunCountI) (fun _ h9 => h9) rfl dX4_start_38 ?_
  refine lv_if_lt (tgt := 56) hx hb dX4_start_41 (by decide) (fun hc9 => absurd hc9 (nI_pos h31)) (fun _ => ?_)
  refine lv_aload_n hx hb dX4_start_44 rfl (lv_at hl 2 rfl) ?_
  refine va_get (D := D) (ci := 4) (v := .int (nI nn)) (C := RX4) (T := TX4) (N := 4) hx hb hts mc_X4_start_4 hown hK hP 1 rfl rfl 3 (by decide) (hts _ mw_X4_start_fieldLinkCleanRuns25CleanRunsrunCountI) (fun _ h9 => h9) rfl dX4_start_45 ?_
  refine lv_aload_n hx hb dX4_start_48 rfl (lv_at hl 2 rfl) ?_
  refine va_get (D := D) (ci := 4) (v := .ref xn) (C := RX4) (T := TX4) (N := 4) hx hb hts mc_X4_start_4 hown hK hP 1 rfl rfl 1 (by decide) (hts _ mw_X4_start_fieldLinkCleanRuns17CleanRunsrunsLCleanRunsRun) (fun _ h9 => h9) rfl dX4_start_49 ?_
  refine va_alen (v := 30) hx hb hK hP 0 4 rfl rfl rfl dX4_start_52 ?_
  refine lv_icmp_lt (tgt := 59) hx hb dX4_start_53 (by decide) (fun hc9 => absurd hc9 (nI_nlt (b := 30) h30 h31)) (fun _ => ?_)
  refine lv_bipush (v := -2) hx hb dX4_start_56 (by decide) ?_
  have hP9 : va_P D vwCl [(h0, .inr (4, [.ref xr, .ref xn, .int (nI nr), .int (nI nn)])), (xr, .inl (t 3, 10, .inr (.inr (.inr (.inr (g)))))), (rc, .inr (0, [.ref ra, .int (nI n), .int gb])), (ra, .inl (t 6, 12, .inr (.inr (.inr (.inr (f)))))), (xn, .inl (t 4, 30, .inr (.inr (.inr (.inr (g2))))))] _ := hP.sub [1, 2, 3, 4, 0] rfl
  have hD9 : va_D A [(h0, .inr (4, [.ref xr, .ref xn, .int (nI nr), .int (nI nn)])), (xr, .inl (t 3, 10, .inr (.inr (.inr (.inr (g)))))), (rc, .inr (0, [.ref ra, .int (nI n), .int gb])), (ra, .inl (t 6, 12, .inr (.inr (.inr (.inr (f)))))), (xn, .inl (t 4, 30, .inr (.inr (.inr (.inr (g2))))))] := hD.sub [1, 2, 3, 4, 0] (by decide) rfl
  refine W.widen (k := 3) (n := 33) (by decide) (by decide) ?_
  exact W.iret (v := (-2)) hx hb hr (fun tt ht hW => ⟨⟨(-2), (), rfl, rfl, by rw [ht]; exact hP9, hKK.moved hW.alike, hD9⟩, hS.F ht⟩) hS.2.2 dX4_start_58
set_option maxHeartbeats 4000000 in
set_option maxRecDepth 100000 in
theorem c_CR_start_new (l : Launch) (D : va_G) (t : Nat → ClassId) (sz : Nat) (h0 xr xn nr nn : Nat) (j rc ra n sp : Nat) (gb lv : Int32) (g f g2 : Nat → Option Nat) (hj : j < nr) (hn : nr ≤ 10) (hf : g j = some rc) (hl1 : ¬ lv < 1) (hl9 : lv ≤ 9) (hz : 0 < n) (hn2 : n ≤ 12) (hs : f 0 = some sp) (h30 : nn < 30) : Met l yX4_start wsX4_start ({ frames := 3, cells := 3, slots := 33, locals := 57 } : Room) (va_Pc [.ref h0, .int (nI j), .int lv] (yS D t sz [(h0, .inr (4, [.ref xr, .ref xn, .int (nI nr), .int (nI nn)])), (xr, .inl (t 3, 10, .inr (.inr (.inr (.inr (g)))))), (rc, .inr (0, [.ref ra, .int (nI n), .int gb])), (ra, .inl (t 6, 12, .inr (.inr (.inr (.inr (f)))))), (xn, .inl (t 4, 30, .inr (.inr (.inr (.inr (g2))))))])) (va_Qi (fun (x : Int32) (u : Nat × Nat × Nat) => x = nI nn) (fun (u : Nat × Nat × Nat) tt => yB D t (va_A [(h0, .inr (4, [.ref xr, .ref xn, .int (nI nr), .int (nI nn)])), (xr, .inl (t 3, 10, .inr (.inr (.inr (.inr (g)))))), (rc, .inr (0, [.ref ra, .int (nI n), .int gb])), (ra, .inl (t 6, 12, .inr (.inr (.inr (.inr (f)))))), (xn, .inl (t 4, 30, .inr (.inr (.inr (.inr (g2))))))] sz) [(h0, .inr (4, [.ref xr, .ref xn, .int (nI nr), .int (nI nn + 1)])), (xr, .inl (t 3, 10, .inr (.inr (.inr (.inr (g)))))), (rc, .inr (0, [.ref ra, .int (nI n), .int 1])), (ra, .inl (t 6, 12, .inr (.inr (.inr (.inr (f)))))), (xn, .inl (t 4, 30, .inr (.inr (.inr (.inr (va_up g2 nn (some u.1))))))), (u.1, .inr (1, [.ref rc, .int lv, .ref u.2.1, .ref u.2.2, .int 1, .int 1, .int 0, .int 0, .int 0, .double FP.dconst0, .int 0, .double FP.dconst0, .double FP.dconst0, .double FP.dconst0])), (u.2.1, .inl (t 5, 12, .inr (.inr (.inr (.inr (va_up (fun _ => none) 0 (some u.2.2))))))), (u.2.2, .inr (2, [.ref sp, .int 0, .int (-1), .int 0, .int 0, .int 0, .int 0]))] tt) (va_A [(h0, .inr (4, [.ref xr, .ref xn, .int (nI nr), .int (nI nn)])), (xr, .inl (t 3, 10, .inr (.inr (.inr (.inr (g)))))), (rc, .inr (0, [.ref ra, .int (nI n), .int gb])), (ra, .inl (t 6, 12, .inr (.inr (.inr (.inr (f)))))), (xn, .inl (t 4, 30, .inr (.inr (.inr (.inr (g2))))))] sz)) 3 33 (va_A [(h0, .inr (4, [.ref xr, .ref xn, .int (nI nr), .int (nI nn)])), (xr, .inl (t 3, 10, .inr (.inr (.inr (.inr (g)))))), (rc, .inr (0, [.ref ra, .int (nI n), .int gb])), (ra, .inl (t 6, 12, .inr (.inr (.inr (.inr (f)))))), (xn, .inl (t 4, 30, .inr (.inr (.inr (.inr (g2))))))] sz) := by
  refine y_ofW (wc := [(h0, .inr (4, [.ref xr, .ref xn, .int (nI nr), .int (nI nn)])), (xr, .inl (t 3, 10, .inr (.inr (.inr (.inr (g)))))), (rc, .inr (0, [.ref ra, .int (nI n), .int gb])), (ra, .inl (t 6, 12, .inr (.inr (.inr (.inr (f)))))), (xn, .inl (t 4, 30, .inr (.inr (.inr (.inr (g2))))))]) (Qc := fun A => va_Qi (fun (x : Int32) (u : Nat × Nat × Nat) => x = nI nn) (fun (u : Nat × Nat × Nat) tt => yB D t A [(h0, .inr (4, [.ref xr, .ref xn, .int (nI nr), .int (nI nn + 1)])), (xr, .inl (t 3, 10, .inr (.inr (.inr (.inr (g)))))), (rc, .inr (0, [.ref ra, .int (nI n), .int 1])), (ra, .inl (t 6, 12, .inr (.inr (.inr (.inr (f)))))), (xn, .inl (t 4, 30, .inr (.inr (.inr (.inr (va_up g2 nn (some u.1))))))), (u.1, .inr (1, [.ref rc, .int lv, .ref u.2.1, .ref u.2.2, .int 1, .int 1, .int 0, .int 0, .int 0, .double FP.dconst0, .int 0, .double FP.dconst0, .double FP.dconst0, .double FP.dconst0])), (u.2.1, .inl (t 5, 12, .inr (.inr (.inr (.inr (va_up (fun _ => none) 0 (some u.2.2))))))), (u.2.2, .inr (2, [.ref sp, .int 0, .int (-1), .int 0, .int 0, .int 0, .int 0]))] tt) A) (cc := cX4_start) (maxL := 6) (ret := (some .int)) (by decide) rfl (Nat.le_of_ble_eq_true rfl) (fun p e s m below meth c A ls hx hb hr hts hlocks hml hown hnm hA hKK hP hD hS hl => ?_)
  have hK := hKK.1
  have hSF : CallFix p m c cX4_start 6 s _ wsX4_start RX4 := ⟨hx, hb, hml, hown, hts⟩
  have hl : lv_has ls 6 [(0, .ref h0), (1, .int (nI j)), (2, .int lv)] := hl
  refine lv_aload_n hx hb dX4_start_0 rfl (lv_at hl 0 rfl) ?_
  refine lv_iload_n hx hb dX4_start_1 rfl (lv_at hl 1 rfl) ?_
  refine y_Vq (As := [.int (nI j)]) (rest := []) (wc := [(h0, .inr (4, [.ref xr, .ref xn, .int (nI nr), .int (nI nn)])), (xr, .inl (t 3, 10, .inr (.inr (.inr (.inr (g))))))]) (wr := [(rc, .inr (0, [.ref ra, .int (nI n), .int gb])), (ra, .inl (t 6, 12, .inr (.inr (.inr (.inr (f)))))), (xn, .inl (t 4, 30, .inr (.inr (.inr (.inr (g2))))))]) [0, 1] [2, 3, 4] hSF (c_CR_recipeAt_at l D t s.heap.size h0 xr xn nr nn j rc g hj hn hf) (cwV 1 hts gX4_start_X4_recipeAt rfl rfl rfl (by decide +kernel) ⟨Nat.le_of_ble_eq_true rfl, Nat.le_of_ble_eq_true rfl⟩) hKK hP hD hS hA rfl rfl (by decide) (by decide) (by decide) (fs := [.ref xr, .ref xn, .int (nI nr), .int (nI nn)]) (ci := 4) rfl rfl rfl rfl hl.1 rfl (Nat.le_of_ble_eq_true rfl) dX4_start_2 ⟨Nat.le_of_ble_eq_true rfl, Nat.le_of_ble_eq_true rfl⟩ (fun x u H locs hw2 hP hD hS => ?_)
  obtain rfl : x = some rc := hw2
  refine W.eq (g2 := F0 m 5 ls [.ref rc]) rfl ?_
  have hP : va_P D vwCl [(rc, .inr (0, [.ref ra, .int (nI n), .int gb])), (ra, .inl (t 6, 12, .inr (.inr (.inr (.inr (f)))))), (xn, .inl (t 4, 30, .inr (.inr (.inr (.inr (g2)))))), (h0, .inr (4, [.ref xr, .ref xn, .int (nI nr), .int (nI nn)])), (xr, .inl (t 3, 10, .inr (.inr (.inr (.inr (g))))))] H := hP
  have hD : va_D A [(rc, .inr (0, [.ref ra, .int (nI n), .int gb])), (ra, .inl (t 6, 12, .inr (.inr (.inr (.inr (f)))))), (xn, .inl (t 4, 30, .inr (.inr (.inr (.inr (g2)))))), (h0, .inr (4, [.ref xr, .ref xn, .int (nI nr), .int (nI nn)])), (xr, .inl (t 3, 10, .inr (.inr (.inr (.inr (g))))))] := hD
  refine lv_astore_n (lv' := [(3, .ref rc), (0, .ref h0), (1, .int (nI j)), (2, .int lv)]) hx hb dX4_start_5 rfl hl (by decide) rfl (fun ls hl => ?_)
  refine lv_aload_n hx hb dX4_start_6 rfl (lv_at hl 0 rfl) ?_
  refine lv_ifnull hx hb dX4_start_7 ?_
  refine lv_iload_n hx hb dX4_start_10 rfl (lv_at hl 3 rfl) ?_
  refine lv_iconst (v := 1) hx hb dX4_start_11 (by decide) ?_
  refine lv_icmp_lt (tgt := 21) hx hb dX4_start_12 (by decide) (fun hc9 => absurd hc9 (hl1)) (fun _ => ?_)
  refine lv_iload_n hx hb dX4_start_15 rfl (lv_at hl 3 rfl) ?_
  refine lv_bipush (v := 9) hx hb dX4_start_16 (by decide) ?_
  refine lv_icmp_le (tgt := 23) hx hb dX4_start_18 (by decide) (fun _ => ?_) (fun hc9 => absurd (hl9) hc9)
  refine lv_aload_n hx hb dX4_start_23 rfl (lv_at hl 0 rfl) ?_
  refine lv_iconst (v := 0) hx hb dX4_start_24 (by decide) ?_
  refine y_int (nI 0) (nI_0.symm) ?_
  refine y_Vq (As := [.int (nI 0)]) (rest := []) (wc := [(rc, .inr (0, [.ref ra, .int (nI n), .int gb])), (ra, .inl (t 6, 12, .inr (.inr (.inr (.inr (f))))))]) (wr := [(xn, .inl (t 4, 30, .inr (.inr (.inr (.inr (g2)))))), (h0, .inr (4, [.ref xr, .ref xn, .int (nI nr), .int (nI nn)])), (xr, .inl (t 3, 10, .inr (.inr (.inr (.inr (g))))))]) [0, 1] [2, 3, 4] hSF (c_Recipe_stepAt_at l D t H.size rc ra n 0 sp gb f hz hn2 hs) (cwV 1 hts gX4_start_X0_stepAt rfl rfl rfl (by decide +kernel) ⟨Nat.le_of_ble_eq_true rfl, Nat.le_of_ble_eq_true rfl⟩) hKK hP hD hS hA rfl rfl (by decide) (by decide) (by decide) (fs := [.ref ra, .int (nI n), .int gb]) (ci := 0) rfl rfl rfl rfl hl.1 rfl (Nat.le_of_ble_eq_true rfl) dX4_start_25 ⟨Nat.le_of_ble_eq_true rfl, Nat.le_of_ble_eq_true rfl⟩ (fun x u H locs hw25 hP hD hS => ?_)
  obtain rfl : x = some sp := hw25
  refine W.eq (g2 := F0 m 28 ls [.ref sp]) rfl ?_
  have hP : va_P D vwCl [(xn, .inl (t 4, 30, .inr (.inr (.inr (.inr (g2)))))), (h0, .inr (4, [.ref xr, .ref xn, .int (nI nr), .int (nI nn)])), (xr, .inl (t 3, 10, .inr (.inr (.inr (.inr (g)))))), (rc, .inr (0, [.ref ra, .int (nI n), .int gb])), (ra, .inl (t 6, 12, .inr (.inr (.inr (.inr (f))))))] H := hP
  have hD : va_D A [(xn, .inl (t 4, 30, .inr (.inr (.inr (.inr (g2)))))), (h0, .inr (4, [.ref xr, .ref xn, .int (nI nr), .int (nI nn)])), (xr, .inl (t 3, 10, .inr (.inr (.inr (.inr (g)))))), (rc, .inr (0, [.ref ra, .int (nI n), .int gb])), (ra, .inl (t 6, 12, .inr (.inr (.inr (.inr (f))))))] := hD
  refine lv_astore (lv' := [(4, .ref sp), (3, .ref rc), (0, .ref h0), (1, .int (nI j)), (2, .int lv)]) hx hb dX4_start_28 hl (by decide) rfl (fun ls hl => ?_)
  refine lv_aload hx hb dX4_start_30 (lv_at hl 0 rfl) ?_
  refine lv_ifnonnull (tgt := 37) hx hb dX4_start_32 (by decide) ?_
  refine lv_aload_n hx hb dX4_start_37 rfl (lv_at hl 2 rfl) ?_
  refine va_get (D := D) (ci := 4) (v := .int (nI nn)) (C := RX4) (T := TX4) (N := 4) hx hb hts mc_X4_start_4 hown hK hP 1 rfl rfl 3 (by decide) (hts _ mw_X4_start_fieldLinkCleanRuns25CleanRunsrunCountI) (fun _ h9 => h9) rfl dX4_start_38 ?_
  refine lv_if_lt (tgt := 56) hx hb dX4_start_41 (by decide) (fun hc9 => absurd hc9 (nI_pos (by omega))) (fun _ => ?_)
  refine lv_aload_n hx hb dX4_start_44 rfl (lv_at hl 2 rfl) ?_
  refine va_get (D := D) (ci := 4) (v := .int (nI nn)) (C := RX4) (T := TX4) (N := 4) hx hb hts mc_X4_start_4 hown hK hP 1 rfl rfl 3 (by decide) (hts _ mw_X4_start_fieldLinkCleanRuns25CleanRunsrunCountI) (fun _ h9 => h9) rfl dX4_start_45 ?_
  refine lv_aload_n hx hb dX4_start_48 rfl (lv_at hl 2 rfl) ?_
  refine va_get (D := D) (ci := 4) (v := .ref xn) (C := RX4) (T := TX4) (N := 4) hx hb hts mc_X4_start_4 hown hK hP 1 rfl rfl 1 (by decide) (hts _ mw_X4_start_fieldLinkCleanRuns17CleanRunsrunsLCleanRunsRun) (fun _ h9 => h9) rfl dX4_start_49 ?_
  refine va_alen (v := 30) hx hb hK hP 0 4 rfl rfl rfl dX4_start_52 ?_
  refine lv_icmp_lt (tgt := 59) hx hb dX4_start_53 (by decide) (fun _ => ?_) (fun hc9 => absurd (nI_lt (a := nn) (b := 30) h30 (by decide)) hc9)
  refine lv_aload_n hx hb dX4_start_59 rfl (lv_at hl 2 rfl) ?_
  refine va_get (D := D) (ci := 4) (v := .int (nI nn)) (C := RX4) (T := TX4) (N := 4) hx hb hts mc_X4_start_4 hown hK hP 1 rfl rfl 3 (by decide) (hts _ mw_X4_start_fieldLinkCleanRuns25CleanRunsrunCountI) (fun _ h9 => h9) rfl dX4_start_60 ?_
  refine lv_istore (lv' := [(5, .int (nI nn)), (4, .ref sp), (3, .ref rc), (0, .ref h0), (1, .int (nI j)), (2, .int lv)]) hx hb dX4_start_63 hl (by decide) rfl (fun ls hl => ?_)
  refine lv_aload_n hx hb dX4_start_65 rfl (lv_at hl 3 rfl) ?_
  refine va_get (D := D) (ci := 4) (v := .ref xn) (C := RX4) (T := TX4) (N := 4) hx hb hts mc_X4_start_4 hown hK hP 1 rfl rfl 1 (by decide) (hts _ mw_X4_start_fieldLinkCleanRuns17CleanRunsrunsLCleanRunsRun) (fun _ h9 => h9) rfl dX4_start_66 ?_
  refine lv_iload hx hb dX4_start_69 (lv_at hl 0 rfl) ?_
  refine va_new (ci := 1) (fs := [.null, .int 0, .null, .null, .int 0, .int 0, .int 0, .int 0, .int 0, .double 0, .int 0, .double 0, .double 0, .double 0]) (C := RX1) (T := TX1) (N := 14) hx hb hts mc_X4_start_1 tyX1 tyX1_ok hown (hts _ mw_X4_start_classLinkCleanRuns15CleanRunsRun) (hts _ mw_X4_start_instantiableCleanRunsRun14) (hts _ mw_X4_start_initializedCleanRunsRun) hK hP hD hS hA rfl (fun j hj => by rcases (show j = 0 ∨ j = 1 ∨ j = 2 ∨ j = 3 ∨ j = 4 ∨ j = 5 ∨ j = 6 ∨ j = 7 ∨ j = 8 ∨ j = 9 ∨ j = 10 ∨ j = 11 ∨ j = 12 ∨ j = 13 by omega) with rfl | rfl | rfl | rfl | rfl | rfl | rfl | rfl | rfl | rfl | rfl | rfl | rfl | rfl <;> rfl) (Nat.le_of_ble_eq_true rfl) (Nat.le_of_ble_eq_true rfl) dX4_start_71 (fun q71 H hP hD hS => ?_)
  have hP : va_P D vwCl [(xn, .inl (t 4, 30, .inr (.inr (.inr (.inr (g2)))))), (h0, .inr (4, [.ref xr, .ref xn, .int (nI nr), .int (nI nn)])), (xr, .inl (t 3, 10, .inr (.inr (.inr (.inr (g)))))), (rc, .inr (0, [.ref ra, .int (nI n), .int gb])), (ra, .inl (t 6, 12, .inr (.inr (.inr (.inr (f)))))), (q71, .inr (1, [.null, .int 0, .null, .null, .int 0, .int 0, .int 0, .int 0, .int 0, .double 0, .int 0, .double 0, .double 0, .double 0]))] H := hP
  have hD : va_D A [(xn, .inl (t 4, 30, .inr (.inr (.inr (.inr (g2)))))), (h0, .inr (4, [.ref xr, .ref xn, .int (nI nr), .int (nI nn)])), (xr, .inl (t 3, 10, .inr (.inr (.inr (.inr (g)))))), (rc, .inr (0, [.ref ra, .int (nI n), .int gb])), (ra, .inl (t 6, 12, .inr (.inr (.inr (.inr (f)))))), (q71, .inr (1, [.null, .int 0, .null, .null, .int 0, .int 0, .int 0, .int 0, .int 0, .double 0, .int 0, .double 0, .double 0, .double 0]))] := hD
  refine lv_dup hx hb dX4_start_74 rfl ?_
  refine lv_aload_n hx hb dX4_start_75 rfl (lv_at hl 2 rfl) ?_
  refine lv_aload hx hb dX4_start_76 (lv_at hl 1 rfl) ?_
  refine lv_iload_n hx hb dX4_start_78 rfl (lv_at hl 5 rfl) ?_
  refine y_Iv (As := [.ref rc, .ref sp, .int lv]) (rest := [.ref q71, .int (nI nn), .ref xn]) (wc := [(q71, .inr (1, [.null, .int 0, .null, .null, .int 0, .int 0, .int 0, .int 0, .int 0, .double 0, .int 0, .double 0, .double 0, .double 0]))]) (wr := [(xn, .inl (t 4, 30, .inr (.inr (.inr (.inr (g2)))))), (h0, .inr (4, [.ref xr, .ref xn, .int (nI nr), .int (nI nn)])), (xr, .inl (t 3, 10, .inr (.inr (.inr (.inr (g)))))), (rc, .inr (0, [.ref ra, .int (nI n), .int gb])), (ra, .inl (t 6, 12, .inr (.inr (.inr (.inr (f))))))]) [5] [0, 1, 2, 3, 4] hSF (c_Run_init l D t H.size q71 rc sp lv ) (cwI 3 hts gX4_start_X1_init rfl rfl rfl (hts _ mw_X4_start_initializedCleanRunsRun) (hts _ mw_X4_start_methodLinkCleanRuns58CleanRunsRuninitLCleanRunsRecipeLCleanR) (hts _ mw_X4_start_instanceMethodCleanRunsRuninitLCleanRunsRecipeLCleanRunsStep) rfl (by decide +kernel) ⟨Nat.le_of_ble_eq_true rfl, Nat.le_of_ble_eq_true rfl⟩) hKK hP hD hS hA rfl rfl (by decide) (by decide) (by decide) rfl hl.1 rfl (Nat.le_of_ble_eq_true rfl) dX4_start_79 ⟨Nat.le_of_ble_eq_true rfl, Nat.le_of_ble_eq_true rfl⟩ (fun u H locs hw79 hP hD hS => ?_)
  obtain ⟨q79a, q79b⟩ := u
  have hP : va_P D vwCl [(xn, .inl (t 4, 30, .inr (.inr (.inr (.inr (g2)))))), (h0, .inr (4, [.ref xr, .ref xn, .int (nI nr), .int (nI nn)])), (xr, .inl (t 3, 10, .inr (.inr (.inr (.inr (g)))))), (rc, .inr (0, [.ref ra, .int (nI n), .int gb])), (ra, .inl (t 6, 12, .inr (.inr (.inr (.inr (f)))))), (q71, .inr (1, [.ref rc, .int lv, .ref q79a, .ref q79b, .int 1, .int 1, .int 0, .int 0, .int 0, .double FP.dconst0, .int 0, .double FP.dconst0, .double FP.dconst0, .double FP.dconst0])), (q79a, .inl (t 5, 12, .inr (.inr (.inr (.inr (va_up (fun _ => none) 0 (some q79b))))))), (q79b, .inr (2, [.ref sp, .int 0, .int (-1), .int 0, .int 0, .int 0, .int 0]))] H := hP
  have hD : va_D A [(xn, .inl (t 4, 30, .inr (.inr (.inr (.inr (g2)))))), (h0, .inr (4, [.ref xr, .ref xn, .int (nI nr), .int (nI nn)])), (xr, .inl (t 3, 10, .inr (.inr (.inr (.inr (g)))))), (rc, .inr (0, [.ref ra, .int (nI n), .int gb])), (ra, .inl (t 6, 12, .inr (.inr (.inr (.inr (f)))))), (q71, .inr (1, [.ref rc, .int lv, .ref q79a, .ref q79b, .int 1, .int 1, .int 0, .int 0, .int 0, .double FP.dconst0, .int 0, .double FP.dconst0, .double FP.dconst0, .double FP.dconst0])), (q79a, .inl (t 5, 12, .inr (.inr (.inr (.inr (va_up (fun _ => none) 0 (some q79b))))))), (q79b, .inr (2, [.ref sp, .int 0, .int (-1), .int 0, .int 0, .int 0, .int 0]))] := hD
  refine y_aast (j := nn) hx hb hK hP hD hS 0 4 5 1 rfl rfl rfl rfl (h30) (by decide) dX4_start_82 (fun H locs hP hD hS => ?_)
  have hP : va_P D vwCl [(xn, .inl (t 4, 30, .inr (.inr (.inr (.inr (va_up g2 nn (some q71))))))), (h0, .inr (4, [.ref xr, .ref xn, .int (nI nr), .int (nI nn)])), (xr, .inl (t 3, 10, .inr (.inr (.inr (.inr (g)))))), (rc, .inr (0, [.ref ra, .int (nI n), .int gb])), (ra, .inl (t 6, 12, .inr (.inr (.inr (.inr (f)))))), (q71, .inr (1, [.ref rc, .int lv, .ref q79a, .ref q79b, .int 1, .int 1, .int 0, .int 0, .int 0, .double FP.dconst0, .int 0, .double FP.dconst0, .double FP.dconst0, .double FP.dconst0])), (q79a, .inl (t 5, 12, .inr (.inr (.inr (.inr (va_up (fun _ => none) 0 (some q79b))))))), (q79b, .inr (2, [.ref sp, .int 0, .int (-1), .int 0, .int 0, .int 0, .int 0]))] H := hP
  have hD : va_D A [(xn, .inl (t 4, 30, .inr (.inr (.inr (.inr (va_up g2 nn (some q71))))))), (h0, .inr (4, [.ref xr, .ref xn, .int (nI nr), .int (nI nn)])), (xr, .inl (t 3, 10, .inr (.inr (.inr (.inr (g)))))), (rc, .inr (0, [.ref ra, .int (nI n), .int gb])), (ra, .inl (t 6, 12, .inr (.inr (.inr (.inr (f)))))), (q71, .inr (1, [.ref rc, .int lv, .ref q79a, .ref q79b, .int 1, .int 1, .int 0, .int 0, .int 0, .double FP.dconst0, .int 0, .double FP.dconst0, .double FP.dconst0, .double FP.dconst0])), (q79a, .inl (t 5, 12, .inr (.inr (.inr (.inr (va_up (fun _ => none) 0 (some q79b))))))), (q79b, .inr (2, [.ref sp, .int 0, .int (-1), .int 0, .int 0, .int 0, .int 0]))] := hD
  refine lv_aload_n hx hb dX4_start_83 rfl (lv_at hl 3 rfl) ?_
  refine lv_iload hx hb dX4_start_84 (lv_at hl 0 rfl) ?_
  refine lv_iconst (v := 1) hx hb dX4_start_86 (by decide) ?_
  refine lv_iadd hx hb dX4_start_87 ?_
  refine va_put (D := D) (ci := 4) (v := .int ((nI nn) + 1)) (ty := .int) (C := RX4) (T := TX4) (N := 4) hx hb hts mc_X4_start_4 tyX4 tyX4_ok nmX4 hown hK hP hD hS 1 rfl rfl 3 (by decide) (hts _ mw_X4_start_fieldLinkCleanRuns25CleanRunsrunCountI) (fun _ h9 => h9) rfl (by decide +kernel) rfl rfl (Nat.le_of_ble_eq_true rfl) dX4_start_88 (fun H locs hP hD hS => ?_)
  have hP : va_P D vwCl [(xn, .inl (t 4, 30, .inr (.inr (.inr (.inr (va_up g2 nn (some q71))))))), (h0, .inr (4, [.ref xr, .ref xn, .int (nI nr), .int ((nI nn) + 1)])), (xr, .inl (t 3, 10, .inr (.inr (.inr (.inr (g)))))), (rc, .inr (0, [.ref ra, .int (nI n), .int gb])), (ra, .inl (t 6, 12, .inr (.inr (.inr (.inr (f)))))), (q71, .inr (1, [.ref rc, .int lv, .ref q79a, .ref q79b, .int 1, .int 1, .int 0, .int 0, .int 0, .double FP.dconst0, .int 0, .double FP.dconst0, .double FP.dconst0, .double FP.dconst0])), (q79a, .inl (t 5, 12, .inr (.inr (.inr (.inr (va_up (fun _ => none) 0 (some q79b))))))), (q79b, .inr (2, [.ref sp, .int 0, .int (-1), .int 0, .int 0, .int 0, .int 0]))] H := hP
  have hD : va_D A [(xn, .inl (t 4, 30, .inr (.inr (.inr (.inr (va_up g2 nn (some q71))))))), (h0, .inr (4, [.ref xr, .ref xn, .int (nI nr), .int ((nI nn) + 1)])), (xr, .inl (t 3, 10, .inr (.inr (.inr (.inr (g)))))), (rc, .inr (0, [.ref ra, .int (nI n), .int gb])), (ra, .inl (t 6, 12, .inr (.inr (.inr (.inr (f)))))), (q71, .inr (1, [.ref rc, .int lv, .ref q79a, .ref q79b, .int 1, .int 1, .int 0, .int 0, .int 0, .double FP.dconst0, .int 0, .double FP.dconst0, .double FP.dconst0, .double FP.dconst0])), (q79a, .inl (t 5, 12, .inr (.inr (.inr (.inr (va_up (fun _ => none) 0 (some q79b))))))), (q79b, .inr (2, [.ref sp, .int 0, .int (-1), .int 0, .int 0, .int 0, .int 0]))] := hD
  refine lv_aload_n hx hb dX4_start_91 rfl (lv_at hl 2 rfl) ?_
  refine lv_iconst (v := 1) hx hb dX4_start_92 (by decide) ?_
  refine va_put (D := D) (ci := 0) (v := .int 1) (ty := .boolean) (C := RX0) (T := TX0) (N := 3) hx hb hts mc_X4_start_0 tyX0 tyX0_ok nmX0 hown hK hP hD hS 3 rfl rfl 2 (by decide) (hts _ mw_X4_start_fieldLinkCleanRuns61CleanRunsRecipebegunZ) (fun _ h9 => h9) rfl (by decide +kernel) rfl rfl (Nat.le_of_ble_eq_true rfl) dX4_start_93 (fun H locs hP hD hS => ?_)
  have hP : va_P D vwCl [(xn, .inl (t 4, 30, .inr (.inr (.inr (.inr (va_up g2 nn (some q71))))))), (h0, .inr (4, [.ref xr, .ref xn, .int (nI nr), .int ((nI nn) + 1)])), (xr, .inl (t 3, 10, .inr (.inr (.inr (.inr (g)))))), (rc, .inr (0, [.ref ra, .int (nI n), .int 1])), (ra, .inl (t 6, 12, .inr (.inr (.inr (.inr (f)))))), (q71, .inr (1, [.ref rc, .int lv, .ref q79a, .ref q79b, .int 1, .int 1, .int 0, .int 0, .int 0, .double FP.dconst0, .int 0, .double FP.dconst0, .double FP.dconst0, .double FP.dconst0])), (q79a, .inl (t 5, 12, .inr (.inr (.inr (.inr (va_up (fun _ => none) 0 (some q79b))))))), (q79b, .inr (2, [.ref sp, .int 0, .int (-1), .int 0, .int 0, .int 0, .int 0]))] H := hP
  have hD : va_D A [(xn, .inl (t 4, 30, .inr (.inr (.inr (.inr (va_up g2 nn (some q71))))))), (h0, .inr (4, [.ref xr, .ref xn, .int (nI nr), .int ((nI nn) + 1)])), (xr, .inl (t 3, 10, .inr (.inr (.inr (.inr (g)))))), (rc, .inr (0, [.ref ra, .int (nI n), .int 1])), (ra, .inl (t 6, 12, .inr (.inr (.inr (.inr (f)))))), (q71, .inr (1, [.ref rc, .int lv, .ref q79a, .ref q79b, .int 1, .int 1, .int 0, .int 0, .int 0, .double FP.dconst0, .int 0, .double FP.dconst0, .double FP.dconst0, .double FP.dconst0])), (q79a, .inl (t 5, 12, .inr (.inr (.inr (.inr (va_up (fun _ => none) 0 (some q79b))))))), (q79b, .inr (2, [.ref sp, .int 0, .int (-1), .int 0, .int 0, .int 0, .int 0]))] := hD
  refine lv_iload hx hb dX4_start_96 (lv_at hl 0 rfl) ?_
  have hP9 : va_P D vwCl [(h0, .inr (4, [.ref xr, .ref xn, .int (nI nr), .int ((nI nn) + 1)])), (xr, .inl (t 3, 10, .inr (.inr (.inr (.inr (g)))))), (rc, .inr (0, [.ref ra, .int (nI n), .int 1])), (ra, .inl (t 6, 12, .inr (.inr (.inr (.inr (f)))))), (xn, .inl (t 4, 30, .inr (.inr (.inr (.inr (va_up g2 nn (some q71))))))), (q71, .inr (1, [.ref rc, .int lv, .ref q79a, .ref q79b, .int 1, .int 1, .int 0, .int 0, .int 0, .double FP.dconst0, .int 0, .double FP.dconst0, .double FP.dconst0, .double FP.dconst0])), (q79a, .inl (t 5, 12, .inr (.inr (.inr (.inr (va_up (fun _ => none) 0 (some q79b))))))), (q79b, .inr (2, [.ref sp, .int 0, .int (-1), .int 0, .int 0, .int 0, .int 0]))] _ := hP.sub [1, 2, 3, 4, 0, 5, 6, 7] rfl
  have hD9 : va_D A [(h0, .inr (4, [.ref xr, .ref xn, .int (nI nr), .int ((nI nn) + 1)])), (xr, .inl (t 3, 10, .inr (.inr (.inr (.inr (g)))))), (rc, .inr (0, [.ref ra, .int (nI n), .int 1])), (ra, .inl (t 6, 12, .inr (.inr (.inr (.inr (f)))))), (xn, .inl (t 4, 30, .inr (.inr (.inr (.inr (va_up g2 nn (some q71))))))), (q71, .inr (1, [.ref rc, .int lv, .ref q79a, .ref q79b, .int 1, .int 1, .int 0, .int 0, .int 0, .double FP.dconst0, .int 0, .double FP.dconst0, .double FP.dconst0, .double FP.dconst0])), (q79a, .inl (t 5, 12, .inr (.inr (.inr (.inr (va_up (fun _ => none) 0 (some q79b))))))), (q79b, .inr (2, [.ref sp, .int 0, .int (-1), .int 0, .int 0, .int 0, .int 0]))] := hD.sub [1, 2, 3, 4, 0, 5, 6, 7] (by decide) rfl
  have e9 : ([(h0, .inr (4, [.ref xr, .ref xn, .int (nI nr), .int (nI nn + 1)])), (xr, .inl (t 3, 10, .inr (.inr (.inr (.inr (g)))))), (rc, .inr (0, [.ref ra, .int (nI n), .int 1])), (ra, .inl (t 6, 12, .inr (.inr (.inr (.inr (f)))))), (xn, .inl (t 4, 30, .inr (.inr (.inr (.inr (va_up g2 nn (some q71))))))), (q71, .inr (1, [.ref rc, .int lv, .ref q79a, .ref q79b, .int 1, .int 1, .int 0, .int 0, .int 0, .double FP.dconst0, .int 0, .double FP.dconst0, .double FP.dconst0, .double FP.dconst0])), (q79a, .inl (t 5, 12, .inr (.inr (.inr (.inr (va_up (fun _ => none) 0 (some q79b))))))), (q79b, .inr (2, [.ref sp, .int 0, .int (-1), .int 0, .int 0, .int 0, .int 0]))] : va_W) = [(h0, .inr (4, [.ref xr, .ref xn, .int (nI nr), .int ((nI nn) + 1)])), (xr, .inl (t 3, 10, .inr (.inr (.inr (.inr (g)))))), (rc, .inr (0, [.ref ra, .int (nI n), .int 1])), (ra, .inl (t 6, 12, .inr (.inr (.inr (.inr (f)))))), (xn, .inl (t 4, 30, .inr (.inr (.inr (.inr (va_up g2 nn (some q71))))))), (q71, .inr (1, [.ref rc, .int lv, .ref q79a, .ref q79b, .int 1, .int 1, .int 0, .int 0, .int 0, .double FP.dconst0, .int 0, .double FP.dconst0, .double FP.dconst0, .double FP.dconst0])), (q79a, .inl (t 5, 12, .inr (.inr (.inr (.inr (va_up (fun _ => none) 0 (some q79b))))))), (q79b, .inr (2, [.ref sp, .int 0, .int (-1), .int 0, .int 0, .int 0, .int 0]))] := by rfl
  rw [← e9] at hP9 hD9
  exact W.iret (v := (nI nn)) hx hb hr (fun tt ht hW => ⟨⟨(nI nn), (q71, q79a, q79b), rfl, rfl, by rw [ht]; exact hP9, hKK.moved hW.alike, hD9⟩, hS.F ht⟩) hS.2.2 dX4_start_98
