/-! doubles: what is no NaN, what keeps its sign, what is alike -/
theorem yd_n (a : UInt64) : vf_n64 a ↔ FP.Core.dIsNaN a = false := by
  rw [vf_n64, UInt64.le_iff_toNat_le, UInt64.toNat_and, show (0x7fffffffffffffff : UInt64).toNat = 2 ^ 63 - 1 from rfl, Nat.and_two_pow_sub_one_eq_mod, ← Bool.not_eq_true, FP.Core.isNaN_bits]
  show _ ≤ 9218868437227405312 ↔ _
  omega
theorem yd_nan (a : UInt64) : isNaN64 a = true ↔ FP.Core.dIsNaN a = true := by
  have h := yd_n a
  unfold vf_n64 at h
  constructor
  · intro h1
    cases h2 : FP.Core.dIsNaN a with
    | true => rfl
    | false =>
      have h3 := h.mpr h2
      unfold isNaN64 at h1
      simp only [gt_iff_lt, decide_eq_true_eq] at h1
      exact absurd h3 (UInt64.not_le.mpr h1)
  · intro h1
    unfold isNaN64
    simp only [gt_iff_lt, decide_eq_true_eq]
    refine UInt64.not_le.mp fun h3 => ?_
    rw [h.mp h3] at h1
    cases h1
/-- a sum that never was below 0: no NaN, and no -0.0 -/
def PS (a : UInt64) : Prop := FP.Core.val64 a = .inf false ∨ ∃ c q, FP.Core.val64 a = .fin false c q
/-- a measure: finite, and not below 0 -/
def NB (b : UInt64) : Prop := ∃ t d r, FP.Core.val64 b = .fin t d r ∧ (t = true → d = 0)
theorem PS.val {a : UInt64} (h : PS a) : FP.Core.val64 a ≠ .nan := by
  rcases h with h | ⟨c, q, h⟩ <;> rw [h] <;> exact FP.Core.Datum.noConfusion
theorem PS.nn {a : UInt64} (h : PS a) : vf_n64 a := (yd_n a).mpr ((FP.Core.notNaN_iff a).mpr h.val)
theorem PS.zero : PS FP.dconst0 := Or.inr ⟨0, _, FP.Core.val64_dconst0⟩
theorem yd_round (c : Nat) (q : Int) : FP.Core.round FP.Core.b64 (.fin false c q) = .inf false ∨ ∃ c' q', FP.Core.round FP.Core.b64 (.fin false c q) = .fin false c' q' := by
  show FP.Core.roundRatio _ _ _ _ _ = _ ∨ ∃ c' q', FP.Core.roundRatio _ _ _ _ _ = _
  unfold FP.Core.roundRatio FP.Core.roundAt FP.Core.settle FP.Core.bound
  split
  · exact Or.inr ⟨_, _, rfl⟩
  · split <;> split <;> first | exact Or.inr ⟨_, _, rfl⟩ | exact Or.inl rfl
theorem PS.add {a b : UInt64} (ha : PS a) (hb : NB b) : PS (FP.dadd a b) := by
  obtain ⟨t, d, r, hb, ht⟩ := hb
  unfold PS
  rw [FP.dadd_core, FP.Core.val64_dadd, hb]
  rcases ha with ha | ⟨c, q, ha⟩
  · rw [ha]
    exact Or.inl rfl
  · rw [ha]
    show FP.Core.round _ (.fin _ _ _) = _ ∨ ∃ c q, FP.Core.round _ (.fin _ _ _) = _
    have hs : FP.Core.sumSign false t (FP.Core.sumUnits false c q t d r (min q r)) = false := by
      unfold FP.Core.sumSign
      split
      · rfl
      · rename_i hv
        refine decide_eq_false fun hlt => ?_
        unfold FP.Core.sumUnits FP.Core.signed FP.Core.inUnits at hlt
        cases t with
        | false =>
          simp only [if_false, Bool.false_eq_true] at hlt
          omega
        | true =>
          rw [ht rfl] at hlt
          simp only [if_true, if_false, Bool.false_eq_true, Nat.zero_mul] at hlt
          omega
    rw [hs]
    exact yd_round _ _
theorem PS.add_n {a b : UInt64} (ha : PS a) (hb : NB b) : vf_n64 (FP.dadd a b) := (ha.add hb).nn
theorem PS.add0 {a : UInt64} (ha : PS a) : FP.dadd a FP.dconst0 = a := by
  rw [FP.dadd_core]
  refine FP.Core.dadd_zero ha.val fun h => ?_
  subst h
  rcases ha with h | ⟨c, q, h⟩ <;> rw [FP.Core.val64_dzeroNeg] at h <;> cases h
theorem NB.zero : NB FP.dconst0 := ⟨false, 0, _, FP.Core.val64_dconst0, fun h => by cases h⟩
theorem NB.fin {b : UInt64} (h : NB b) : FP.Core.DFin b := by
  obtain ⟨t, d, r, h, -⟩ := h
  exact ⟨t, d, r, h⟩
theorem yd_dL {x y : UInt64} (h : ¬ dL x y < 0) : FP.Core.dcmp x y = some .gt ∨ FP.Core.dcmp x y = some .eq := by
  have e : dL x y = Op.cmpValue (FP.Core.dcmp x y) CmpOp.l := rfl
  rw [e] at h
  cases hc : FP.Core.dcmp x y with
  | none => rw [hc] at h; exact absurd (by decide) h
  | some o =>
    rw [hc] at h
    cases o with
    | lt => exact absurd (by decide) h
    | eq => exact Or.inr rfl
    | gt => exact Or.inl rfl
theorem yd_dG {x y : UInt64} (h : ¬ 0 < dG x y) : FP.Core.dcmp x y = some .lt ∨ FP.Core.dcmp x y = some .eq := by
  have e : dG x y = Op.cmpValue (FP.Core.dcmp x y) CmpOp.g := rfl
  rw [e] at h
  cases hc : FP.Core.dcmp x y with
  | none => rw [hc] at h; exact absurd (by decide) h
  | some o =>
    rw [hc] at h
    cases o with
    | lt => exact Or.inl rfl
    | eq => exact Or.inr rfl
    | gt => exact absurd (by decide) h
theorem yd_fB {x a b : UInt64} (h : ¬ fB x a b = 0) : ¬ dL x a < 0 ∧ ¬ 0 < dG x b := by
  unfold fB at h
  split at h
  · exact absurd rfl h
  · rename_i h1
    split at h
    · exact absurd rfl h
    · rename_i h2
      exact ⟨h1, h2⟩
/-- a number from 0 to 1,000: its sign, and its magnitude's bits -/
theorem yd_mag {f : UInt64} (h : ¬ fB f FP.dconst0 4652007308841189376 = 0) : (f.toNat < 2 ^ 63 ∨ f.toNat = 2 ^ 63) ∧ f.toNat % 2 ^ 63 ≤ 4652007308841189376 := by
  obtain ⟨h1, h2⟩ := yd_fB h
  have g1 := yd_dL h1
  have g2 := yd_dG h2
  have n1 : FP.Core.val64 f ≠ .nan := by rcases g1 with g | g <;> exact (FP.Core.dcmp_some g).1
  have z1 : FP.Core.val64 FP.dconst0 ≠ .nan := by rcases g1 with g | g <;> exact (FP.Core.dcmp_some g).2
  have z2 : FP.Core.val64 4652007308841189376 ≠ .nan := by rcases g2 with g | g <;> exact (FP.Core.dcmp_some g).2
  have k0 : FP.Core.dkey FP.dconst0 = 0 := by decide +kernel
  have k1 : FP.Core.dkey 4652007308841189376 = 4652007308841189376 := by decide +kernel
  have a1 : 0 ≤ FP.Core.dkey f := by
    rcases g1 with g | g
    · have := (FP.Core.dcmp_gt_key n1 z1).mp g; omega
    · have := (FP.Core.dcmp_eq_key n1 z1).mp g; omega
  have a2 : FP.Core.dkey f ≤ 4652007308841189376 := by
    rcases g2 with g | g
    · have := (FP.Core.dcmp_lt_key n1 z2).mp g; omega
    · have := (FP.Core.dcmp_eq_key n1 z2).mp g; omega
  unfold FP.Core.dkey at a1 a2
  split at a1 <;> omega
theorem yd_NB {f : UInt64} (h : ¬ fB f FP.dconst0 4652007308841189376 = 0) : NB f := by
  obtain ⟨h1, h2⟩ := yd_mag h
  obtain ⟨t, d, r, hv⟩ := (FP.Core.fin_bits f).mpr (by omega)
  refine ⟨t, d, r, hv, fun ht => ?_⟩
  subst ht
  rcases h1 with h1 | h1
  · exfalso
    have e : FP.Core.decode FP.Core.b64 f.toNat = .fin true d r := hv
    have hs : FP.Core.fieldS FP.Core.b64 f.toNat = true := by
      unfold FP.Core.decode at e
      split at e
      · split at e <;> cases e
      · split at e <;> (injection e)
    unfold FP.Core.fieldS at hs
    have e1 : FP.Core.b64.tails = 2 ^ 52 := rfl
    have e2 : FP.Core.b64.exps = 2 ^ 11 := rfl
    rw [e1, e2, Nat.div_div_eq_div_mul] at hs
    have : f.toNat / (2 ^ 52 * 2 ^ 11) = 0 := Nat.div_eq_of_lt (by omega)
    rw [this] at hs
    cases hs
  · have : f = 9223372036854775808 := UInt64.toNat_inj.mp (by rw [h1]; rfl)
    rw [this, show FP.Core.val64 9223372036854775808 = .fin true 0 FP.Core.b64.qmin from FP.Core.val64_dzeroNeg] at hv
    injection hv with _ h _
    exact h.symm
theorem yd_half {f : UInt64} (h : ¬ fB f FP.dconst0 4652007308841189376 = 0) : NB (FP.dmul f 4602678819172646912) := by
  obtain ⟨-, h2⟩ := yd_mag h
  have hm := FP.Core.dmul_mag (a := f) (b := 4602678819172646912) (Ka := 1033) (Kb := 1023) (by omega) (by decide) (by decide) (by decide)
  obtain ⟨t, d, r, hv⟩ := (FP.Core.fin_bits (FP.Core.dmul f 4602678819172646912)).mpr (by omega)
  refine ⟨t, d, r, hv, fun ht => ?_⟩
  obtain ⟨t2, d2, r2, hf, h0⟩ := yd_NB h
  have hh : FP.Core.val64 4602678819172646912 = .fin false (2 ^ 52) (-53) := by decide +kernel
  rw [FP.Core.val64_dmul, hf, hh] at hv
  have hv : FP.Core.round FP.Core.b64 (.fin (t2 != false) (d2 * 2 ^ 52) (r2 + -53)) = .fin t d r := hv
  cases t2 with
  | true =>
    rw [h0 rfl, Nat.zero_mul] at hv
    have e : FP.Core.round FP.Core.b64 (.fin (true != false) 0 (r2 + -53)) = .fin true 0 FP.Core.b64.qmin := rfl
    rw [e] at hv
    injection hv with _ h _
    exact h.symm
  | false =>
    have e : ((false != false) : Bool) = false := rfl
    rw [e] at hv
    subst ht
    rcases yd_round (d2 * 2 ^ 52) (r2 + -53) with g | ⟨c', q', g⟩ <;> rw [g] at hv <;> cases hv
/-! alike -/
theorem y_al (x y : UInt64) : alike64 x y = true ↔ x = y ∨ (isNaN64 x = true ∧ isNaN64 y = true) := by simp [alike64]
theorem y_al_refl (x : UInt64) : alike64 x x = true := (y_al x x).mpr (Or.inl rfl)
theorem y_al_trans {x y z : UInt64} (h1 : alike64 x y = true) (h2 : alike64 y z = true) : alike64 x z = true := by
  rw [y_al] at *
  rcases h1 with rfl | ⟨a, b⟩
  · exact h2
  · rcases h2 with rfl | ⟨c, d⟩
    · exact Or.inr ⟨a, b⟩
    · exact Or.inr ⟨a, d⟩
theorem y_al_symm {x y : UInt64} (h1 : alike64 x y = true) : alike64 y x = true := by
  rw [y_al] at *
  rcases h1 with rfl | ⟨a, b⟩
  · exact Or.inl rfl
  · exact Or.inr ⟨b, a⟩
theorem y_nan_add {a b : UInt64} (h : isNaN64 a = true) : isNaN64 (FP.dadd a b) = true := by
  rw [yd_nan] at *
  rw [FP.Core.dIsNaN_iff] at *
  exact FP.Core.dadd_nan (Or.inl h)
theorem y_al_add {r a b : UInt64} (h : alike64 r a = true) : alike64 (FP.dadd r b) (FP.dadd a b) = true := by
  rw [y_al] at *
  rcases h with rfl | ⟨h1, h2⟩
  · exact Or.inl rfl
  · exact Or.inr ⟨y_nan_add h1, y_nan_add h2⟩
/-- two answers that are alike to one number: they are equal, or none equals itself -/
theorem y_al_cmp {p q v : UInt64} (h1 : alike64 p v = true) (h2 : alike64 q v = true) : dL p q = 0 ∨ (¬ dL p q = 0 ∧ ¬ dL p p = 0 ∧ ¬ dL q q = 0) := by
  have h := y_al_trans h1 (y_al_symm h2)
  rw [y_al] at h
  have nan : ∀ a b : UInt64, isNaN64 a = true → ¬ dL a b = 0 := fun a b ha => by
    have e : dL a b = Op.cmpValue (FP.Core.dcmp a b) CmpOp.l := rfl
    rw [e, (FP.Core.dcmp_none a b).mpr (Or.inl ((FP.Core.dIsNaN_iff a).mp ((yd_nan a).mp ha)))]
    decide
  rcases h with rfl | ⟨a, b⟩
  · by_cases hn : isNaN64 p = true
    · exact Or.inr ⟨nan p p hn, nan p p hn, nan p p hn⟩
    · refine Or.inl ?_
      have e : dL p p = Op.cmpValue (FP.Core.dcmp p p) CmpOp.l := rfl
      rw [e, FP.Core.dcmp_self (fun h => hn ((yd_nan p).mpr ((FP.Core.dIsNaN_iff p).mpr h)))]
      decide
  · exact Or.inr ⟨nan p q a, nan p p a, nan q q b⟩
/-- what is told of the cleaner -/
def fU (w : Int32) (wa ou ba : UInt64) : UInt64 := if w = 0 then wa else if w = 1 then ou else if w = 2 then ba else if w = 3 then FP.dadd (FP.dsub 4652007308841189376 ou) ba else 13830554455654793216
