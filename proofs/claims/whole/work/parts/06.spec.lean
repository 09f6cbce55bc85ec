/-! what the small methods answer, in their own branches' words -/
abbrev dL (x y : UInt64) : Int32 := Op.cmpValue (FP.dcmp x y) CmpOp.l
abbrev dG (x y : UInt64) : Int32 := Op.cmpValue (FP.dcmp x y) CmpOp.g
theorem y_toInt {x : Int32} {n : Int} (h : x.toInt = n) (y : Int32) (hy : y.toInt = n) : x = y := Int32.toInt_inj.mp (h.trans hy.symm)
theorem y_out4 {x : Int32} (h0 : ¬ x = 0) (h1 : ¬ x = 1) (h2 : ¬ x = 2) (h3 : ¬ x = 3) : x.toInt < 0 ∨ 3 < x.toInt := by
  rcases (show x.toInt < 0 ∨ 3 < x.toInt ∨ x.toInt = 0 ∨ x.toInt = 1 ∨ x.toInt = 2 ∨ x.toInt = 3 by omega) with h | h | h | h | h | h
  · exact Or.inl h
  · exact Or.inr h
  · exact absurd (y_toInt h 0 (by decide)) h0
  · exact absurd (y_toInt h 1 (by decide)) h1
  · exact absurd (y_toInt h 2 (by decide)) h2
  · exact absurd (y_toInt h 3 (by decide)) h3
theorem y_same {D : va_G} {t : Nat → ClassId} {s : State} {cA : ClassId} {ty : FieldType} (h : va_K D vwCl (yT t ++ [(cA, ty)]) s) (i : Nat) (hi : (yT t)[i]? = some (t i, ty)) : cA = t i := by
  have h1 := (h.2 7 (cA, ty) rfl).2
  have h2 := (h.2 i (t i, ty) (by rw [List.getElem?_append_left (List.getElem?_eq_some_iff.mp hi).1]; exact hi)).2
  cases ty with
  | object C =>
    obtain ⟨_, _, _, _, _, e1⟩ := h1
    obtain ⟨_, _, _, _, _, e2⟩ := h2
    exact Option.some.inj (e1.symm.trans e2)
  | _ => exact Option.some.inj (Eq.trans (Eq.symm h1) h2)
/-- water is used, not cleaner -/
def fW (k : Int32) : Int32 := if k = 0 then 1 else if k = 4 then 1 else 0
/-- a step holds: kind, strength, degrees of the step; strength, degrees, flow measured -/
def fH (k : Int32) (sg dg : UInt64) (s d f : UInt64) : Int32 :=
  if k = 0 then (if dL f FP.dconst1 < 0 then 0 else if 0 < dG s sg then 0 else 1)
  else if k = 1 then (if dL f FP.dconst1 < 0 then 0 else if dL s sg < 0 then 0 else if dL d dg < 0 then 0 else 1)
  else if k = 2 then (if dL f FP.dconst1 < 0 then 0 else if dL s sg < 0 then 0 else if dL d dg < 0 then 0 else 1)
  else if k = 3 then (if dL f 4602678819172646912 < 0 then 0 else if dL d dg < 0 then 0 else 1)
  else (if 0 < dG f 4593671619917905920 then 0 else 1)
/-- an interface's value is passed -/
def fP (k : Int32) (s v : UInt64) : Int32 := if fW k = 0 then (if dL s v < 0 then 0 else 1) else (if 0 < dG s v then 0 else 1)
/-- a run is over -/
def fO (st : Int32) : Int32 := if st = 2 then 1 else if st = 3 then 1 else if st = 4 then 1 else 0
/-- a number lies within -/
def fB (x a b : UInt64) : Int32 := if dL x a < 0 then 0 else if 0 < dG x b then 0 else 1
/-- what a stay tells -/
def fT (kd fl fs es w : Int32) : Int32 := if w = 0 then kd else if w = 1 then fl else if w = 2 then fs else if w = 3 then es else -1
