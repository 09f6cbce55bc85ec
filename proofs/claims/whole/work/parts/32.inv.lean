/-! WHAT HOLDS OF A STATE: nr recipes, nn runs -/
def kd5 (x : Int32) : Prop := x = 0 ∨ x = 1 ∨ x = 2 ∨ x = 3 ∨ x = 4
/-- a recipe -/
def vR (S : Nat → Nat → Int32) (r : Nat) : Prop := S 1 r = nI (leN S r) ∧ leN S r ≤ 12 ∧ (S 2 r = 0 ∨ S 2 r = 1) ∧ ∀ k, k < leN S r → kd5 (S 3 (12 * r + k)) ∧ ∃ n, 1 ≤ n ∧ n ≤ 3600 ∧ S 4 (12 * r + k) = nI n
/-- what is counted while a run is on -/
def vC (S : Nat → Nat → Int32) (j : Nat) : Prop := ∃ c n m f, S 13 j = nI c ∧ S 4 (12 * ofN S j + atN S j) = nI n ∧ c < n ∧ n ≤ 3600 ∧ S 14 j = nI m ∧ m < 30 ∧ S 21 (12 * j + atN S j) = nI f ∧ f < 3
/-- a run -/
def vU (nr : Nat) (S : Nat → Nat → Int32) (T : Nat → Nat → UInt64) (j : Nat) : Prop := (ofN S j < nr ∧ S 8 j = nI (ofN S j) ∧ S 2 (ofN S j) = 1 ∧ S 11 j = nI (atN S j) ∧ atN S j < leN S (ofN S j)) ∧ (kd5 (S 10 j) ∧ (S 10 j = 0 → 0 < S 17 j) ∧ PS (T 18 j) ∧ PS (T 19 j) ∧ PS (T 20 j)) ∧ (∀ k, atN S j < k → k < 12 → S 21 (12 * j + k) = 0) ∧ (S 10 j = 0 ∨ S 10 j = 1 → vC S j)
/-- the rows of a run that was not begun -/
def v0 (S : Nat → Nat → Int32) (T : Nat → Nat → UInt64) (j : Nat) : Prop := (S 11 j = 0 ∧ S 12 j = 0 ∧ S 13 j = 0 ∧ S 14 j = 0 ∧ S 15 j = 0 ∧ S 17 j = 0) ∧ (T 16 j = FP.dconst0 ∧ T 18 j = FP.dconst0 ∧ T 19 j = FP.dconst0 ∧ T 20 j = FP.dconst0) ∧ ∀ k, k < 12 → S 21 (12 * j + k) = 0 ∧ S 22 (12 * j + k) = 0
def Inv (Z : St) : Prop := (Z.1 ≤ 10 ∧ Z.2.1 ≤ 30) ∧ (∀ r, r < Z.1 → vR Z.2.2.1 r) ∧ (∀ r, Z.1 ≤ r → r < 10 → Z.2.2.1 1 r = 0 ∧ Z.2.2.1 2 r = 0) ∧ (∀ j, j < Z.2.1 → vU Z.1 Z.2.2.1 Z.2.2.2 j) ∧ ∀ j, Z.2.1 ≤ j → j < 30 → v0 Z.2.2.1 Z.2.2.2 j
theorem y_ix (k : Int32) {n : Nat} (hn : n < 2 ^ 31) : (k < 0 ∨ nI n ≤ k) ∨ ∃ j : Nat, j < n ∧ k = nI j := by
  rcases pk_ix k hn with h | h | h
  · exact Or.inl (Or.inl h)
  · exact Or.inl (Or.inr h)
  · exact Or.inr h
/-- both come to one answer and one next state -/
def bothI (l : Launch) (D : va_G) (t : Nat → ClassId) (base x0 m0 : Nat) (yI : MethodName) (wsI : List Cond) (rI : Room) (mcI msI : Nat) (yM : MethodName) (wsM : List Cond) (rM : Room) (as : List Value) (Z : St) : Prop :=
  ∃ (ans : Int32) (Z' : St), Inv Z' ∧ Met l yI wsI rI (va_Pc (.ref x0 :: as) (GP D t base x0 m0 Z Z)) (va_Qi (fun x (_ : Unit) => x = ans) (fun _ tt => GP D t base x0 m0 Z' Z tt) (fun q => base ≤ q)) mcI msI (fun q => base ≤ q) ∧
    Met l yM wsM rM (va_Pc (.ref m0 :: as) (GP D t base x0 m0 Z' Z)) (va_Qi (fun x (_ : Unit) => x = ans) (fun _ tt => GP D t base x0 m0 Z' Z' tt) (fun q => base ≤ q)) 0 0 (fun q => base ≤ q)
def bothL (l : Launch) (D : va_G) (t : Nat → ClassId) (base x0 m0 : Nat) (yI : MethodName) (wsI : List Cond) (rI : Room) (yM : MethodName) (wsM : List Cond) (rM : Room) (as : List Value) (Z : St) : Prop :=
  ∃ (ans : Int64), Met l yI wsI rI (va_Pc (.ref x0 :: as) (GP D t base x0 m0 Z Z)) (va_Ql (fun x (_ : Unit) => x = ans) (fun _ tt => GP D t base x0 m0 Z Z tt) (fun q => base ≤ q)) 0 0 (fun q => base ≤ q) ∧
    Met l yM wsM rM (va_Pc (.ref m0 :: as) (GP D t base x0 m0 Z Z)) (va_Ql (fun x (_ : Unit) => x = ans) (fun _ tt => GP D t base x0 m0 Z Z tt) (fun q => base ≤ q)) 0 0 (fun q => base ≤ q)
def bothD (l : Launch) (D : va_G) (t : Nat → ClassId) (base x0 m0 : Nat) (yI : MethodName) (wsI : List Cond) (rI : Room) (yM : MethodName) (wsM : List Cond) (rM : Room) (as : List Value) (Z : St) : Prop :=
  ∃ (ans : UInt64), MetD lw_cs l yI wsI rI (va_Pc (.ref x0 :: as) (GP D t base x0 m0 Z Z)) (va_Qd (fun x (_ : Unit) => alike64 x ans = true) (fun _ tt => GP D t base x0 m0 Z Z tt) (fun q => base ≤ q)) 0 0 (fun q => base ≤ q) ∧
    MetD lw_cs l yM wsM rM (va_Pc (.ref m0 :: as) (GP D t base x0 m0 Z Z)) (va_Qd (fun x (_ : Unit) => alike64 x ans = true) (fun _ tt => GP D t base x0 m0 Z Z tt) (fun q => base ≤ q)) 0 0 (fun q => base ≤ q)
section reads
variable {l : Launch} {y : MethodName} {ws : List Cond} {rm : Room} {mc ms : Nat} {D : va_G} {t : Nat → ClassId} {base x0 m0 : Nat} {ZI ZM : St} {av : List Value}
theorem gN_same (ad : GK → Nat) (ks : List (GK × va_E)) : gN (ks.map (fun x => (x.1, ad x.1, x.2))) = gL ad ks := by simp [gN, gL, Function.comp_def]
theorem gr_int {ans : Int32} (h : ∀ (sz : Nat) (ad : GK → Nat) (G : Nat → Nat → Nat → Int32), ad (0, 0, 0) = x0 → ad (7, 0, 0) = m0 → ∃ (ks : List (GK × va_E)), (∀ x ∈ ks, eA t ad G ZI ZM x.1 = some x.2) ∧ (ks.map (fun x => x.1)).Nodup ∧
      Met l y ws rm (va_Pc av (yS D t sz (gL ad ks))) (va_Qi (fun x (_ : Unit) => x = ans) (fun _ tt => yB D t (va_A (gL ad ks) sz) (gL ad ks) tt) (va_A (gL ad ks) sz)) mc ms (va_A (gL ad ks) sz)) :
    Met l y ws rm (va_Pc av (GP D t base x0 m0 ZI ZM)) (va_Qi (fun x (_ : Unit) => x = ans) (fun _ tt => GP D t base x0 m0 ZI ZM tt) (fun q => base ≤ q)) mc ms (fun q => base ≤ q) :=
  g_int fun sz ad G hx hm => by
    obtain ⟨ks, hks, hnd, hM⟩ := h sz ad G hx hm
    refine ⟨ks, Unit, _, fun _ => ks.map (fun x => (x.1, ad x.1, x.2)), hks, hnd, ?_, fun x u hpo => ⟨hpo, gOb_same hx hm ks hks⟩⟩
    dsimp only
    rw [gN_same]
    exact hM
theorem gr_long {ans : Int64} (h : ∀ (sz : Nat) (ad : GK → Nat) (G : Nat → Nat → Nat → Int32), ad (0, 0, 0) = x0 → ad (7, 0, 0) = m0 → ∃ (ks : List (GK × va_E)), (∀ x ∈ ks, eA t ad G ZI ZM x.1 = some x.2) ∧ (ks.map (fun x => x.1)).Nodup ∧
      Met l y ws rm (va_Pc av (yS D t sz (gL ad ks))) (va_Ql (fun x (_ : Unit) => x = ans) (fun _ tt => yB D t (va_A (gL ad ks) sz) (gL ad ks) tt) (va_A (gL ad ks) sz)) mc ms (va_A (gL ad ks) sz)) :
    Met l y ws rm (va_Pc av (GP D t base x0 m0 ZI ZM)) (va_Ql (fun x (_ : Unit) => x = ans) (fun _ tt => GP D t base x0 m0 ZI ZM tt) (fun q => base ≤ q)) mc ms (fun q => base ≤ q) :=
  g_long fun sz ad G hx hm => by
    obtain ⟨ks, hks, hnd, hM⟩ := h sz ad G hx hm
    refine ⟨ks, Unit, _, fun _ => ks.map (fun x => (x.1, ad x.1, x.2)), hks, hnd, ?_, fun x u hpo => ⟨hpo, gOb_same hx hm ks hks⟩⟩
    dsimp only
    rw [gN_same]
    exact hM
theorem gr_dbl {ans : UInt64} {post : UInt64 → Unit → Prop} (hpost : ∀ x u, post x u → alike64 x ans = true) (h : ∀ (sz : Nat) (ad : GK → Nat) (G : Nat → Nat → Nat → Int32), ad (0, 0, 0) = x0 → ad (7, 0, 0) = m0 → ∃ (ks : List (GK × va_E)), (∀ x ∈ ks, eA t ad G ZI ZM x.1 = some x.2) ∧ (ks.map (fun x => x.1)).Nodup ∧
      MetD lw_cs l y ws rm (va_Pc av (yS D t sz (gL ad ks))) (va_Qd post (fun _ tt => yB D t (va_A (gL ad ks) sz) (gL ad ks) tt) (va_A (gL ad ks) sz)) mc ms (va_A (gL ad ks) sz)) :
    MetD lw_cs l y ws rm (va_Pc av (GP D t base x0 m0 ZI ZM)) (va_Qd (fun x (_ : Unit) => alike64 x ans = true) (fun _ tt => GP D t base x0 m0 ZI ZM tt) (fun q => base ≤ q)) mc ms (fun q => base ≤ q) :=
  g_dbl fun sz ad G hx hm => by
    obtain ⟨ks, hks, hnd, hM⟩ := h sz ad G hx hm
    refine ⟨ks, Unit, post, fun _ => ks.map (fun x => (x.1, ad x.1, x.2)), hks, hnd, ?_, fun x u hpo => ⟨hpost x u hpo, gOb_same hx hm ks hks⟩⟩
    dsimp only
    rw [gN_same]
    exact hM
end reads
theorem met_ans {l : Launch} {y : MethodName} {ws : List Cond} {rm : Room} {mc ms : Nat} {Pc : Array Value → State → Prop} {B : Unit → State → Prop} {A free : Nat → Prop} {a b : Int32} (h : a = b) (hM : Met l y ws rm Pc (va_Qi (fun x (_ : Unit) => x = a) B A) mc ms free) : Met l y ws rm Pc (va_Qi (fun x (_ : Unit) => x = b) B A) mc ms free := h ▸ hM
