/-! THE WORLD BY KEYS: (tag, r, k). Tag 0: the object (0), its two arrays (1, 2); 1: recipe r; 2: its row of steps; 3: step k of recipe r; 4: run j; 5: its row of stays; 6: stay k of run j; 7: the check (0) and its arrays by the field's number -/
abbrev GK : Type := Nat × Nat × Nat
def gW (D : va_G) (A : Nat → Prop) (ad : GK → Nat) (E : GK → Option va_E) (H : Heap) : Prop :=
  (∀ k e, E k = some e → va_at D vwCl (ad k, e) H ∧ A (ad k)) ∧ ∀ k k' e e', E k = some e → E k' = some e' → ad k = ad k' → k = k'
abbrev gL (ad : GK → Nat) (ks : List (GK × va_E)) : va_W := ks.map (fun x => (ad x.1, x.2))
theorem gw_cut {D : va_G} {A : Nat → Prop} {ad : GK → Nat} {E : GK → Option va_E} {H : Heap} (hG : gW D A ad E H) (ks : List (GK × va_E)) (hks : ∀ x ∈ ks, E x.1 = some x.2) (hnd : (ks.map (fun x => x.1)).Nodup) : va_P D vwCl (gL ad ks) H ∧ va_D (fun _ => True) (gL ad ks) := by
  refine ⟨fun k q hq => ?_, fun i j p q hp hq hpq => ?_, fun _ _ _ => trivial⟩
  · rw [List.getElem?_map] at hq
    cases hk : ks[k]? with
    | none => rw [hk] at hq; cases hq
    | some x =>
      rw [hk] at hq
      cases hq
      exact (hG.1 x.1 x.2 (hks x (List.mem_of_getElem? hk))).1
  · rw [List.getElem?_map] at hp hq
    cases hi : ks[i]? with
    | none => rw [hi] at hp; cases hp
    | some x =>
      cases hj : ks[j]? with
      | none => rw [hj] at hq; cases hq
      | some z =>
        rw [hi] at hp
        rw [hj] at hq
        cases hp
        cases hq
        have e := hG.2 x.1 z.1 x.2 z.2 (hks x (List.mem_of_getElem? hi)) (hks z (List.mem_of_getElem? hj)) hpq
        have hli := (List.getElem?_eq_some_iff.mp hi).1
        have hlj := (List.getElem?_eq_some_iff.mp hj).1
        refine (List.getElem?_inj (l := ks.map (fun x => x.1)) (i := i) (j := j) (by simpa using hli) hnd).mp ?_
        rw [List.getElem?_map, List.getElem?_map, hi, hj]
        exact congrArg some e
abbrev gN (w : List (GK × Nat × va_E)) : va_W := w.map (fun x => x.2)
theorem gw_back {D : va_G} {A : Nat → Prop} {ad ad' : GK → Nat} {E E' : GK → Option va_E} {H H1 : Heap} (hG : gW D A ad E H) (ks : List (GK × va_E)) (hks : ∀ x ∈ ks, E x.1 = some x.2) (w1 : List (GK × Nat × va_E))
    (hP1 : va_P D vwCl (gN w1) H1) (hD1 : va_D (va_A (gL ad ks) H.size) (gN w1)) (hF : ∀ q : Nat, q < H.size → ¬ va_A (gL ad ks) H.size q → H1[q]? = H[q]?) (hA : ∀ q : Nat, H.size ≤ q → A q)
    (hkw : ∀ x ∈ ks, ∃ z ∈ w1, z.1 = x.1) (h1 : ∀ x ∈ w1, E' x.1 = some x.2.2 ∧ ad' x.1 = x.2.1) (h2 : ∀ k e, E' k = some e → (∃ x ∈ w1, x.1 = k) ∨ (E k = some e ∧ ad' k = ad k)) : gW D A ad' E' H1 := by
  have hAw : ∀ q, va_A (gL ad ks) H.size q → A q := by
    rintro q (⟨k, e, hk⟩ | hq)
    · rw [List.getElem?_map] at hk
      cases hx : ks[k]? with
      | none => rw [hx] at hk; cases hk
      | some x =>
        rw [hx] at hk
        cases hk
        exact (hG.1 x.1 x.2 (hks x (List.mem_of_getElem? hx))).2
    · exact hA q hq
  have at1 : ∀ x ∈ w1, ∃ i : Nat, (gN w1)[i]? = some x.2 ∧ w1[i]? = some x := by
    intro x hx
    obtain ⟨i, hi⟩ := List.getElem?_of_mem hx
    exact ⟨i, by rw [List.getElem?_map, hi]; rfl, hi⟩
  have new : ∀ x ∈ w1, va_at D vwCl (x.2.1, x.2.2) H1 ∧ va_A (gL ad ks) H.size x.2.1 := by
    intro x hx
    obtain ⟨i, hi, -⟩ := at1 x hx
    exact ⟨hP1 i x.2 hi, hD1.2 i x.2 hi⟩
  have old : ∀ k e, E k = some e → (∀ z ∈ w1, z.1 ≠ k) → ad k < H.size ∧ ¬ va_A (gL ad ks) H.size (ad k) := by
    intro k e hk hz
    have hlt := ((hG.1 k e hk).1).lt
    refine ⟨hlt, ?_⟩
    rintro (⟨i, e2, hi⟩ | hq)
    · rw [List.getElem?_map] at hi
      cases hx : ks[i]? with
      | none => rw [hx] at hi; cases hi
      | some x =>
        rw [hx] at hi
        have hm := List.mem_of_getElem? hx
        have e3 : ad x.1 = ad k := congrArg (fun o : Option (Nat × va_E) => (o.getD (0, .inr (0, []))).1) hi
        have e4 := hG.2 x.1 k x.2 e (hks x hm) hk e3
        obtain ⟨z, hz1, hz2⟩ := hkw x hm
        exact hz z hz1 (hz2.trans e4)
    · exact absurd hlt (Nat.not_lt.mpr hq)
  have cs : ∀ k e, E' k = some e → (∃ x ∈ w1, x.1 = k ∧ e = x.2.2 ∧ ad' k = x.2.1) ∨ (E k = some e ∧ ad' k = ad k ∧ ∀ z ∈ w1, z.1 ≠ k) := by
    intro k e hk
    by_cases hx : ∃ x ∈ w1, x.1 = k
    · obtain ⟨x, hx1, hx2⟩ := hx
      subst hx2
      obtain ⟨g1, g2⟩ := h1 x hx1
      rw [g1] at hk
      exact Or.inl ⟨x, hx1, rfl, (Option.some.inj hk).symm, g2⟩
    · rcases h2 k e hk with h | ⟨h, h'⟩
      · exact absurd h hx
      · exact Or.inr ⟨h, h', fun z hz he => hx ⟨z, hz, he⟩⟩
  refine ⟨fun k e hk => ?_, fun k k' e e' hk hk' hkk => ?_⟩
  · rcases cs k e hk with ⟨x, hx, rfl, rfl, ha⟩ | ⟨hE, ha, hz⟩
    · rw [ha]
      exact ⟨(new x hx).1, hAw _ (new x hx).2⟩
    · rw [ha]
      obtain ⟨g1, g2⟩ := old k e hE hz
      exact ⟨((hG.1 k e hE).1).kept (hF _ g1 g2), (hG.1 k e hE).2⟩
  · rcases cs k e hk with ⟨x, hx, rfl, rfl, ha⟩ | ⟨hE, ha, hz⟩ <;> rcases cs k' e' hk' with ⟨x', hx', rfl, rfl, ha'⟩ | ⟨hE', ha', hz'⟩
    · rw [ha, ha'] at hkk
      obtain ⟨i, hi, hi'⟩ := at1 x hx
      obtain ⟨i2, hi2, hi2'⟩ := at1 x' hx'
      have e := hD1.1 i i2 x.2 x'.2 hi hi2 hkk
      subst e
      rw [hi'] at hi2'
      cases hi2'
      rfl
    · rw [ha, ha'] at hkk
      have n := (new x hx).2
      rw [hkk] at n
      exact absurd n (old k' e' hE' hz').2
    · rw [ha, ha'] at hkk
      have n := (new x' hx').2
      rw [← hkk] at n
      exact absurd n (old k e hE hz).2
    · rw [ha, ha'] at hkk
      exact hG.2 k k' e e' hE hE' hkk
/-- contracts lifted: for every start one of them serves -/
theorem met_map {l : Launch} {y : MethodName} {ws : List Cond} {rm : Room} {mc ms : Nat} {Pc' : Array Value → State → Prop} {Qc' : Array Value → State → Outcome → State → Prop} {free' : Addr → Prop}
    (h : ∀ a s, Pc' a s → ∃ (Pc : Array Value → State → Prop) (Qc : Array Value → State → Outcome → State → Prop) (free : Addr → Prop), Met l y ws rm Pc Qc mc ms free ∧ Pc a s ∧ (∀ o t, Qc a s o t → Qc' a s o t) ∧ ∀ q, free q → free' q) : Met l y ws rm Pc' Qc' mc ms free' := by
  intro p e ha hc hk s m args below hf happ hP hK
  obtain ⟨Pc, Qc, free, hM, hp, hq, hfr⟩ := h args s hP
  obtain ⟨n, o, h1, h2, h3, h4, L, h5, h6⟩ := hM p e ha hc hk s m args below hf happ hp hK
  exact ⟨n, o, h1, h2, h3, hq o _ h4, L, h5, fun q hq => hfr _ (h6 q hq)⟩
theorem metD_map {l : Launch} {y : MethodName} {ws : List Cond} {rm : Room} {mc ms : Nat} {Pc' : Array Value → State → Prop} {Qc' : Array Value → State → Outcome → State → Prop} {free' : Addr → Prop}
    (h : ∀ a s, Pc' a s → ∃ (Pc : Array Value → State → Prop) (Qc : Array Value → State → Outcome → State → Prop) (free : Addr → Prop), MetD lw_cs l y ws rm Pc Qc mc ms free ∧ Pc a s ∧ (∀ o t d, Qc a (s.setDrawn d) o t → Qc' a (s.setDrawn d) o t) ∧ ∀ q, free q → free' q) : MetD lw_cs l y ws rm Pc' Qc' mc ms free' := by
  intro p e ha hc hk s m args below hf happ hP hK
  obtain ⟨Pc, Qc, free, hM, hp, hq, hfr⟩ := h args s hP
  obtain ⟨n, o, h1, h2, h3, d, h4, h5, L, h6, h7⟩ := hM p e ha hc hk s m args below hf happ hp hK
  exact ⟨n, o, h1, h2, h3, d, h4, hq o _ d h5, L, h6, fun q hq => hfr _ (h7 q hq)⟩
/-! WHAT THE CELLS HOLD: nr recipes, nn runs; S q i, T q i: the check's int and double arrays, by the field's number -/
abbrev St : Type := Nat × Nat × (Nat → Nat → Int32) × (Nat → Nat → UInt64)
def leN (S : Nat → Nat → Int32) (r : Nat) : Nat := (S 1 r).toNatClampNeg
def ofN (S : Nat → Nat → Int32) (j : Nat) : Nat := (S 8 j).toNatClampNeg
def atN (S : Nat → Nat → Int32) (j : Nat) : Nat := (S 11 j).toNatClampNeg
abbrev rfs (f : Nat → Option Nat) : (Nat → Int32) ⊕ (Nat → Int64) ⊕ (Nat → UInt32) ⊕ (Nat → UInt64) ⊕ (Nat → Option Nat) := .inr (.inr (.inr (.inr f)))
abbrev dbs (f : Nat → UInt64) : (Nat → Int32) ⊕ (Nat → Int64) ⊕ (Nat → UInt32) ⊕ (Nat → UInt64) ⊕ (Nat → Option Nat) := .inr (.inr (.inr (.inl f)))
abbrev rfR (ad : GK → Nat) (nr : Nat) : Nat → Option Nat := fun r => if r < nr then some (ad (1, r, 0)) else none
abbrev rfU (ad : GK → Nat) (nn : Nat) : Nat → Option Nat := fun j => if j < nn then some (ad (4, j, 0)) else none
abbrev rfP (ad : GK → Nat) (r n : Nat) : Nat → Option Nat := fun k => if k < n then some (ad (3, r, k)) else none
abbrev rfY (ad : GK → Nat) (j b : Nat) : Nat → Option Nat := fun k => if k < b then some (ad (6, j, k)) else none
def gG (S : Nat → Nat → Int32) (G : Nat → Nat → Nat → Int32) (q i j k : Nat) : Int32 := if k = atN S j then S q j else G i j k
def oC (ad : GK → Nat) (nr nn : Nat) : va_E := .inr (4, [.ref (ad (0, 1, 0)), .ref (ad (0, 2, 0)), .int (nI nr), .int (nI nn)])
def oR (ad : GK → Nat) (S : Nat → Nat → Int32) (r : Nat) : va_E := .inr (0, [.ref (ad (2, r, 0)), .int (S 1 r), .int (S 2 r)])
def oP (S : Nat → Nat → Int32) (T : Nat → Nat → UInt64) (r k : Nat) : va_E := .inr (3, [.int (S 3 (12 * r + k)), .int (S 4 (12 * r + k)), .double (T 5 (12 * r + k)), .double (T 6 (12 * r + k))])
def oU (ad : GK → Nat) (S : Nat → Nat → Int32) (T : Nat → Nat → UInt64) (j : Nat) : va_E := .inr (1, [.ref (ad (1, ofN S j, 0)), .int (S 9 j), .ref (ad (5, j, 0)), .ref (ad (6, j, atN S j)), .int (nI (atN S j + 1)), .int (S 10 j), .int (S 12 j), .int (fS (S 21) (12 * j)), .int (if S 17 j ≤ 0 then 0 else 1), .double (T 16 j), .int (S 17 j), .double (T 18 j), .double (T 19 j), .double (T 20 j)])
def oT (ad : GK → Nat) (S : Nat → Nat → Int32) (G : Nat → Nat → Nat → Int32) (j k : Nat) : va_E := .inr (2, [.ref (ad (3, ofN S j, k)), .int (S 22 (12 * j + k)), .int (S 23 (12 * j + k)), .int (gG S G 15 0 j k), .int (gG S G 13 1 j k), .int (gG S G 14 2 j k), .int (S 21 (12 * j + k))])
def eI (t : Nat → ClassId) (ad : GK → Nat) (G : Nat → Nat → Nat → Int32) (Z : St) (k : GK) : Option va_E :=
  if k.1 = 0 then (if k = (0, 0, 0) then some (oC ad Z.1 Z.2.1) else if k = (0, 1, 0) then some (.inl (t 3, 10, rfs (rfR ad Z.1))) else if k = (0, 2, 0) then some (.inl (t 4, 30, rfs (rfU ad Z.2.1))) else none)
  else if k.1 = 1 then (if k.2.2 = 0 ∧ k.2.1 < Z.1 then some (oR ad Z.2.2.1 k.2.1) else none)
  else if k.1 = 2 then (if k.2.2 = 0 ∧ k.2.1 < Z.1 then some (.inl (t 6, 12, rfs (rfP ad k.2.1 (leN Z.2.2.1 k.2.1)))) else none)
  else if k.1 = 3 then (if k.2.1 < Z.1 ∧ k.2.2 < leN Z.2.2.1 k.2.1 then some (oP Z.2.2.1 Z.2.2.2 k.2.1 k.2.2) else none)
  else if k.1 = 4 then (if k.2.2 = 0 ∧ k.2.1 < Z.2.1 then some (oU ad Z.2.2.1 Z.2.2.2 k.2.1) else none)
  else if k.1 = 5 then (if k.2.2 = 0 ∧ k.2.1 < Z.2.1 then some (.inl (t 5, 12, rfs (rfY ad k.2.1 (atN Z.2.2.1 k.2.1 + 1)))) else none)
  else if k.1 = 6 then (if k.2.1 < Z.2.1 ∧ k.2.2 < atN Z.2.2.1 k.2.1 + 1 then some (oT ad Z.2.2.1 G k.2.1 k.2.2) else none)
  else none
/-- the check's object -/
def oM (ad : GK → Nat) (nr nn : Nat) : va_E := .inr (5, [.int (nI nr), .ref (ad (7, 1, 0)), .ref (ad (7, 2, 0)), .ref (ad (7, 3, 0)), .ref (ad (7, 4, 0)), .ref (ad (7, 5, 0)), .ref (ad (7, 6, 0)), .int (nI nn), .ref (ad (7, 8, 0)), .ref (ad (7, 9, 0)), .ref (ad (7, 10, 0)), .ref (ad (7, 11, 0)), .ref (ad (7, 12, 0)), .ref (ad (7, 13, 0)), .ref (ad (7, 14, 0)), .ref (ad (7, 15, 0)), .ref (ad (7, 16, 0)), .ref (ad (7, 17, 0)), .ref (ad (7, 18, 0)), .ref (ad (7, 19, 0)), .ref (ad (7, 20, 0)), .ref (ad (7, 21, 0)), .ref (ad (7, 22, 0)), .ref (ad (7, 23, 0))])
/-- its arrays: the place of their class, their length; 0: none -/
def mTy : List (Nat × Nat) := [(0, 0), (0, 10), (1, 10), (0, 120), (0, 120), (2, 120), (2, 120), (0, 0), (0, 30), (0, 30), (0, 30), (0, 30), (0, 30), (0, 30), (0, 30), (0, 30), (2, 30), (0, 30), (2, 30), (2, 30), (2, 30), (0, 360), (0, 360), (0, 360)]
def oV (t : Nat → ClassId) (S : Nat → Nat → Int32) (T : Nat → Nat → UInt64) (q : Nat) : va_E := .inl (t (mTy.getD q (0, 0)).1, (mTy.getD q (0, 0)).2, if (mTy.getD q (0, 0)).1 = 2 then dbs (T q) else .inl (S q))
def eM (t : Nat → ClassId) (ad : GK → Nat) (Z : St) (k : GK) : Option va_E :=
  if k.2.2 = 0 then (if k.2.1 = 0 then some (oM ad Z.1 Z.2.1) else if 0 < (mTy.getD k.2.1 (0, 0)).2 then some (oV t Z.2.2.1 Z.2.2.2 k.2.1) else none) else none
/-- both systems: the class at ZI, the check at ZM -/
def eA (t : Nat → ClassId) (ad : GK → Nat) (G : Nat → Nat → Nat → Int32) (ZI ZM : St) (k : GK) : Option va_E := if k.1 = 7 then eM t ad ZM k else eI t ad G ZI k
/-- the world: base ≤ every cell -/
def GP (D : va_G) (t : Nat → ClassId) (base x0 m0 : Nat) (ZI ZM : St) (U : State) : Prop := ∃ (ad : GK → Nat) (G : Nat → Nat → Nat → Int32), ad (0, 0, 0) = x0 ∧ ad (7, 0, 0) = m0 ∧ base ≤ U.heap.size ∧ yK D t U ∧ gW D (fun q => base ≤ q) ad (eA t ad G ZI ZM) U.heap
