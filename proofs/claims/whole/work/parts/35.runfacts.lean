/-! facts for the runs' next states -/
theorem hkw_pre {ks : List (GK × va_E)} {w : List (GK × Nat × va_E)} (new : List GK) (h : w.map (fun x => x.1) = ks.map (fun x => x.1) ++ new) : ∀ x ∈ ks, ∃ z ∈ w, z.1 = x.1 := by
  intro x hx
  have h1 : x.1 ∈ w.map (fun x => x.1) := by rw [h]; exact List.mem_append_left _ (List.mem_map.mpr ⟨x, hx, rfl⟩)
  obtain ⟨z, hz, e⟩ := List.mem_map.mp h1
  exact ⟨z, hz, e⟩
section rf
variable {t : Nat → ClassId} {ad : GK → Nat} {G : Nat → Nat → Nat → Int32} {nr nn : Nat} {S S' : Nat → Nat → Int32} {T T' : Nat → Nat → UInt64} {ZM : St} {j : Nat}
theorem e_4g {v10 v12 vF v17 : Int32} {w16 w18 w19 w20 : UInt64} (hs : same j (atN S j) S S' T T') (hj : j < nn) (f10 : S' 10 j = v10) (f12 : S' 12 j = v12) (fF : fS (S' 21) (12 * j) = vF) (f17 : S' 17 j = v17) (g16 : T' 16 j = w16) (g18 : T' 18 j = w18) (g19 : T' 19 j = w19) (g20 : T' 20 j = w20) :
    eA t ad G (nr, nn, S', T') ZM (4, j, 0) = some (.inr (1, [.ref (ad (1, ofN S j, 0)), .int (S 9 j), .ref (ad (5, j, 0)), .ref (ad (6, j, atN S j)), .int (nI (atN S j + 1)), .int v10, .int v12, .int vF, .int (if v17 ≤ 0 then 0 else 1), .double w16, .int v17, .double w18, .double w19, .double w20])) := by
  rw [e_4 hj f10, same_of hs, same_at hs, hs.1.2.2.2.2.2.1, f12, fF, f17, g16, g18, g19, g20]
theorem e_6g {v13 v14 v15 v21 v23 : Int32} (hs : same j (atN S j) S S' T T') (hj : j < nn) (f13 : S' 13 j = v13) (f14 : S' 14 j = v14) (f15 : S' 15 j = v15) (f21 : S' 21 (12 * j + atN S j) = v21) (f23 : S' 23 (12 * j + atN S j) = v23) :
    eA t ad G (nr, nn, S', T') ZM (6, j, atN S j) = some (.inr (2, [.ref (ad (3, ofN S j, atN S j)), .int (S 22 (12 * j + atN S j)), .int v23, .int v15, .int v13, .int v14, .int v21])) := by
  have h := e_6c (t := t) (ad := ad) (G := G) (nr := nr) (S := S') (T := T') (ZM := ZM) hj
  rw [same_at hs, same_of hs, hs.1.2.2.2.2.2.2.2.1, f13, f14, f15, f21, f23] at h
  exact h
theorem mkU {v10 : Int32} (hs : same j (atN S j) S S' T T') (hU : vU nr S T j) (h10 : kd5 v10) (f10 : S' 10 j = v10) (hw : v10 = 0 → 0 < S' 17 j) (p18 : PS (T' 18 j)) (p19 : PS (T' 19 j)) (p20 : PS (T' 20 j))
    (hC : v10 = 0 ∨ v10 = 1 → ∃ c n m f, S' 13 j = nI c ∧ S 4 (12 * ofN S j + atN S j) = nI n ∧ c < n ∧ n ≤ 3600 ∧ S' 14 j = nI m ∧ m < 30 ∧ S' 21 (12 * j + atN S j) = nI f ∧ f < 3) : vU nr S' T' j := by
  obtain ⟨⟨b1, b2, b3, b4, b5⟩, -, b11, -⟩ := hU
  have ha := same_at hs
  have ho := same_of hs
  have hl := same_le hs
  obtain ⟨⟨s1, s2, s3, s4, s8, s9, s11, s22, t5, t6⟩, hi, hk⟩ := hs
  refine ⟨⟨?_, ?_, ?_, ?_, ?_⟩, ⟨?_, ?_, p18, p19, p20⟩, ?_, ?_⟩
  · rw [ho]; exact b1
  · rw [ho, s8]; exact b2
  · rw [ho, s2]; exact b3
  · rw [ha, s11]; exact b4
  · rw [ha, ho, hl]; exact b5
  · rw [f10]; exact h10
  · rw [f10]; exact hw
  · intro k hk1 hk2
    rw [ha] at hk1
    rw [(hk _ (by omega)).1]
    exact b11 k hk1 hk2
  · intro hst
    rw [f10] at hst
    unfold vC
    rw [ha, ho, s4]
    exact hC hst
end rf
theorem PS_uW {k : Int32} {wa f : UInt64} (h : PS wa) (hf : NB f) : PS (uW k wa f) := by
  unfold uW; split
  · exact h
  · exact h.add hf
theorem PS_uO {k : Int32} {wa f : UInt64} (h : PS wa) (hf : NB f) : PS (uO k wa f) := by
  unfold uO; split
  · exact h.add hf
  · exact h
theorem PS_uB {k st hh : Int32} {wa f : UInt64} (h : PS wa) (hf : NB f) (hf2 : NB (FP.dmul f 4602678819172646912)) : PS (uB k st hh wa f) := by
  unfold uB; split
  · split
    · split
      · exact h.add hf2
      · exact h.add hf
    · exact h
  · exact h
theorem tk_N {m1 m2 m3 a b c : UInt64} (hk : okT m1 m2 m3) (ha : PS a) (hb : PS b) (hc : PS c) : uN a b c m3 := by
  have h1 := yd_NB hk.2.1
  have h2 := yd_half hk.2.1
  exact ⟨ha.add_n h1, hb.add_n h1, hc.add_n h1, (yd_n _).mpr h2.fin.notNaN, hc.add_n h2⟩
theorem fN_over {st : Int32} (h : kd5 st) (h0 : ¬ st = 0) (h1 : ¬ st = 1) : fN st = 0 ∧ ¬ fO st = 0 := by
  rcases h with h | h | h | h | h
  · exact absurd h h0
  · exact absurd h h1
  · subst h; exact ⟨rfl, by decide⟩
  · subst h; exact ⟨rfl, by decide⟩
  · subst h; exact ⟨rfl, by decide⟩
theorem fN_on {st : Int32} (h : st = 0 ∨ st = 1) : ¬ fN st = 0 ∧ fO st = 0 := by
  rcases h with h | h
  · subst h; exact ⟨by decide, rfl⟩
  · subst h; exact ⟨by decide, rfl⟩
/-- one more key -/
def aUp (ad : GK → Nat) (k0 : GK) (v : Nat) : GK → Nat := fun k => if k = k0 then v else ad k
theorem aUp_ne {ad : GK → Nat} {k0 k : GK} {v : Nat} (h : k ≠ k0) : aUp ad k0 v k = ad k := if_neg h
theorem aUp_eq {ad : GK → Nat} {k0 : GK} {v : Nat} : aUp ad k0 v k0 = v := if_pos rfl
