/-! a run's step: what stays where only run j and its stay are written -/
def same (j a : Nat) (S S' : Nat → Nat → Int32) (T T' : Nat → Nat → UInt64) : Prop :=
  (S' 1 = S 1 ∧ S' 2 = S 2 ∧ S' 3 = S 3 ∧ S' 4 = S 4 ∧ S' 8 = S 8 ∧ S' 9 = S 9 ∧ S' 11 = S 11 ∧ S' 22 = S 22 ∧ T' 5 = T 5 ∧ T' 6 = T 6) ∧
  (∀ i, i ≠ j → (S' 10 i = S 10 i ∧ S' 12 i = S 12 i ∧ S' 13 i = S 13 i ∧ S' 14 i = S 14 i ∧ S' 15 i = S 15 i ∧ S' 17 i = S 17 i) ∧ T' 16 i = T 16 i ∧ T' 18 i = T 18 i ∧ T' 19 i = T 19 i ∧ T' 20 i = T 20 i) ∧
  (∀ k, k ≠ 12 * j + a → S' 21 k = S 21 k ∧ S' 23 k = S 23 k)
theorem fS_ext {f g : Nat → Int32} {b : Nat} (h : ∀ k, k < 12 → f (b + k) = g (b + k)) : fS f b = fS g b := by
  unfold fS
  rw [h 0 (by decide), h 1 (by decide), h 2 (by decide), h 3 (by decide), h 4 (by decide), h 5 (by decide), h 6 (by decide), h 7 (by decide), h 8 (by decide), h 9 (by decide), h 10 (by decide), h 11 (by decide)]
theorem fS_0 {f : Nat → Int32} {b : Nat} (h : ∀ k, k < 12 → f (b + k) = 0) : fS f b = 0 := by
  unfold fS
  rw [h 0 (by decide), h 1 (by decide), h 2 (by decide), h 3 (by decide), h 4 (by decide), h 5 (by decide), h 6 (by decide), h 7 (by decide), h 8 (by decide), h 9 (by decide), h 10 (by decide), h 11 (by decide)]
  decide
theorem y_alc (a b c : Int32) : a + (b + c) = b + (a + c) := by rw [← Int32.add_assoc, Int32.add_comm a b, Int32.add_assoc]
theorem fS_inc (f : Nat → Int32) (b a : Nat) (ha : a < 12) : fS (upd f (b + a) (f (b + a) + 1)) b = fS f b + 1 := by
  have hs : ∀ x : Int32, upd f (b + a) x (b + a) = x := fun x => pk_us
  have hn : ∀ (x : Int32) (k : Nat), k ≠ a → upd f (b + a) x (b + k) = f (b + k) := fun x k hk => pk_un (by omega)
  have cases12 : a = 0 ∨ a = 1 ∨ a = 2 ∨ a = 3 ∨ a = 4 ∨ a = 5 ∨ a = 6 ∨ a = 7 ∨ a = 8 ∨ a = 9 ∨ a = 10 ∨ a = 11 := by omega
  unfold fS
  rcases cases12 with h | h | h | h | h | h | h | h | h | h | h | h <;> subst h <;> simp only [hs] <;> simp (disch := decide) only [hn] <;> simp only [Int32.add_assoc, Int32.add_comm, y_alc]
section upd
variable {D : va_G} {t : Nat → ClassId} {x0 m0 : Nat} {ad : GK → Nat} {G : Nat → Nat → Nat → Int32} {nr nn : Nat} {S S' : Nat → Nat → Int32} {T T' : Nat → Nat → UInt64} {ZM : St} {j : Nat}
theorem same_at (h : same j (atN S j) S S' T T') (i : Nat) : atN S' i = atN S i := by unfold atN; rw [h.1.2.2.2.2.2.2.1]
theorem same_of (h : same j (atN S j) S S' T T') (i : Nat) : ofN S' i = ofN S i := by unfold ofN; rw [h.1.2.2.2.2.1]
theorem same_le (h : same j (atN S j) S S' T T') (r : Nat) : leN S' r = leN S r := by unfold leN; rw [h.1.1]
theorem eA_upd (h : same j (atN S j) S S' T T') (h12 : ∀ i, i < nn → atN S i < 12) (hj : j < nn) (k : GK) (h4 : k ≠ (4, j, 0)) (h6 : k ≠ (6, j, atN S j)) : eA t ad G (nr, nn, S', T') ZM k = eA t ad G (nr, nn, S, T) ZM k := by
  have ha := same_at h
  have ho := same_of h
  have hl := same_le h
  obtain ⟨⟨s1, s2, s3, s4, s8, s9, s11, s22, t5, t6⟩, hi, hk⟩ := h
  obtain ⟨k1, k2, k3⟩ := k
  unfold eA
  by_cases c7 : k1 = 7
  · simp only [c7, if_true]
  · simp only [c7, if_false]
    unfold eI
    simp only
    by_cases c0 : k1 = 0
    · simp only [c0, if_true]
    · simp only [c0, if_false]
      by_cases c1 : k1 = 1
      · simp only [c1, if_true, oR, s1, s2]
      · simp only [c1, if_false]
        by_cases c2 : k1 = 2
        · simp only [c2, if_true, hl]
        · simp only [c2, if_false]
          by_cases c3 : k1 = 3
          · simp only [c3, if_true, hl, oP, s3, s4, t5, t6]
          · simp only [c3, if_false]
            by_cases c4 : k1 = 4
            · simp only [c4, if_true]
              by_cases cc : k3 = 0 ∧ k2 < nn
              · rw [if_pos cc, if_pos cc]
                have hne : k2 ≠ j := fun e => h4 (by rw [c4, e, cc.1])
                obtain ⟨⟨i10, i12, i13, i14, i15, i17⟩, i16, i18, i19, i20⟩ := hi k2 hne
                have hf : fS (S' 21) (12 * k2) = fS (S 21) (12 * k2) := fS_ext fun q hq => (hk _ (by have := h12 j hj; omega)).1
                unfold oU
                rw [ho, ha, s9, i10, i12, i16, i17, i18, i19, i20, hf]
              · rw [if_neg cc, if_neg cc]
            · simp only [c4, if_false]
              by_cases c5 : k1 = 5
              · simp only [c5, if_true, ha]
              · simp only [c5, if_false]
                by_cases c6 : k1 = 6
                · simp only [c6, if_true, ha]
                  by_cases cc : k2 < nn ∧ k3 < atN S k2 + 1
                  · rw [if_pos cc, if_pos cc]
                    have hk12 := h12 k2 cc.1
                    have hj12 := h12 j hj
                    have hne : 12 * k2 + k3 ≠ 12 * j + atN S j := by
                      intro e
                      have e1 : k2 = j := by omega
                      subst e1
                      exact h6 (by rw [c6, show k3 = atN S k2 by omega])
                    obtain ⟨e21, e23⟩ := hk _ hne
                    unfold oT gG
                    rw [ho, ha, s22, e21, e23]
                    by_cases cj : k2 = j
                    · subst cj
                      have : ¬ k3 = atN S k2 := fun e => hne (by rw [e])
                      simp only [this, if_false]
                    · obtain ⟨⟨i10, i12, i13, i14, i15, i17⟩, -⟩ := hi k2 cj
                      rw [i13, i14, i15]
                  · rw [if_neg cc, if_neg cc]
                · simp only [c6, if_false]
theorem gOb_run (h : same j (atN S j) S S' T T') (h12 : ∀ i, i < nn → atN S i < 12) (hj : j < nn) (hx : ad (0, 0, 0) = x0) (hm : ad (7, 0, 0) = m0) {ks : List (GK × va_E)} {w : List (GK × Nat × va_E)} (hkw : ∀ x ∈ ks, ∃ z ∈ w, z.1 = x.1)
    (hw : ∀ x ∈ w, eA t ad G (nr, nn, S', T') ZM x.1 = some x.2.2 ∧ ad x.1 = x.2.1) (h4 : ∃ x ∈ w, x.1 = (4, j, 0)) (h6 : (∃ x ∈ w, x.1 = (6, j, atN S j)) ∨ eA t ad G (nr, nn, S', T') ZM (6, j, atN S j) = eA t ad G (nr, nn, S, T) ZM (6, j, atN S j)) : gOb D t x0 m0 (nr, nn, S, T) ZM (nr, nn, S', T') ZM ad G ks w := by
  refine ⟨ad, G, hx, hm, hkw, hw, fun k e hk => ?_⟩
  by_cases c4 : k = (4, j, 0)
  · subst c4; exact Or.inl h4
  · by_cases c6 : k = (6, j, atN S j)
    · subst c6
      rcases h6 with h6 | h6
      · exact Or.inl h6
      · rw [h6] at hk; exact Or.inr ⟨hk, rfl⟩
    · rw [eA_upd h h12 hj k c4 c6] at hk
      exact Or.inr ⟨hk, rfl⟩
theorem inv_run (hv : Inv (nr, nn, S, T)) (hj : j < nn) (h : same j (atN S j) S S' T T') (hu : vU nr S' T' j) : Inv (nr, nn, S', T') := by
  obtain ⟨⟨h10, h30⟩, hR, hR0, hU, hU0⟩ := hv
  simp only at h10 h30 hR hR0 hU hU0
  have ha := same_at h
  have ho := same_of h
  have hl := same_le h
  obtain ⟨⟨s1, s2, s3, s4, s8, s9, s11, s22, t5, t6⟩, hi, hk⟩ := h
  have hj12 : atN S j < 12 := by
    have h1 := (hU j hj).1
    have h2 := (hR _ h1.1).2.1
    omega
  refine ⟨⟨h10, h30⟩, fun r hr => ?_, fun r hr hr2 => ?_, fun i hin => ?_, fun i hin hi2 => ?_⟩
  · obtain ⟨a1, a2, a3, a4⟩ := hR r hr
    show vR S' r
    refine ⟨?_, ?_, ?_, ?_⟩
    · rw [hl, s1]; exact a1
    · rw [hl]; exact a2
    · show S' 2 r = 0 ∨ S' 2 r = 1
      rw [s2]; exact a3
    · intro k hk'
      rw [hl] at hk'
      show kd5 (S' 3 _) ∧ ∃ n, 1 ≤ n ∧ n ≤ 3600 ∧ S' 4 _ = nI n
      rw [s3, s4]
      exact a4 k hk'
  · show S' 1 r = 0 ∧ S' 2 r = 0
    rw [s1, s2]; exact hR0 r hr hr2
  · by_cases c : i = j
    · subst c; exact hu
    · obtain ⟨⟨b1, b2, b3, b4, b5⟩, ⟨b6, b7, b8, b9, b10⟩, b11, b12⟩ := hU i hin
      obtain ⟨⟨i10, i12, i13, i14, i15, i17⟩, i16, i18, i19, i20⟩ := hi i c
      have hi12 : atN S i < 12 := by
        have h2 := (hR _ b1).2.1
        omega
      show vU nr S' T' i
      refine ⟨⟨?_, ?_, ?_, ?_, ?_⟩, ⟨?_, ?_, ?_, ?_, ?_⟩, ?_, ?_⟩
      · rw [ho]; exact b1
      · rw [ho, s8]; exact b2
      · rw [ho, s2]; exact b3
      · rw [ha, s11]; exact b4
      · rw [ha, ho, hl]; exact b5
      · rw [i10]; exact b6
      · rw [i10, i17]; exact b7
      · rw [i18]; exact b8
      · rw [i19]; exact b9
      · rw [i20]; exact b10
      · intro k hk1 hk2
        rw [ha] at hk1
        rw [(hk _ (by omega)).1]
        exact b11 k hk1 hk2
      · intro hst
        rw [i10] at hst
        unfold vC
        rw [ha, ho, i13, i14, s4, (hk (12 * i + atN S i) (by omega)).1]
        exact b12 hst
  · have hin9 : nn ≤ i := hin
    have c : i ≠ j := by omega
    obtain ⟨⟨i10, i12, i13, i14, i15, i17⟩, i16, i18, i19, i20⟩ := hi i c
    show v0 S' T' i
    obtain ⟨⟨d1, d2, d3, d4, d5, d6⟩, ⟨d7, d8, d9, d10⟩, d11⟩ := hU0 i hin hi2
    refine ⟨⟨?_, ?_, ?_, ?_, ?_, ?_⟩, ⟨?_, ?_, ?_, ?_⟩, fun k hk' => ?_⟩
    · rw [s11]; exact d1
    · rw [i12]; exact d2
    · rw [i13]; exact d3
    · rw [i14]; exact d4
    · rw [i15]; exact d5
    · rw [i17]; exact d6
    · rw [i16]; exact d7
    · rw [i18]; exact d8
    · rw [i19]; exact d9
    · rw [i20]; exact d10
    · rw [(hk (12 * i + k) (by omega)).1, s22]; exact d11 k hk'
end upd
theorem uB_0 (k h : Int32) (ba f : UInt64) : uB k 0 h ba f = ba := by
  unfold uB
  split
  · split
    · rename_i h1; exact absurd h1 (by decide)
    · rfl
  · rfl
