/-! a run begins its next step -/
def sameN (j a : Nat) (S S' : Nat → Nat → Int32) (T T' : Nat → Nat → UInt64) : Prop :=
  (S' 1 = S 1 ∧ S' 2 = S 2 ∧ S' 3 = S 3 ∧ S' 4 = S 4 ∧ S' 8 = S 8 ∧ S' 9 = S 9 ∧ S' 21 = S 21 ∧ T' 5 = T 5 ∧ T' 6 = T 6) ∧
  (∀ i, i ≠ j → (S' 10 i = S 10 i ∧ S' 11 i = S 11 i ∧ S' 12 i = S 12 i ∧ S' 13 i = S 13 i ∧ S' 14 i = S 14 i ∧ S' 15 i = S 15 i ∧ S' 17 i = S 17 i) ∧ T' 16 i = T 16 i ∧ T' 18 i = T 18 i ∧ T' 19 i = T 19 i ∧ T' 20 i = T 20 i) ∧
  (∀ k, k ≠ 12 * j + a → k ≠ 12 * j + (a + 1) → S' 23 k = S 23 k) ∧ (∀ k, k ≠ 12 * j + (a + 1) → S' 22 k = S 22 k) ∧ S' 11 j = nI (a + 1)
section nxt
variable {D : va_G} {t : Nat → ClassId} {x0 m0 : Nat} {ad ad' : GK → Nat} {G G' : Nat → Nat → Nat → Int32} {nr nn : Nat} {S S' : Nat → Nat → Int32} {T T' : Nat → Nat → UInt64} {ZM : St} {j : Nat}
theorem sN_of (h : sameN j (atN S j) S S' T T') (i : Nat) : ofN S' i = ofN S i := by unfold ofN; rw [h.1.2.2.2.2.1]
theorem sN_le (h : sameN j (atN S j) S S' T T') (r : Nat) : leN S' r = leN S r := by unfold leN; rw [h.1.1]
theorem sN_at (h : sameN j (atN S j) S S' T T') (i : Nat) (hi : i ≠ j) : atN S' i = atN S i := by unfold atN; rw [(h.2.1 i hi).1.2.1]
theorem sN_atj (h : sameN j (atN S j) S S' T T') (h12 : atN S j + 1 < 12) : atN S' j = atN S j + 1 := by
  have e := h.2.2.2.2
  show (S' 11 j).toNatClampNeg = _
  rw [e, nI_clamp (by omega)]
theorem eA_next (h : sameN j (atN S j) S S' T T') (h12 : ∀ i, i < nn → atN S i < 12) (hj : j < nn) (hj12 : atN S j + 1 < 12) (had : ∀ k, k ≠ (6, j, atN S j + 1) → ad' k = ad k) (hG : ∀ i j' k, ¬ (j' = j ∧ k = atN S j) → G' i j' k = G i j' k)
    (k : GK) (h4 : k ≠ (4, j, 0)) (h5 : k ≠ (5, j, 0)) (h6 : k ≠ (6, j, atN S j)) (h6' : k ≠ (6, j, atN S j + 1)) : eA t ad' G' (nr, nn, S', T') ZM k = eA t ad G (nr, nn, S, T) ZM k := by
  have ho := sN_of h
  have hl := sN_le h
  have ha := sN_at h
  have haj := sN_atj h hj12
  obtain ⟨⟨s1, s2, s3, s4, s8, s9, s21, t5, t6⟩, hi, hk23, hk22, -⟩ := h
  have adn : ∀ g r q : Nat, g ≠ 6 → ad' (g, r, q) = ad (g, r, q) := fun g r q hg => had _ (fun e => hg (congrArg (fun z : GK => z.1) e))
  have ad6 : ∀ r q : Nat, r ≠ j → ad' (6, r, q) = ad (6, r, q) := fun r q hr => had _ (fun e => hr (congrArg (fun z : GK => z.2.1) e))
  have eR : ∀ n, rfR ad' n = rfR ad n := fun n => by funext r; show (if r < n then some (ad' (1, r, 0)) else none) = _; rw [adn 1 r 0 (by decide)]
  have eU : ∀ n, rfU ad' n = rfU ad n := fun n => by funext r; show (if r < n then some (ad' (4, r, 0)) else none) = _; rw [adn 4 r 0 (by decide)]
  have eP : ∀ r n, rfP ad' r n = rfP ad r n := fun r n => by funext q; show (if q < n then some (ad' (3, r, q)) else none) = _; rw [adn 3 r q (by decide)]
  have eY : ∀ r n, r ≠ j → rfY ad' r n = rfY ad r n := fun r n hr => by funext q; show (if q < n then some (ad' (6, r, q)) else none) = _; rw [ad6 r q hr]
  obtain ⟨k1, k2, k3⟩ := k
  unfold eA
  by_cases c7 : k1 = 7
  · simp only [c7, if_true]
    unfold eM oM
    simp only [adn 7 _ _ (by decide)]
  · simp only [c7, if_false]
    unfold eI
    simp only
    by_cases c0 : k1 = 0
    · simp only [c0, if_true, oC, eR, eU, adn 0 _ _ (by decide)]
    · simp only [c0, if_false]
      by_cases c1 : k1 = 1
      · simp only [c1, if_true, oR, s1, s2, adn 2 _ _ (by decide)]
      · simp only [c1, if_false]
        by_cases c2 : k1 = 2
        · simp only [c2, if_true, hl, eP]
        · simp only [c2, if_false]
          by_cases c3 : k1 = 3
          · simp only [c3, if_true, hl, oP, s3, s4, t5, t6]
          · simp only [c3, if_false]
            by_cases c4 : k1 = 4
            · simp only [c4, if_true]
              by_cases cc : k3 = 0 ∧ k2 < nn
              · rw [if_pos cc, if_pos cc]
                have hne : k2 ≠ j := fun e => h4 (by rw [c4, e, cc.1])
                obtain ⟨⟨i10, i11, i12, i13, i14, i15, i17⟩, i16, i18, i19, i20⟩ := hi k2 hne
                unfold oU
                rw [ho, ha k2 hne, s9, i10, i12, i16, i17, i18, i19, i20, s21, adn 1 _ _ (by decide), adn 5 _ _ (by decide), ad6 _ _ hne]
              · rw [if_neg cc, if_neg cc]
            · simp only [c4, if_false]
              by_cases c5 : k1 = 5
              · simp only [c5, if_true]
                by_cases cc : k3 = 0 ∧ k2 < nn
                · rw [if_pos cc, if_pos cc]
                  have hne : k2 ≠ j := fun e => h5 (by rw [c5, e, cc.1])
                  simp only [ha k2 hne, eY _ _ hne]
                · rw [if_neg cc, if_neg cc]
              · simp only [c5, if_false]
                by_cases c6 : k1 = 6
                · simp only [c6, if_true]
                  by_cases hkj : k2 = j
                  · subst hkj
                    have n1 : k3 ≠ atN S k2 := fun e => h6 (by rw [c6, e])
                    have n2 : k3 ≠ atN S k2 + 1 := fun e => h6' (by rw [c6, e])
                    rw [haj]
                    by_cases cc : k2 < nn ∧ k3 < atN S k2 + 1
                    · rw [if_pos cc, if_pos ⟨cc.1, by omega⟩]
                      unfold oT gG
                      rw [haj, ho, hk22 _ (by omega), hk23 _ (by omega) (by omega), s21, adn 3 _ _ (by decide)]
                      simp only [n1, n2, if_false]
                      rw [hG _ _ _ (fun e => n1 e.2), hG _ _ _ (fun e => n1 e.2), hG _ _ _ (fun e => n1 e.2)]
                    · rw [if_neg cc, if_neg (fun e => cc ⟨e.1, by omega⟩)]
                  · rw [ha k2 hkj]
                    by_cases cc : k2 < nn ∧ k3 < atN S k2 + 1
                    · rw [if_pos cc, if_pos cc]
                      have hk12 := h12 k2 cc.1
                      obtain ⟨⟨i10, i11, i12, i13, i14, i15, i17⟩, -⟩ := hi k2 hkj
                      unfold oT gG
                      rw [ha k2 hkj, ho, hk22 _ (by omega), hk23 _ (by omega) (by omega), s21, i13, i14, i15, adn 3 _ _ (by decide), hG _ _ _ (fun e => hkj e.1), hG _ _ _ (fun e => hkj e.1), hG _ _ _ (fun e => hkj e.1)]
                    · rw [if_neg cc, if_neg cc]
                · simp only [c6, if_false]
theorem gOb_next (h : sameN j (atN S j) S S' T T') (h12 : ∀ i, i < nn → atN S i < 12) (hj : j < nn) (hj12 : atN S j + 1 < 12) (had : ∀ k, k ≠ (6, j, atN S j + 1) → ad' k = ad k) (hG : ∀ i j' k, ¬ (j' = j ∧ k = atN S j) → G' i j' k = G i j' k) (hx : ad (0, 0, 0) = x0) (hm : ad (7, 0, 0) = m0) {ks : List (GK × va_E)} {w : List (GK × Nat × va_E)} (hkw : ∀ x ∈ ks, ∃ z ∈ w, z.1 = x.1)
    (hw : ∀ x ∈ w, eA t ad' G' (nr, nn, S', T') ZM x.1 = some x.2.2 ∧ ad' x.1 = x.2.1) (h4 : ∃ x ∈ w, x.1 = (4, j, 0)) (h5 : ∃ x ∈ w, x.1 = (5, j, 0)) (h6 : ∃ x ∈ w, x.1 = (6, j, atN S j)) (h6' : ∃ x ∈ w, x.1 = (6, j, atN S j + 1)) : gOb D t x0 m0 (nr, nn, S, T) ZM (nr, nn, S', T') ZM ad G ks w := by
  refine ⟨ad', G', (had _ (fun e => absurd (congrArg (fun z : GK => z.1) e) (by simp))).trans hx, (had _ (fun e => absurd (congrArg (fun z : GK => z.1) e) (by simp))).trans hm, hkw, hw, fun k e hk => ?_⟩
  by_cases c4 : k = (4, j, 0)
  · subst c4; exact Or.inl h4
  by_cases c5 : k = (5, j, 0)
  · subst c5; exact Or.inl h5
  by_cases c6 : k = (6, j, atN S j)
  · subst c6; exact Or.inl h6
  by_cases c6' : k = (6, j, atN S j + 1)
  · subst c6'; exact Or.inl h6'
  rw [eA_next h h12 hj hj12 had hG k c4 c5 c6 c6'] at hk
  exact Or.inr ⟨hk, had k c6'⟩
theorem inv_next (hv : Inv (nr, nn, S, T)) (hj : j < nn) (h : sameN j (atN S j) S S' T T') (hal : atN S j + 1 < leN S (ofN S j)) {v10 : Int32} (f10 : S' 10 j = v10) (h10' : kd5 v10) (hw : v10 = 0 → 0 < S' 17 j) (p18 : PS (T' 18 j)) (p19 : PS (T' 19 j)) (p20 : PS (T' 20 j)) (f13 : S' 13 j = 0) (f14 : S' 14 j = 0) : Inv (nr, nn, S', T') := by
  obtain ⟨⟨h10, h30⟩, hR, hR0, hU, hU0⟩ := hv
  simp only at h10 h30 hR hR0 hU hU0
  have ho := sN_of h
  have hl := sN_le h
  have ha := sN_at h
  obtain ⟨⟨g1, g2, g3, g4, g5⟩, ⟨g6, g7, g8, g9, g10⟩, g11, g12⟩ := hU j hj
  have hl12 := (hR _ g1).2.1
  have hj12 : atN S j + 1 < 12 := by omega
  have haj := sN_atj h hj12
  obtain ⟨⟨s1, s2, s3, s4, s8, s9, s21, t5, t6⟩, hi, hk23, hk22, e11⟩ := h
  refine ⟨⟨h10, h30⟩, fun r hr => ?_, fun r hr hr2 => ?_, fun i hin => ?_, fun i hin hi2 => ?_⟩
  · obtain ⟨a1, a2, a3, a4⟩ := hR r hr
    show vR S' r
    refine ⟨?_, ?_, ?_, ?_⟩
    · rw [hl, s1]; exact a1
    · rw [hl]; exact a2
    · rw [s2]; exact a3
    · intro k hk'
      rw [hl] at hk'
      rw [s3, s4]
      exact a4 k hk'
  · show S' 1 r = 0 ∧ S' 2 r = 0
    rw [s1, s2]; exact hR0 r hr hr2
  · show vU nr S' T' i
    by_cases c : i = j
    · subst c
      refine ⟨⟨?_, ?_, ?_, ?_, ?_⟩, ⟨?_, ?_, p18, p19, p20⟩, ?_, ?_⟩
      · rw [ho]; exact g1
      · rw [ho, s8]; exact g2
      · rw [ho, s2]; exact g3
      · rw [haj]; exact e11
      · rw [haj, ho, hl]; exact hal
      · rw [f10]; exact h10'
      · rw [f10]; exact hw
      · intro k hk1 hk2
        rw [haj] at hk1
        rw [s21]
        exact g11 k (by omega) hk2
      · intro _
        obtain ⟨-, -, -, a4⟩ := hR _ g1
        obtain ⟨-, n, n1, n2, n3⟩ := a4 (atN S i + 1) hal
        unfold vC
        rw [haj, ho, s4, s21, f13, f14]
        exact ⟨0, n, 0, 0, rfl, n3, by omega, n2, rfl, by decide, by rw [g11 (atN S i + 1) (by omega) (by omega)]; rfl, by decide⟩
    · obtain ⟨⟨b1, b2, b3, b4, b5⟩, ⟨b6, b7, b8, b9, b10⟩, b11, b12⟩ := hU i hin
      obtain ⟨⟨i10, i11, i12, i13, i14, i15, i17⟩, i16, i18, i19, i20⟩ := hi i c
      refine ⟨⟨?_, ?_, ?_, ?_, ?_⟩, ⟨?_, ?_, ?_, ?_, ?_⟩, ?_, ?_⟩
      · rw [ho]; exact b1
      · rw [ho, s8]; exact b2
      · rw [ho, s2]; exact b3
      · rw [ha i c, i11]; exact b4
      · rw [ha i c, ho, hl]; exact b5
      · rw [i10]; exact b6
      · rw [i10, i17]; exact b7
      · rw [i18]; exact b8
      · rw [i19]; exact b9
      · rw [i20]; exact b10
      · rw [ha i c, s21]; exact b11
      · intro hst
        rw [i10] at hst
        unfold vC
        rw [ha i c, ho, i13, i14, s4, s21]
        exact b12 hst
  · have hin9 : nn ≤ i := hin
    have c : i ≠ j := by omega
    obtain ⟨⟨i10, i11, i12, i13, i14, i15, i17⟩, i16, i18, i19, i20⟩ := hi i c
    show v0 S' T' i
    obtain ⟨⟨d1, d2, d3, d4, d5, d6⟩, ⟨d7, d8, d9, d10⟩, d11⟩ := hU0 i hin hi2
    refine ⟨⟨?_, ?_, ?_, ?_, ?_, ?_⟩, ⟨?_, ?_, ?_, ?_⟩, fun k hk' => ?_⟩
    · rw [i11]; exact d1
    · rw [i12]; exact d2
    · rw [i13]; exact d3
    · rw [i14]; exact d4
    · rw [i15]; exact d5
    · rw [i17]; exact d6
    · rw [i16]; exact d7
    · rw [i18]; exact d8
    · rw [i19]; exact d9
    · rw [i20]; exact d10
    · rw [s21, hk22 (12 * i + k) (by omega)]; exact d11 k hk'
/-! the cells behind it -/
theorem e_4n (h : sameN j (atN S j) S S' T T') (hj : j < nn) (hj12 : atN S j + 1 < 12) (had : ∀ k, k ≠ (6, j, atN S j + 1) → ad' k = ad k) {q : Nat} (hq : ad' (6, j, atN S j + 1) = q) {v10 v12 v17 : Int32} {w16 w18 w19 w20 : UInt64} (f10 : S' 10 j = v10) (f12 : S' 12 j = v12) (f17 : S' 17 j = v17) (g16 : T' 16 j = w16) (g18 : T' 18 j = w18) (g19 : T' 19 j = w19) (g20 : T' 20 j = w20) :
    eA t ad' G' (nr, nn, S', T') ZM (4, j, 0) = some (.inr (1, [.ref (ad (1, ofN S j, 0)), .int (S 9 j), .ref (ad (5, j, 0)), .ref q, .int (nI (atN S j + 1) + 1), .int v10, .int v12, .int (fS (S 21) (12 * j)), .int (if v17 ≤ 0 then 0 else 1), .double w16, .int v17, .double w18, .double w19, .double w20])) := by
  have a1 : ad' (1, ofN S j, 0) = ad (1, ofN S j, 0) := had _ (fun e => absurd (congrArg (fun z : GK => z.1) e) (by simp))
  have a5 : ad' (5, j, 0) = ad (5, j, 0) := had _ (fun e => absurd (congrArg (fun z : GK => z.1) e) (by simp))
  rw [e_4 hj f10, sN_of h, sN_atj h hj12, h.1.2.2.2.2.2.1, f12, f17, g16, g18, g19, g20, hq, a1, a5, h.1.2.2.2.2.2.2.1, nI_1]
theorem e_5n (h : sameN j (atN S j) S S' T T') (hj : j < nn) (hj12 : atN S j + 1 < 12) (had : ∀ k, k ≠ (6, j, atN S j + 1) → ad' k = ad k) {q : Nat} (hq : ad' (6, j, atN S j + 1) = q) :
    eA t ad' G' (nr, nn, S', T') ZM (5, j, 0) = some (.inl (t 5, 12, rfs (va_up (rfY ad j (atN S j + 1)) (atN S j + 1) (some q)))) := by
  rw [e_5 hj, sN_atj h hj12]
  have e : rfY ad' j (atN S j + 1 + 1) = va_up (rfY ad j (atN S j + 1)) (atN S j + 1) (some q) := by
    funext k
    unfold rfY va_up
    by_cases c : k = atN S j + 1
    · subst c
      simp only [if_true, hq]
      rw [if_pos (by omega)]
    · rw [if_neg c]
      by_cases c2 : k < atN S j + 1
      · dsimp only
        rw [if_pos (show k < atN S j + 1 + 1 by omega), if_pos c2, had _ (fun e => c (congrArg (fun z : GK => z.2.2) e))]
      · dsimp only
        rw [if_neg (show ¬ k < atN S j + 1 + 1 by omega), if_neg c2]
  rw [e]
theorem e_6n (h : sameN j (atN S j) S S' T T') (hj : j < nn) (hj12 : atN S j + 1 < 12) (had : ∀ k, k ≠ (6, j, atN S j + 1) → ad' k = ad k) {v23 v15 v13 v14 : Int32} (f23 : S' 23 (12 * j + atN S j) = v23) (c15 : G' 0 j (atN S j) = v15) (c13 : G' 1 j (atN S j) = v13) (c14 : G' 2 j (atN S j) = v14) :
    eA t ad' G' (nr, nn, S', T') ZM (6, j, atN S j) = some (.inr (2, [.ref (ad (3, ofN S j, atN S j)), .int (S 22 (12 * j + atN S j)), .int v23, .int v15, .int v13, .int v14, .int (S 21 (12 * j + atN S j))])) := by
  have a3 : ad' (3, ofN S j, atN S j) = ad (3, ofN S j, atN S j) := had _ (fun e => absurd (congrArg (fun z : GK => z.1) e) (by simp))
  rw [e_6 hj (by rw [sN_atj h hj12]; omega)]
  unfold gG
  rw [sN_atj h hj12, sN_of h, if_neg (by omega), if_neg (by omega), if_neg (by omega), c15, c13, c14, f23, h.2.2.2.1 _ (by omega), a3, h.1.2.2.2.2.2.2.1]
theorem e_6n' (h : sameN j (atN S j) S S' T T') (hj : j < nn) (hj12 : atN S j + 1 < 12) (had : ∀ k, k ≠ (6, j, atN S j + 1) → ad' k = ad k) {v22 v23 v13 v14 v15 v21 : Int32} (f22 : S' 22 (12 * j + (atN S j + 1)) = v22) (f23 : S' 23 (12 * j + (atN S j + 1)) = v23) (f15 : S' 15 j = v15) (f13 : S' 13 j = v13) (f14 : S' 14 j = v14) (f21 : S 21 (12 * j + (atN S j + 1)) = v21) :
    eA t ad' G' (nr, nn, S', T') ZM (6, j, atN S j + 1) = some (.inr (2, [.ref (ad (3, ofN S j, atN S j + 1)), .int v22, .int v23, .int v15, .int v13, .int v14, .int v21])) := by
  have a3 : ad' (3, ofN S j, atN S j + 1) = ad (3, ofN S j, atN S j + 1) := had _ (fun e => absurd (congrArg (fun z : GK => z.1) e) (by simp))
  rw [e_6 hj (by rw [sN_atj h hj12]; omega)]
  unfold gG
  rw [sN_atj h hj12, sN_of h, if_pos rfl, if_pos rfl, if_pos rfl, f15, f13, f14, f22, f23, a3, h.1.2.2.2.2.2.2.1, f21]
end nxt
