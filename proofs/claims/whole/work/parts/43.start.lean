set_option maxHeartbeats 4000000 in
set_option maxRecDepth 100000 in
theorem b_start (l : Launch) (D : va_G) (t : Nat → ClassId) (base x0 m0 : Nat) (Z : St) (hv : Inv Z) (k lv : Int32) : bothI l D t base x0 m0 yX4_start wsX4_start ({ frames := 3, cells := 3, slots := 33, locals := 57 } : Room) 3 33 yX5_start wsX5_start ({ frames := 0, cells := 0, slots := 0, locals := 0 } : Room) [.int k, .int lv] Z := by
  obtain ⟨nr, nn, S, T⟩ := Z
  obtain ⟨⟨h10, h30⟩, hR, hR0, hU, hU0⟩ := id hv
  simp only at h10 h30 hR hR0 hU hU0
  rcases y_ix k (n := nr) (by omega) with hk | ⟨j, hj, rfl⟩
  · refine ⟨(-1), (nr, nn, S, T), hv, ?_, ?_⟩
    · exact gr_int fun sz ad G hx hm => by
        subst hx
        exact ⟨[((0, 0, 0), .inr (4, [.ref (ad (0, 1, 0)), .ref (ad (0, 2, 0)), .int (nI nr), .int (nI nn)]))], (all1 e_0), by simp, (c_CR_start_no l D t sz (ad (0, 0, 0)) (ad (0, 1, 0)) (ad (0, 2, 0)) nr nn k lv hk)⟩
    · exact gm_int (nr, nn, S, T) [] (by decide) (by decide) (fun _ _ => rfl) (fun _ _ => rfl) (fun sz ad => (c_M_start_no l D t sz (ad (7, 0, 0)) (ad (7, 1, 0)) (ad (7, 2, 0)) (ad (7, 3, 0)) (ad (7, 4, 0)) (ad (7, 5, 0)) (ad (7, 6, 0)) (ad (7, 8, 0)) (ad (7, 9, 0)) (ad (7, 10, 0)) (ad (7, 11, 0)) (ad (7, 12, 0)) (ad (7, 13, 0)) (ad (7, 14, 0)) (ad (7, 15, 0)) (ad (7, 16, 0)) (ad (7, 17, 0)) (ad (7, 18, 0)) (ad (7, 19, 0)) (ad (7, 20, 0)) (ad (7, 21, 0)) (ad (7, 22, 0)) (ad (7, 23, 0)) nr nn k lv hk))
  · obtain ⟨hle, hl12, hb01, hsteps⟩ := hR j hj
    by_cases hlv : lv < 1 ∨ ¬ lv ≤ 9
    · refine ⟨(-1), (nr, nn, S, T), hv, ?_, ?_⟩
      · exact gr_int fun sz ad G hx hm => by
          subst hx
          exact ⟨[((0, 0, 0), .inr (4, [.ref (ad (0, 1, 0)), .ref (ad (0, 2, 0)), .int (nI nr), .int (nI nn)])), ((0, 1, 0), .inl (t 3, 10, .inr (.inr (.inr (.inr ((rfR ad nr)))))))], (allc e_0 (all1 e_01)), by simp, (c_CR_start_bad l D t sz (ad (0, 0, 0)) (ad (0, 1, 0)) (ad (0, 2, 0)) nr nn j (ad (1, j, 0)) lv (rfR ad nr) hj h10 (by simp [rfR, hj]) hlv)⟩
      · exact gm_int (nr, nn, S, T) [1] (by decide) (by decide) (fun _ _ => rfl) (fun _ _ => rfl) (fun sz ad => (c_M_start_bad l D t sz (ad (7, 0, 0)) (ad (7, 1, 0)) (ad (7, 2, 0)) (ad (7, 3, 0)) (ad (7, 4, 0)) (ad (7, 5, 0)) (ad (7, 6, 0)) (ad (7, 8, 0)) (ad (7, 9, 0)) (ad (7, 10, 0)) (ad (7, 11, 0)) (ad (7, 12, 0)) (ad (7, 13, 0)) (ad (7, 14, 0)) (ad (7, 15, 0)) (ad (7, 16, 0)) (ad (7, 17, 0)) (ad (7, 18, 0)) (ad (7, 19, 0)) (ad (7, 20, 0)) (ad (7, 21, 0)) (ad (7, 22, 0)) (ad (7, 23, 0)) nr nn (S 1) j lv hj h10 (fun h9 => hlv.elim h9.2.1 (fun h8 => h8 h9.2.2))))
    · have hl1 : ¬ lv < 1 := fun h => hlv (Or.inl h)
      have hl9 : lv ≤ 9 := Classical.byContradiction fun h => hlv (Or.inr h)
      by_cases hz : leN S j = 0
      · have hz0 : S 1 j = 0 := by rw [hle, hz]; rfl
        refine ⟨(-1), (nr, nn, S, T), hv, ?_, ?_⟩
        · exact gr_int fun sz ad G hx hm => by
            subst hx
            exact ⟨[((0, 0, 0), .inr (4, [.ref (ad (0, 1, 0)), .ref (ad (0, 2, 0)), .int (nI nr), .int (nI nn)])), ((0, 1, 0), .inl (t 3, 10, .inr (.inr (.inr (.inr ((rfR ad nr))))))), ((1, j, 0), .inr (0, [.ref (ad (2, j, 0)), .int (nI (leN S j)), .int (S 2 j)])), ((2, j, 0), .inl (t 6, 12, .inr (.inr (.inr (.inr ((rfP ad j (leN S j))))))))], (allc e_0 (allc e_01 (allc (e_1 hj hle rfl) (all1 (e_2 hj))))), by simp, (c_CR_start_empty l D t sz (ad (0, 0, 0)) (ad (0, 1, 0)) (ad (0, 2, 0)) nr nn j (ad (1, j, 0)) (ad (2, j, 0)) (leN S j) (S 2 j) lv (rfR ad nr) (rfP ad j (leN S j)) hj h10 (by simp [rfR, hj]) hl1 hl9 hz)⟩
        · exact gm_int (nr, nn, S, T) [1] (by decide) (by decide) (fun _ _ => rfl) (fun _ _ => rfl) (fun sz ad => (c_M_start_bad l D t sz (ad (7, 0, 0)) (ad (7, 1, 0)) (ad (7, 2, 0)) (ad (7, 3, 0)) (ad (7, 4, 0)) (ad (7, 5, 0)) (ad (7, 6, 0)) (ad (7, 8, 0)) (ad (7, 9, 0)) (ad (7, 10, 0)) (ad (7, 11, 0)) (ad (7, 12, 0)) (ad (7, 13, 0)) (ad (7, 14, 0)) (ad (7, 15, 0)) (ad (7, 16, 0)) (ad (7, 17, 0)) (ad (7, 18, 0)) (ad (7, 19, 0)) (ad (7, 20, 0)) (ad (7, 21, 0)) (ad (7, 22, 0)) (ad (7, 23, 0)) nr nn (S 1) j lv hj h10 (fun h9 => h9.1 hz0)))
      · have hz1 : ¬ S 1 j = 0 := by rw [hle]; exact nI_ne0 (by omega) (by omega)
        by_cases hfull : nn = 30
        · refine ⟨(-2), (nr, nn, S, T), hv, ?_, ?_⟩
          · exact gr_int fun sz ad G hx hm => by
              subst hx
              exact ⟨[((0, 0, 0), .inr (4, [.ref (ad (0, 1, 0)), .ref (ad (0, 2, 0)), .int (nI nr), .int (nI nn)])), ((0, 1, 0), .inl (t 3, 10, .inr (.inr (.inr (.inr ((rfR ad nr))))))), ((1, j, 0), .inr (0, [.ref (ad (2, j, 0)), .int (nI (leN S j)), .int (S 2 j)])), ((2, j, 0), .inl (t 6, 12, .inr (.inr (.inr (.inr ((rfP ad j (leN S j)))))))), ((0, 2, 0), .inl (t 4, 30, .inr (.inr (.inr (.inr ((rfU ad nn)))))))], (allc e_0 (allc e_01 (allc (e_1 hj hle rfl) (allc (e_2 hj) (all1 e_02))))), by simp, (c_CR_start_full l D t sz (ad (0, 0, 0)) (ad (0, 1, 0)) (ad (0, 2, 0)) nr nn j (ad (1, j, 0)) (ad (2, j, 0)) (leN S j) (ad (3, j, 0)) (S 2 j) lv (rfR ad nr) (rfP ad j (leN S j)) (rfU ad nn) hj h10 (by simp [rfR, hj]) hl1 hl9 (by omega) hl12 (by simp [rfP]; omega) (by omega) (by omega))⟩
          · exact gm_int (nr, nn, S, T) [1] (by decide) (by decide) (fun _ _ => rfl) (fun _ _ => rfl) (fun sz ad => (c_M_start_full l D t sz (ad (7, 0, 0)) (ad (7, 1, 0)) (ad (7, 2, 0)) (ad (7, 3, 0)) (ad (7, 4, 0)) (ad (7, 5, 0)) (ad (7, 6, 0)) (ad (7, 8, 0)) (ad (7, 9, 0)) (ad (7, 10, 0)) (ad (7, 11, 0)) (ad (7, 12, 0)) (ad (7, 13, 0)) (ad (7, 14, 0)) (ad (7, 15, 0)) (ad (7, 16, 0)) (ad (7, 17, 0)) (ad (7, 18, 0)) (ad (7, 19, 0)) (ad (7, 20, 0)) (ad (7, 21, 0)) (ad (7, 22, 0)) (ad (7, 23, 0)) nr nn (S 1) j lv hj h10 hz1 hl1 hl9 hfull))
        · have hlt : nn < 30 := by omega
          obtain ⟨⟨z11, z12, z13, z14, z15, z17⟩, ⟨z16, z18, z19, z20⟩, zk⟩ := hU0 nn (Nat.le_refl _) hlt
          have at0 : atN S nn = 0 := by
            show (S 11 nn).toNatClampNeg = 0
            rw [z11]
            decide
          have of0 : ofN (va_up (va_up (va_up (va_up (va_up S 2 (upd (S 2) j 1)) 8 (upd (S 8) nn (nI j))) 9 (upd (S 9) nn lv)) 10 (upd (S 10) nn 1)) 23 (upd (S 23) (12 * nn) (-1))) nn = j := by
            show ((va_up (va_up (va_up (va_up (va_up S 2 (upd (S 2) j 1)) 8 (upd (S 8) nn (nI j))) 9 (upd (S 9) nn lv)) 10 (upd (S 10) nn 1)) 23 (upd (S 23) (12 * nn) (-1))) 8 nn).toNatClampNeg = j
            have e : (va_up (va_up (va_up (va_up (va_up S 2 (upd (S 2) j 1)) 8 (upd (S 8) nn (nI j))) 9 (upd (S 9) nn lv)) 10 (upd (S 10) nn 1)) 23 (upd (S 23) (12 * nn) (-1))) 8 nn = nI j := by simp [va_up, upd]
            rw [e, nI_clamp (by omega)]
          have ofn : ∀ i, i ≠ nn → ofN (va_up (va_up (va_up (va_up (va_up S 2 (upd (S 2) j 1)) 8 (upd (S 8) nn (nI j))) 9 (upd (S 9) nn lv)) 10 (upd (S 10) nn 1)) 23 (upd (S 23) (12 * nn) (-1))) i = ofN S i := fun i hi => by
            show ((va_up (va_up (va_up (va_up (va_up S 2 (upd (S 2) j 1)) 8 (upd (S 8) nn (nI j))) 9 (upd (S 9) nn lv)) 10 (upd (S 10) nn 1)) 23 (upd (S 23) (12 * nn) (-1))) 8 i).toNatClampNeg = (S 8 i).toNatClampNeg
            have e : (va_up (va_up (va_up (va_up (va_up S 2 (upd (S 2) j 1)) 8 (upd (S 8) nn (nI j))) 9 (upd (S 9) nn lv)) 10 (upd (S 10) nn 1)) 23 (upd (S 23) (12 * nn) (-1))) 8 i = S 8 i := by simp [va_up, upd, hi]
            rw [e]
          have s8 : (va_up (va_up (va_up (va_up (va_up S 2 (upd (S 2) j 1)) 8 (upd (S 8) nn (nI j))) 9 (upd (S 9) nn lv)) 10 (upd (S 10) nn 1)) 23 (upd (S 23) (12 * nn) (-1))) 8 nn = nI j := by simp [va_up, upd]
          have s8n : ∀ i, i ≠ nn → (va_up (va_up (va_up (va_up (va_up S 2 (upd (S 2) j 1)) 8 (upd (S 8) nn (nI j))) 9 (upd (S 9) nn lv)) 10 (upd (S 10) nn 1)) 23 (upd (S 23) (12 * nn) (-1))) 8 i = S 8 i ∧ (va_up (va_up (va_up (va_up (va_up S 2 (upd (S 2) j 1)) 8 (upd (S 8) nn (nI j))) 9 (upd (S 9) nn lv)) 10 (upd (S 10) nn 1)) 23 (upd (S 23) (12 * nn) (-1))) 9 i = S 9 i ∧ (va_up (va_up (va_up (va_up (va_up S 2 (upd (S 2) j 1)) 8 (upd (S 8) nn (nI j))) 9 (upd (S 9) nn lv)) 10 (upd (S 10) nn 1)) 23 (upd (S 23) (12 * nn) (-1))) 10 i = S 10 i := fun i hi => by
            refine ⟨?_, ?_, ?_⟩ <;> simp [va_up, upd, hi]
          have s9 : (va_up (va_up (va_up (va_up (va_up S 2 (upd (S 2) j 1)) 8 (upd (S 8) nn (nI j))) 9 (upd (S 9) nn lv)) 10 (upd (S 10) nn 1)) 23 (upd (S 23) (12 * nn) (-1))) 9 nn = lv := by simp [va_up, upd]
          have s10 : (va_up (va_up (va_up (va_up (va_up S 2 (upd (S 2) j 1)) 8 (upd (S 8) nn (nI j))) 9 (upd (S 9) nn lv)) 10 (upd (S 10) nn 1)) 23 (upd (S 23) (12 * nn) (-1))) 10 nn = 1 := by simp [va_up, upd]
          have s2j : (va_up (va_up (va_up (va_up (va_up S 2 (upd (S 2) j 1)) 8 (upd (S 8) nn (nI j))) 9 (upd (S 9) nn lv)) 10 (upd (S 10) nn 1)) 23 (upd (S 23) (12 * nn) (-1))) 2 j = 1 := by simp [va_up, upd]
          have s2n : ∀ r, r ≠ j → (va_up (va_up (va_up (va_up (va_up S 2 (upd (S 2) j 1)) 8 (upd (S 8) nn (nI j))) 9 (upd (S 9) nn lv)) 10 (upd (S 10) nn 1)) 23 (upd (S 23) (12 * nn) (-1))) 2 r = S 2 r := fun r hr => by simp [va_up, upd, hr]
          have s23 : (va_up (va_up (va_up (va_up (va_up S 2 (upd (S 2) j 1)) 8 (upd (S 8) nn (nI j))) 9 (upd (S 9) nn lv)) 10 (upd (S 10) nn 1)) 23 (upd (S 23) (12 * nn) (-1))) 23 (12 * nn) = (-1) := by simp [va_up, upd]
          have s23n : ∀ q, q ≠ 12 * nn → (va_up (va_up (va_up (va_up (va_up S 2 (upd (S 2) j 1)) 8 (upd (S 8) nn (nI j))) 9 (upd (S 9) nn lv)) 10 (upd (S 10) nn 1)) 23 (upd (S 23) (12 * nn) (-1))) 23 q = S 23 q := fun q hq => by simp [va_up, upd, hq]
          have hat12 : ∀ i, i < nn → atN S i < 12 := fun i hi => by
            have g1 := (hU i hi).1
            have g2 := (hR _ g1.1).2.1
            omega
          have hv2 : Inv (nr, nn + 1, (va_up (va_up (va_up (va_up (va_up S 2 (upd (S 2) j 1)) 8 (upd (S 8) nn (nI j))) 9 (upd (S 9) nn lv)) 10 (upd (S 10) nn 1)) 23 (upd (S 23) (12 * nn) (-1))), T) := by
            refine ⟨⟨h10, hlt⟩, fun r hr => ?_, fun r hr hr2 => ?_, fun i hi => ?_, fun i hi hi2 => hU0 i (Nat.le_of_succ_le hi) hi2⟩
            · obtain ⟨a1, a2, a3, a4⟩ := hR r hr
              refine ⟨a1, a2, ?_, a4⟩
              show (va_up (va_up (va_up (va_up (va_up S 2 (upd (S 2) j 1)) 8 (upd (S 8) nn (nI j))) 9 (upd (S 9) nn lv)) 10 (upd (S 10) nn 1)) 23 (upd (S 23) (12 * nn) (-1))) 2 r = 0 ∨ (va_up (va_up (va_up (va_up (va_up S 2 (upd (S 2) j 1)) 8 (upd (S 8) nn (nI j))) 9 (upd (S 9) nn lv)) 10 (upd (S 10) nn 1)) 23 (upd (S 23) (12 * nn) (-1))) 2 r = 1
              by_cases c : r = j
              · subst c; exact Or.inr s2j
              · rw [s2n r c]; exact a3
            · have hr : nr ≤ r := hr
              show S 1 r = 0 ∧ (va_up (va_up (va_up (va_up (va_up S 2 (upd (S 2) j 1)) 8 (upd (S 8) nn (nI j))) 9 (upd (S 9) nn lv)) 10 (upd (S 10) nn 1)) 23 (upd (S 23) (12 * nn) (-1))) 2 r = 0
              rw [s2n r (by omega)]
              exact hR0 r hr hr2
            · have hi : i < nn + 1 := hi
              show vU nr (va_up (va_up (va_up (va_up (va_up S 2 (upd (S 2) j 1)) 8 (upd (S 8) nn (nI j))) 9 (upd (S 9) nn lv)) 10 (upd (S 10) nn 1)) 23 (upd (S 23) (12 * nn) (-1))) T i
              by_cases c : i = nn
              · rw [c]
                refine ⟨⟨?_, ?_, ?_, ?_, ?_⟩, ⟨?_, ?_, ?_, ?_, ?_⟩, fun q hq1 hq2 => ?_, fun _ => ?_⟩
                · rw [of0]; exact hj
                · rw [of0]; exact s8
                · rw [of0]; exact s2j
                · show S 11 nn = nI (atN S nn)
                  rw [at0]; exact z11
                · show atN S nn < leN S (ofN (va_up (va_up (va_up (va_up (va_up S 2 (upd (S 2) j 1)) 8 (upd (S 8) nn (nI j))) 9 (upd (S 9) nn lv)) 10 (upd (S 10) nn 1)) 23 (upd (S 23) (12 * nn) (-1))) nn)
                  rw [of0, at0]; omega
                · rw [s10]; exact Or.inr (Or.inl rfl)
                · rw [s10]; exact fun h => absurd h (by decide)
                · rw [z18]; exact PS.zero
                · rw [z19]; exact PS.zero
                · rw [z20]; exact PS.zero
                · exact (zk q hq2).1
                · obtain ⟨-, n, n1, n2, n3⟩ := hsteps 0 (by omega)
                  show ∃ c n m f, S 13 nn = nI c ∧ S 4 (12 * ofN (va_up (va_up (va_up (va_up (va_up S 2 (upd (S 2) j 1)) 8 (upd (S 8) nn (nI j))) 9 (upd (S 9) nn lv)) 10 (upd (S 10) nn 1)) 23 (upd (S 23) (12 * nn) (-1))) nn + atN S nn) = nI n ∧ c < n ∧ n ≤ 3600 ∧ S 14 nn = nI m ∧ m < 30 ∧ S 21 (12 * nn + atN S nn) = nI f ∧ f < 3
                  rw [of0, at0]
                  exact ⟨0, n, 0, 0, z13, n3, by omega, n2, z14, by decide, (zk 0 (by decide)).1, by decide⟩
              · obtain ⟨⟨b1, b2, b3, b4, b5⟩, ⟨b6, b7, b8⟩, b9, b10⟩ := hU i (by omega)
                obtain ⟨q8, q9, q10⟩ := s8n i c
                refine ⟨⟨?_, ?_, ?_, b4, ?_⟩, ⟨?_, ?_, b8⟩, b9, fun hst => ?_⟩
                · rw [ofn i c]; exact b1
                · rw [ofn i c, q8]; exact b2
                · rw [ofn i c]
                  by_cases c2 : ofN S i = j
                  · rw [c2]; exact s2j
                  · rw [s2n _ c2]; exact b3
                · show atN S i < leN S (ofN (va_up (va_up (va_up (va_up (va_up S 2 (upd (S 2) j 1)) 8 (upd (S 8) nn (nI j))) 9 (upd (S 9) nn lv)) 10 (upd (S 10) nn 1)) 23 (upd (S 23) (12 * nn) (-1))) i)
                  rw [ofn i c]; exact b5
                · rw [q10]; exact b6
                · rw [q10]; exact b7
                · rw [q10] at hst
                  have h := b10 hst
                  show ∃ c n m f, S 13 i = nI c ∧ S 4 (12 * ofN (va_up (va_up (va_up (va_up (va_up S 2 (upd (S 2) j 1)) 8 (upd (S 8) nn (nI j))) 9 (upd (S 9) nn lv)) 10 (upd (S 10) nn 1)) 23 (upd (S 23) (12 * nn) (-1))) i + atN S i) = nI n ∧ c < n ∧ n ≤ 3600 ∧ S 14 i = nI m ∧ m < 30 ∧ S 21 (12 * i + atN S i) = nI f ∧ f < 3
                  rw [ofn i c]
                  exact h
          refine ⟨nI nn, (nr, nn + 1, (va_up (va_up (va_up (va_up (va_up S 2 (upd (S 2) j 1)) 8 (upd (S 8) nn (nI j))) 9 (upd (S 9) nn lv)) 10 (upd (S 10) nn 1)) 23 (upd (S 23) (12 * nn) (-1))), T), hv2, ?_, ?_⟩
          · exact g_int fun sz ad G hx hm => by
              subst hx
              refine ⟨[((0, 0, 0), .inr (4, [.ref (ad (0, 1, 0)), .ref (ad (0, 2, 0)), .int (nI nr), .int (nI nn)])), ((0, 1, 0), .inl (t 3, 10, .inr (.inr (.inr (.inr ((rfR ad nr))))))), ((1, j, 0), .inr (0, [.ref (ad (2, j, 0)), .int (nI (leN S j)), .int (S 2 j)])), ((2, j, 0), .inl (t 6, 12, .inr (.inr (.inr (.inr ((rfP ad j (leN S j)))))))), ((0, 2, 0), .inl (t 4, 30, .inr (.inr (.inr (.inr ((rfU ad nn)))))))], Nat × Nat × Nat, _, fun u => [((0, 0, 0), ad (0, 0, 0), .inr (4, [.ref (ad (0, 1, 0)), .ref (ad (0, 2, 0)), .int (nI nr), .int (nI nn + 1)])), ((0, 1, 0), ad (0, 1, 0), .inl (t 3, 10, .inr (.inr (.inr (.inr ((rfR ad nr))))))), ((1, j, 0), ad (1, j, 0), .inr (0, [.ref (ad (2, j, 0)), .int (nI (leN S j)), .int 1])), ((2, j, 0), ad (2, j, 0), .inl (t 6, 12, .inr (.inr (.inr (.inr ((rfP ad j (leN S j)))))))), ((0, 2, 0), ad (0, 2, 0), .inl (t 4, 30, .inr (.inr (.inr (.inr (va_up (rfU ad nn) nn (some u.1))))))), ((4, nn, 0), u.1, .inr (1, [.ref (ad (1, j, 0)), .int lv, .ref u.2.1, .ref u.2.2, .int 1, .int 1, .int 0, .int 0, .int 0, .double FP.dconst0, .int 0, .double FP.dconst0, .double FP.dconst0, .double FP.dconst0])), ((5, nn, 0), u.2.1, .inl (t 5, 12, .inr (.inr (.inr (.inr (va_up (fun _ => none) 0 (some u.2.2))))))), ((6, nn, 0), u.2.2, .inr (2, [.ref (ad (3, j, 0)), .int 0, .int (-1), .int 0, .int 0, .int 0, .int 0]))], (allc e_0 (allc e_01 (allc (e_1 hj hle rfl) (allc (e_2 hj) (all1 e_02))))), by simp, (c_CR_start_new l D t sz (ad (0, 0, 0)) (ad (0, 1, 0)) (ad (0, 2, 0)) nr nn j (ad (1, j, 0)) (ad (2, j, 0)) (leN S j) (ad (3, j, 0)) (S 2 j) lv (rfR ad nr) (rfP ad j (leN S j)) (rfU ad nn) hj h10 (by simp [rfR, hj]) hl1 hl9 (by omega) hl12 (by simp [rfP]; omega) hlt), fun x u hpo => ⟨hpo, ?_⟩⟩
              have had : ∀ k, k ≠ (4, nn, 0) → k ≠ (5, nn, 0) → k ≠ (6, nn, 0) → (aUp (aUp (aUp ad (4, nn, 0) u.1) (5, nn, 0) u.2.1) (6, nn, 0) u.2.2) k = ad k := fun k h1 h2 h3 => (aUp_ne h3).trans ((aUp_ne h2).trans (aUp_ne h1))
              have hat : ∀ g r q : Nat, g ≠ 4 → g ≠ 5 → g ≠ 6 → (aUp (aUp (aUp ad (4, nn, 0) u.1) (5, nn, 0) u.2.1) (6, nn, 0) u.2.2) (g, r, q) = ad (g, r, q) := fun g r q h1 h2 h3 => had _ (kt h1) (kt h2) (kt h3)
              have han : ∀ g r q : Nat, r ≠ nn → (aUp (aUp (aUp ad (4, nn, 0) u.1) (5, nn, 0) u.2.1) (6, nn, 0) u.2.2) (g, r, q) = ad (g, r, q) := fun g r q h => had _ (kr h) (kr h) (kr h)
              have ha1 : (aUp (aUp (aUp ad (4, nn, 0) u.1) (5, nn, 0) u.2.1) (6, nn, 0) u.2.2) (4, nn, 0) = u.1 := (aUp_ne (kt (by decide))).trans ((aUp_ne (kt (by decide))).trans aUp_eq)
              have ha2 : (aUp (aUp (aUp ad (4, nn, 0) u.1) (5, nn, 0) u.2.1) (6, nn, 0) u.2.2) (5, nn, 0) = u.2.1 := (aUp_ne (kt (by decide))).trans aUp_eq
              have ha3 : (aUp (aUp (aUp ad (4, nn, 0) u.1) (5, nn, 0) u.2.1) (6, nn, 0) u.2.2) (6, nn, 0) = u.2.2 := aUp_eq
              have eR : ∀ n, rfR (aUp (aUp (aUp ad (4, nn, 0) u.1) (5, nn, 0) u.2.1) (6, nn, 0) u.2.2) n = rfR ad n := fun n => by funext r; show (if r < n then some ((aUp (aUp (aUp ad (4, nn, 0) u.1) (5, nn, 0) u.2.1) (6, nn, 0) u.2.2) (1, r, 0)) else none) = _; rw [hat _ _ _ (by decide) (by decide) (by decide)]
              have eP : ∀ r n, rfP (aUp (aUp (aUp ad (4, nn, 0) u.1) (5, nn, 0) u.2.1) (6, nn, 0) u.2.2) r n = rfP ad r n := fun r n => by funext q; show (if q < n then some ((aUp (aUp (aUp ad (4, nn, 0) u.1) (5, nn, 0) u.2.1) (6, nn, 0) u.2.2) (3, r, q)) else none) = _; rw [hat _ _ _ (by decide) (by decide) (by decide)]
              have eY : ∀ r n, r ≠ nn → rfY (aUp (aUp (aUp ad (4, nn, 0) u.1) (5, nn, 0) u.2.1) (6, nn, 0) u.2.2) r n = rfY ad r n := fun r n hr => by funext q; show (if q < n then some ((aUp (aUp (aUp ad (4, nn, 0) u.1) (5, nn, 0) u.2.1) (6, nn, 0) u.2.2) (6, r, q)) else none) = _; rw [han _ _ _ hr]
              have eU : rfU (aUp (aUp (aUp ad (4, nn, 0) u.1) (5, nn, 0) u.2.1) (6, nn, 0) u.2.2) (nn + 1) = va_up (rfU ad nn) nn (some u.1) := by
                funext r
                show (if r < nn + 1 then some ((aUp (aUp (aUp ad (4, nn, 0) u.1) (5, nn, 0) u.2.1) (6, nn, 0) u.2.2) (4, r, 0)) else none) = (if r = nn then some u.1 else (if r < nn then some (ad (4, r, 0)) else none))
                by_cases c : r = nn
                · subst c
                  rw [if_pos (Nat.lt_succ_self _), if_pos rfl, ha1]
                · rw [if_neg c]
                  by_cases c2 : r < nn
                  · rw [if_pos (Nat.lt_succ_of_lt c2), if_pos c2, han _ _ _ c]
                  · rw [if_neg (by omega), if_neg c2]
              have eYn : rfY (aUp (aUp (aUp ad (4, nn, 0) u.1) (5, nn, 0) u.2.1) (6, nn, 0) u.2.2) nn 1 = va_up (fun _ => none) 0 (some u.2.2) := by
                funext q
                show (if q < 1 then some ((aUp (aUp (aUp ad (4, nn, 0) u.1) (5, nn, 0) u.2.1) (6, nn, 0) u.2.2) (6, nn, q)) else none) = (if q = 0 then some u.2.2 else none)
                by_cases c : q = 0
                · subst c
                  rw [if_pos (by decide), if_pos rfl, ha3]
                · rw [if_neg (by omega), if_neg c]
              refine ⟨(aUp (aUp (aUp ad (4, nn, 0) u.1) (5, nn, 0) u.2.1) (6, nn, 0) u.2.2), G, hat _ _ _ (by decide) (by decide) (by decide), (hat _ _ _ (by decide) (by decide) (by decide)).trans hm, hkw_pre [(4, nn, 0), (5, nn, 0), (6, nn, 0)] rfl, ?_, fun k e hk => ?_⟩
              · refine allc ⟨?_, hat _ _ _ (by decide) (by decide) (by decide)⟩ (allc ⟨?_, hat _ _ _ (by decide) (by decide) (by decide)⟩ (allc ⟨?_, hat _ _ _ (by decide) (by decide) (by decide)⟩ (allc ⟨?_, hat _ _ _ (by decide) (by decide) (by decide)⟩ (allc ⟨?_, hat _ _ _ (by decide) (by decide) (by decide)⟩ (allc ⟨?_, ha1⟩ (allc ⟨?_, ha2⟩ (all1 ⟨?_, ha3⟩)))))))
                · rw [e_0, hat _ _ _ (by decide) (by decide) (by decide), hat _ _ _ (by decide) (by decide) (by decide), nI_1]
                · rw [e_01, eR]
                · rw [e_1 (S := (va_up (va_up (va_up (va_up (va_up S 2 (upd (S 2) j 1)) 8 (upd (S 8) nn (nI j))) 9 (upd (S 9) nn lv)) 10 (upd (S 10) nn 1)) 23 (upd (S 23) (12 * nn) (-1)))) (v := S 1 j) hj rfl s2j, hat _ _ _ (by decide) (by decide) (by decide), hle]
                · rw [e_2 hj, eP]
                  rfl
                · rw [e_02, eU]
                · rw [e_4 (Nat.lt_succ_self _) s10, of0, s9, hat _ _ _ (by decide) (by decide) (by decide), ha2]
                  have e1 : atN (va_up (va_up (va_up (va_up (va_up S 2 (upd (S 2) j 1)) 8 (upd (S 8) nn (nI j))) 9 (upd (S 9) nn lv)) 10 (upd (S 10) nn 1)) 23 (upd (S 23) (12 * nn) (-1))) nn = 0 := at0
                  have e2 : (va_up (va_up (va_up (va_up (va_up S 2 (upd (S 2) j 1)) 8 (upd (S 8) nn (nI j))) 9 (upd (S 9) nn lv)) 10 (upd (S 10) nn 1)) 23 (upd (S 23) (12 * nn) (-1))) 12 nn = 0 := z12
                  have e3 : fS ((va_up (va_up (va_up (va_up (va_up S 2 (upd (S 2) j 1)) 8 (upd (S 8) nn (nI j))) 9 (upd (S 9) nn lv)) 10 (upd (S 10) nn 1)) 23 (upd (S 23) (12 * nn) (-1))) 21) (12 * nn) = 0 := fS_0 (f := S 21) fun q hq => (zk q hq).1
                  have e4 : (va_up (va_up (va_up (va_up (va_up S 2 (upd (S 2) j 1)) 8 (upd (S 8) nn (nI j))) 9 (upd (S 9) nn lv)) 10 (upd (S 10) nn 1)) 23 (upd (S 23) (12 * nn) (-1))) 17 nn = 0 := z17
                  rw [e1, e2, e3, e4, z16, z18, z19, z20, ha3]
                  rfl
                · rw [e_5 (Nat.lt_succ_self _)]
                  have e1 : atN (va_up (va_up (va_up (va_up (va_up S 2 (upd (S 2) j 1)) 8 (upd (S 8) nn (nI j))) 9 (upd (S 9) nn lv)) 10 (upd (S 10) nn 1)) 23 (upd (S 23) (12 * nn) (-1))) nn = 0 := at0
                  rw [e1, Nat.zero_add, eYn]
                · have h := e_6c (t := t) (ad := (aUp (aUp (aUp ad (4, nn, 0) u.1) (5, nn, 0) u.2.1) (6, nn, 0) u.2.2)) (G := G) (nr := nr) (nn := nn + 1) (S := (va_up (va_up (va_up (va_up (va_up S 2 (upd (S 2) j 1)) 8 (upd (S 8) nn (nI j))) 9 (upd (S 9) nn lv)) 10 (upd (S 10) nn 1)) 23 (upd (S 23) (12 * nn) (-1)))) (T := T) (ZM := (nr, nn, S, T)) (Nat.lt_succ_self nn)
                  have e1 : atN (va_up (va_up (va_up (va_up (va_up S 2 (upd (S 2) j 1)) 8 (upd (S 8) nn (nI j))) 9 (upd (S 9) nn lv)) 10 (upd (S 10) nn 1)) 23 (upd (S 23) (12 * nn) (-1))) nn = 0 := at0
                  have e2 : (va_up (va_up (va_up (va_up (va_up S 2 (upd (S 2) j 1)) 8 (upd (S 8) nn (nI j))) 9 (upd (S 9) nn lv)) 10 (upd (S 10) nn 1)) 23 (upd (S 23) (12 * nn) (-1))) 22 (12 * nn + 0) = 0 := (zk 0 (by decide)).2
                  have e3 : (va_up (va_up (va_up (va_up (va_up S 2 (upd (S 2) j 1)) 8 (upd (S 8) nn (nI j))) 9 (upd (S 9) nn lv)) 10 (upd (S 10) nn 1)) 23 (upd (S 23) (12 * nn) (-1))) 23 (12 * nn + 0) = (-1) := s23
                  have e4 : (va_up (va_up (va_up (va_up (va_up S 2 (upd (S 2) j 1)) 8 (upd (S 8) nn (nI j))) 9 (upd (S 9) nn lv)) 10 (upd (S 10) nn 1)) 23 (upd (S 23) (12 * nn) (-1))) 15 nn = 0 := z15
                  have e5 : (va_up (va_up (va_up (va_up (va_up S 2 (upd (S 2) j 1)) 8 (upd (S 8) nn (nI j))) 9 (upd (S 9) nn lv)) 10 (upd (S 10) nn 1)) 23 (upd (S 23) (12 * nn) (-1))) 13 nn = 0 := z13
                  have e6 : (va_up (va_up (va_up (va_up (va_up S 2 (upd (S 2) j 1)) 8 (upd (S 8) nn (nI j))) 9 (upd (S 9) nn lv)) 10 (upd (S 10) nn 1)) 23 (upd (S 23) (12 * nn) (-1))) 14 nn = 0 := z14
                  have e7 : (va_up (va_up (va_up (va_up (va_up S 2 (upd (S 2) j 1)) 8 (upd (S 8) nn (nI j))) 9 (upd (S 9) nn lv)) 10 (upd (S 10) nn 1)) 23 (upd (S 23) (12 * nn) (-1))) 21 (12 * nn + 0) = 0 := (zk 0 (by decide)).1
                  rw [e1, of0, e2, e3, e4, e5, e6, e7, hat 3 _ _ (by decide) (by decide) (by decide)] at h
                  exact h
              · by_cases c0 : k = (0, 0, 0)
                · subst c0; exact Or.inl ⟨_, List.mem_of_getElem? (i := 0) rfl, rfl⟩
                by_cases c1 : k = (1, j, 0)
                · subst c1; exact Or.inl ⟨_, List.mem_of_getElem? (i := 2) rfl, rfl⟩
                by_cases c2 : k = (0, 2, 0)
                · subst c2; exact Or.inl ⟨_, List.mem_of_getElem? (i := 4) rfl, rfl⟩
                by_cases c3 : k = (4, nn, 0)
                · subst c3; exact Or.inl ⟨_, List.mem_of_getElem? (i := 5) rfl, rfl⟩
                by_cases c4 : k = (5, nn, 0)
                · subst c4; exact Or.inl ⟨_, List.mem_of_getElem? (i := 6) rfl, rfl⟩
                by_cases c5 : k = (6, nn, 0)
                · subst c5; exact Or.inl ⟨_, List.mem_of_getElem? (i := 7) rfl, rfl⟩
                refine Or.inr ⟨?_, had k c3 c4 c5⟩
                rw [eA_split (S := S) (T := T) (nr := nr) (nn := nn) (ad := ad) k (fun q => hat _ _ _ (by decide) (by decide) (by decide)) ?_ ?_ ?_ ?_ ?_ ?_ ?_] at hk
                · exact hk
                · intro c
                  unfold eI
                  simp only [c, if_true, c0, c2, if_false, eR]
                · obtain ⟨k1, k2, k3⟩ := k
                  intro ca cb
                  simp only at ca cb
                  subst ca cb
                  have hne : k2 ≠ j := fun e => c1 (by rw [e])
                  refine ⟨Iff.rfl, fun _ => ?_⟩
                  show oR (aUp (aUp (aUp ad (4, nn, 0) u.1) (5, nn, 0) u.2.1) (6, nn, 0) u.2.2) (va_up (va_up (va_up (va_up (va_up S 2 (upd (S 2) j 1)) 8 (upd (S 8) nn (nI j))) 9 (upd (S 9) nn lv)) 10 (upd (S 10) nn 1)) 23 (upd (S 23) (12 * nn) (-1))) k2 = oR ad S k2
                  unfold oR
                  rw [hat _ _ _ (by decide) (by decide) (by decide), s2n k2 hne]
                  rfl
                · intro _ _
                  exact ⟨Iff.rfl, fun _ => eP _ _⟩
                · intro _
                  exact ⟨Iff.rfl, fun _ => rfl⟩
                · obtain ⟨k1, k2, k3⟩ := k
                  intro ca cb
                  simp only at ca cb
                  subst ca cb
                  have hne : k2 ≠ nn := fun e => c3 (by rw [e])
                  refine ⟨⟨fun h => by simp only at h ⊢; omega, fun h => Nat.lt_succ_of_lt h⟩, fun _ => ?_⟩
                  show oU (aUp (aUp (aUp ad (4, nn, 0) u.1) (5, nn, 0) u.2.1) (6, nn, 0) u.2.2) (va_up (va_up (va_up (va_up (va_up S 2 (upd (S 2) j 1)) 8 (upd (S 8) nn (nI j))) 9 (upd (S 9) nn lv)) 10 (upd (S 10) nn 1)) 23 (upd (S 23) (12 * nn) (-1))) T k2 = oU ad S T k2
                  obtain ⟨q8, q9, q10⟩ := s8n k2 hne
                  have e1 : atN (va_up (va_up (va_up (va_up (va_up S 2 (upd (S 2) j 1)) 8 (upd (S 8) nn (nI j))) 9 (upd (S 9) nn lv)) 10 (upd (S 10) nn 1)) 23 (upd (S 23) (12 * nn) (-1))) k2 = atN S k2 := rfl
                  unfold oU
                  rw [ofn k2 hne, q9, q10, e1, hat _ _ _ (by decide) (by decide) (by decide), han _ _ _ hne, han _ _ _ hne]
                  rfl
                · obtain ⟨k1, k2, k3⟩ := k
                  intro ca cb
                  simp only at ca cb
                  subst ca cb
                  have hne : k2 ≠ nn := fun e => c4 (by rw [e])
                  exact ⟨⟨fun h => by simp only at h ⊢; omega, fun h => Nat.lt_succ_of_lt h⟩, fun _ => eY _ _ hne⟩
                · obtain ⟨k1, k2, k3⟩ := k
                  intro ca
                  simp only at ca
                  subst ca
                  show ((k2 < nn + 1 ∧ k3 < atN S k2 + 1) ↔ (k2 < nn ∧ k3 < atN S k2 + 1)) ∧ (k2 < nn ∧ k3 < atN S k2 + 1 → oT (aUp (aUp (aUp ad (4, nn, 0) u.1) (5, nn, 0) u.2.1) (6, nn, 0) u.2.2) (va_up (va_up (va_up (va_up (va_up S 2 (upd (S 2) j 1)) 8 (upd (S 8) nn (nI j))) 9 (upd (S 9) nn lv)) 10 (upd (S 10) nn 1)) 23 (upd (S 23) (12 * nn) (-1))) G k2 k3 = oT ad S G k2 k3)
                  have hlive : (k2 < nn + 1 ∧ k3 < atN S k2 + 1) ↔ (k2 < nn ∧ k3 < atN S k2 + 1) := by
                    by_cases c : k2 = nn
                    · subst c
                      rw [at0]
                      have : k3 ≠ 0 := fun e => c5 (by rw [e])
                      omega
                    · omega
                  refine ⟨hlive, fun h => ?_⟩
                  have hne : k2 ≠ nn := by omega
                  have e9 : oT (aUp (aUp (aUp ad (4, nn, 0) u.1) (5, nn, 0) u.2.1) (6, nn, 0) u.2.2) (va_up (va_up (va_up (va_up (va_up S 2 (upd (S 2) j 1)) 8 (upd (S 8) nn (nI j))) 9 (upd (S 9) nn lv)) 10 (upd (S 10) nn 1)) 23 (upd (S 23) (12 * nn) (-1))) G k2 k3 = .inr (2, [.ref ((aUp (aUp (aUp ad (4, nn, 0) u.1) (5, nn, 0) u.2.1) (6, nn, 0) u.2.2) (3, ofN (va_up (va_up (va_up (va_up (va_up S 2 (upd (S 2) j 1)) 8 (upd (S 8) nn (nI j))) 9 (upd (S 9) nn lv)) 10 (upd (S 10) nn 1)) 23 (upd (S 23) (12 * nn) (-1))) k2, k3)), .int (S 22 (12 * k2 + k3)), .int ((va_up (va_up (va_up (va_up (va_up S 2 (upd (S 2) j 1)) 8 (upd (S 8) nn (nI j))) 9 (upd (S 9) nn lv)) 10 (upd (S 10) nn 1)) 23 (upd (S 23) (12 * nn) (-1))) 23 (12 * k2 + k3)), .int (gG S G 15 0 k2 k3), .int (gG S G 13 1 k2 k3), .int (gG S G 14 2 k2 k3), .int (S 21 (12 * k2 + k3))]) := rfl
                  rw [e9, ofn k2 hne, hat _ _ _ (by decide) (by decide) (by decide), s23n _ (by have := hat12 k2 h.1; omega)]
                  rfl
          · exact gm_int (nr, nn + 1, (va_up (va_up (va_up (va_up (va_up S 2 (upd (S 2) j 1)) 8 (upd (S 8) nn (nI j))) 9 (upd (S 9) nn lv)) 10 (upd (S 10) nn 1)) 23 (upd (S 23) (12 * nn) (-1))), T) [1, 2, 8, 9, 10, 23] (by decide) (by decide) (fun q hq => by simp only [List.mem_cons, List.not_mem_nil, or_false, not_or] at hq; simp [va_up, hq]) (fun q hq => rfl) (fun sz ad => by
              have h9 := (c_M_start_new l D t sz (ad (7, 0, 0)) (ad (7, 1, 0)) (ad (7, 2, 0)) (ad (7, 3, 0)) (ad (7, 4, 0)) (ad (7, 5, 0)) (ad (7, 6, 0)) (ad (7, 8, 0)) (ad (7, 9, 0)) (ad (7, 10, 0)) (ad (7, 11, 0)) (ad (7, 12, 0)) (ad (7, 13, 0)) (ad (7, 14, 0)) (ad (7, 15, 0)) (ad (7, 16, 0)) (ad (7, 17, 0)) (ad (7, 18, 0)) (ad (7, 19, 0)) (ad (7, 20, 0)) (ad (7, 21, 0)) (ad (7, 22, 0)) (ad (7, 23, 0)) nr nn (S 1) (S 2) (S 8) (S 9) (S 10) (S 23) j lv hj h10 hz1 hl1 hl9 hlt)
              rw [nI_1] at h9
              exact h9)
