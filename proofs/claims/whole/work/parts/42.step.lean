set_option maxHeartbeats 4000000 in
set_option maxRecDepth 100000 in
theorem b_step (l : Launch) (D : va_G) (t : Nat → ClassId) (base x0 m0 : Nat) (Z : St) (hv : Inv Z) (k kd sc : Int32) (sg dg : UInt64) : bothI l D t base x0 m0 yX4_step wsX4_step ({ frames := 2, cells := 1, slots := 4, locals := 38 } : Room) 1 4 yX5_step wsX5_step ({ frames := 0, cells := 0, slots := 0, locals := 0 } : Room) [.int k, .int kd, .int sc, .double sg, .double dg] Z := by
  obtain ⟨nr, nn, S, T⟩ := Z
  obtain ⟨⟨h10, h30⟩, hR, hR0, hU, hU0⟩ := id hv
  simp only at h10 h30 hR hR0 hU hU0
  rcases y_ix k (n := nr) (by omega) with hk | ⟨j, hj, rfl⟩
  · refine ⟨0, (nr, nn, S, T), hv, ?_, ?_⟩
    · exact gr_int fun sz ad G hx hm => by
        subst hx
        exact ⟨[((0, 0, 0), .inr (4, [.ref (ad (0, 1, 0)), .ref (ad (0, 2, 0)), .int (nI nr), .int (nI nn)]))], (all1 e_0), by simp, (c_CR_step_no l D t sz (ad (0, 0, 0)) (ad (0, 1, 0)) (ad (0, 2, 0)) nr nn k kd sc sg dg hk)⟩
    · exact gm_int (nr, nn, S, T) [] (by decide) (by decide) (fun _ _ => rfl) (fun _ _ => rfl) (fun sz ad => (c_M_step_no l D t sz (ad (7, 0, 0)) (ad (7, 1, 0)) (ad (7, 2, 0)) (ad (7, 3, 0)) (ad (7, 4, 0)) (ad (7, 5, 0)) (ad (7, 6, 0)) (ad (7, 8, 0)) (ad (7, 9, 0)) (ad (7, 10, 0)) (ad (7, 11, 0)) (ad (7, 12, 0)) (ad (7, 13, 0)) (ad (7, 14, 0)) (ad (7, 15, 0)) (ad (7, 16, 0)) (ad (7, 17, 0)) (ad (7, 18, 0)) (ad (7, 19, 0)) (ad (7, 20, 0)) (ad (7, 21, 0)) (ad (7, 22, 0)) (ad (7, 23, 0)) nr nn k kd sc sg dg hk))
  · obtain ⟨hle, hl12, hb01, hsteps⟩ := hR j hj
    by_cases hok : ¬ fK (nI (leN S j)) (S 2 j) = 0 ∧ okS kd sc sg dg
    · obtain ⟨hfk, hokS⟩ := hok
      obtain ⟨hg, hlt'⟩ := fK_iff.mp hfk
      have hn12 : leN S j < 12 := by
        rcases Nat.lt_or_ge (leN S j) 12 with h | h
        · exact h
        · exact absurd (nI_le (a := 12) h (by omega)) hlt'
      have hkd := okS_kd hokS
      have hsc := okS_sc hokS
      have s1 : (va_up (va_up (va_up S 1 (upd (S 1) j (nI (leN S j) + 1))) 3 (upd (S 3) (12 * j + leN S j) kd)) 4 (upd (S 4) (12 * j + leN S j) sc)) 1 j = nI (leN S j + 1) := by simp [va_up, upd, nI_1]
      have s1n : ∀ r, r ≠ j → (va_up (va_up (va_up S 1 (upd (S 1) j (nI (leN S j) + 1))) 3 (upd (S 3) (12 * j + leN S j) kd)) 4 (upd (S 4) (12 * j + leN S j) sc)) 1 r = S 1 r := fun r hr => by simp [va_up, upd, hr]
      have lj : leN (va_up (va_up (va_up S 1 (upd (S 1) j (nI (leN S j) + 1))) 3 (upd (S 3) (12 * j + leN S j) kd)) 4 (upd (S 4) (12 * j + leN S j) sc)) j = leN S j + 1 := by
        show ((va_up (va_up (va_up S 1 (upd (S 1) j (nI (leN S j) + 1))) 3 (upd (S 3) (12 * j + leN S j) kd)) 4 (upd (S 4) (12 * j + leN S j) sc)) 1 j).toNatClampNeg = _
        rw [s1, nI_clamp (by omega)]
      have ln : ∀ r, r ≠ j → leN (va_up (va_up (va_up S 1 (upd (S 1) j (nI (leN S j) + 1))) 3 (upd (S 3) (12 * j + leN S j) kd)) 4 (upd (S 4) (12 * j + leN S j) sc)) r = leN S r := fun r hr => by
        show ((va_up (va_up (va_up S 1 (upd (S 1) j (nI (leN S j) + 1))) 3 (upd (S 3) (12 * j + leN S j) kd)) 4 (upd (S 4) (12 * j + leN S j) sc)) 1 r).toNatClampNeg = _
        rw [s1n r hr]
        rfl
      have s3n : ∀ q, q ≠ 12 * j + leN S j → (va_up (va_up (va_up S 1 (upd (S 1) j (nI (leN S j) + 1))) 3 (upd (S 3) (12 * j + leN S j) kd)) 4 (upd (S 4) (12 * j + leN S j) sc)) 3 q = S 3 q ∧ (va_up (va_up (va_up S 1 (upd (S 1) j (nI (leN S j) + 1))) 3 (upd (S 3) (12 * j + leN S j) kd)) 4 (upd (S 4) (12 * j + leN S j) sc)) 4 q = S 4 q ∧ (va_up (va_up T 5 (vf_upd (T 5) (12 * j + leN S j) sg)) 6 (vf_upd (T 6) (12 * j + leN S j) dg)) 5 q = T 5 q ∧ (va_up (va_up T 5 (vf_upd (T 5) (12 * j + leN S j) sg)) 6 (vf_upd (T 6) (12 * j + leN S j) dg)) 6 q = T 6 q := fun q hq => by
        refine ⟨?_, ?_, ?_, ?_⟩ <;> simp [va_up, upd, vf_upd, hq]
      have s3j : (va_up (va_up (va_up S 1 (upd (S 1) j (nI (leN S j) + 1))) 3 (upd (S 3) (12 * j + leN S j) kd)) 4 (upd (S 4) (12 * j + leN S j) sc)) 3 (12 * j + leN S j) = kd ∧ (va_up (va_up (va_up S 1 (upd (S 1) j (nI (leN S j) + 1))) 3 (upd (S 3) (12 * j + leN S j) kd)) 4 (upd (S 4) (12 * j + leN S j) sc)) 4 (12 * j + leN S j) = sc ∧ (va_up (va_up T 5 (vf_upd (T 5) (12 * j + leN S j) sg)) 6 (vf_upd (T 6) (12 * j + leN S j) dg)) 5 (12 * j + leN S j) = sg ∧ (va_up (va_up T 5 (vf_upd (T 5) (12 * j + leN S j) sg)) 6 (vf_upd (T 6) (12 * j + leN S j) dg)) 6 (12 * j + leN S j) = dg := by
        refine ⟨?_, ?_, ?_, ?_⟩ <;> simp [va_up, upd, vf_upd]
      have hofn : ∀ i, i < nn → ofN S i ≠ j := fun i hi e => by
        have h1 := (hU i hi).1.2.2.1
        rw [e, hg] at h1
        exact absurd h1 (by decide)
      have hat12 : ∀ i, i < nn → atN S i < 12 := fun i hi => by
        have g1 := (hU i hi).1
        have g2 := (hR _ g1.1).2.1
        omega
      have hv2 : Inv (nr, nn, (va_up (va_up (va_up S 1 (upd (S 1) j (nI (leN S j) + 1))) 3 (upd (S 3) (12 * j + leN S j) kd)) 4 (upd (S 4) (12 * j + leN S j) sc)), (va_up (va_up T 5 (vf_upd (T 5) (12 * j + leN S j) sg)) 6 (vf_upd (T 6) (12 * j + leN S j) dg))) := by
        refine ⟨⟨h10, h30⟩, fun r hr => ?_, fun r hr hr2 => ?_, fun i hi => ?_, hU0⟩
        · show vR (va_up (va_up (va_up S 1 (upd (S 1) j (nI (leN S j) + 1))) 3 (upd (S 3) (12 * j + leN S j) kd)) 4 (upd (S 4) (12 * j + leN S j) sc)) r
          by_cases c : r = j
          · subst c
            refine ⟨?_, ?_, hb01, fun q hq => ?_⟩
            · rw [lj]; exact s1
            · rw [lj]; omega
            · rw [lj] at hq
              by_cases cq : q = leN S r
              · subst cq
                rw [s3j.1, s3j.2.1]
                exact ⟨hkd, hsc⟩
              · rw [(s3n (12 * r + q) (by omega)).1, (s3n (12 * r + q) (by omega)).2.1]
                exact hsteps q (by omega)
          · obtain ⟨a1, a2, a3, a4⟩ := hR r hr
            refine ⟨?_, ?_, a3, fun q hq => ?_⟩
            · rw [ln r c, s1n r c]; exact a1
            · rw [ln r c]; exact a2
            · rw [ln r c] at hq
              rw [(s3n (12 * r + q) (by omega)).1, (s3n (12 * r + q) (by omega)).2.1]
              exact a4 q hq
        · have hr : nr ≤ r := hr
          have c : r ≠ j := by omega
          show (va_up (va_up (va_up S 1 (upd (S 1) j (nI (leN S j) + 1))) 3 (upd (S 3) (12 * j + leN S j) kd)) 4 (upd (S 4) (12 * j + leN S j) sc)) 1 r = 0 ∧ S 2 r = 0
          rw [s1n r c]
          exact hR0 r hr hr2
        · have hi : i < nn := hi
          obtain ⟨⟨b1, b2, b3, b4, b5⟩, b6, b7, b8⟩ := hU i hi
          refine ⟨⟨b1, b2, b3, b4, ?_⟩, b6, b7, fun hst => ?_⟩
          · show atN S i < leN (va_up (va_up (va_up S 1 (upd (S 1) j (nI (leN S j) + 1))) 3 (upd (S 3) (12 * j + leN S j) kd)) 4 (upd (S 4) (12 * j + leN S j) sc)) (ofN S i)
            rw [ln _ (hofn i hi)]; exact b5
          · have h := b8 hst
            show ∃ c n m f, S 13 i = nI c ∧ (va_up (va_up (va_up S 1 (upd (S 1) j (nI (leN S j) + 1))) 3 (upd (S 3) (12 * j + leN S j) kd)) 4 (upd (S 4) (12 * j + leN S j) sc)) 4 (12 * ofN S i + atN S i) = nI n ∧ c < n ∧ n ≤ 3600 ∧ S 14 i = nI m ∧ m < 30 ∧ S 21 (12 * i + atN S i) = nI f ∧ f < 3
            rw [(s3n (12 * ofN S i + atN S i) (by have := hat12 i hi; have := hofn i hi; omega)).2.1]
            exact h
      refine ⟨1, (nr, nn, (va_up (va_up (va_up S 1 (upd (S 1) j (nI (leN S j) + 1))) 3 (upd (S 3) (12 * j + leN S j) kd)) 4 (upd (S 4) (12 * j + leN S j) sc)), (va_up (va_up T 5 (vf_upd (T 5) (12 * j + leN S j) sg)) 6 (vf_upd (T 6) (12 * j + leN S j) dg))), hv2, ?_, ?_⟩
      · exact g_int fun sz ad G hx hm => by
          subst hx
          refine ⟨[((0, 0, 0), .inr (4, [.ref (ad (0, 1, 0)), .ref (ad (0, 2, 0)), .int (nI nr), .int (nI nn)])), ((0, 1, 0), .inl (t 3, 10, .inr (.inr (.inr (.inr ((rfR ad nr))))))), ((1, j, 0), .inr (0, [.ref (ad (2, j, 0)), .int (nI (leN S j)), .int (S 2 j)])), ((2, j, 0), .inl (t 6, 12, .inr (.inr (.inr (.inr ((rfP ad j (leN S j))))))))], Nat, _, fun u => [((0, 0, 0), ad (0, 0, 0), .inr (4, [.ref (ad (0, 1, 0)), .ref (ad (0, 2, 0)), .int (nI nr), .int (nI nn)])), ((0, 1, 0), ad (0, 1, 0), .inl (t 3, 10, .inr (.inr (.inr (.inr ((rfR ad nr))))))), ((1, j, 0), ad (1, j, 0), .inr (0, [.ref (ad (2, j, 0)), .int (nI (leN S j) + 1), .int (S 2 j)])), ((2, j, 0), ad (2, j, 0), .inl (t 6, 12, .inr (.inr (.inr (.inr (va_up (rfP ad j (leN S j)) (leN S j) (some u))))))), ((3, j, leN S j), u, .inr (3, [.int kd, .int sc, .double sg, .double dg]))], (allc e_0 (allc e_01 (allc (e_1 hj hle rfl) (all1 (e_2 hj))))), by simp, (c_CR_step_ok l D t sz (ad (0, 0, 0)) (ad (0, 1, 0)) (ad (0, 2, 0)) nr nn j (ad (1, j, 0)) (ad (2, j, 0)) (leN S j) (S 2 j) kd sc sg dg (rfR ad nr) (rfP ad j (leN S j)) hj h10 (by simp [rfR, hj]) hfk hokS hn12), fun x u hpo => ⟨hpo, ?_⟩⟩
          have had : ∀ k, k ≠ (3, j, leN S j) → (aUp ad (3, j, leN S j) u) k = ad k := fun k h1 => aUp_ne h1
          have ha1 : (aUp ad (3, j, leN S j) u) (3, j, leN S j) = u := aUp_eq
          have eR : ∀ n, rfR (aUp ad (3, j, leN S j) u) n = rfR ad n := fun n => by funext r; show (if r < n then some ((aUp ad (3, j, leN S j) u) (1, r, 0)) else none) = _; rw [had _ (kt (by decide))]
          have eU : ∀ n, rfU (aUp ad (3, j, leN S j) u) n = rfU ad n := fun n => by funext r; show (if r < n then some ((aUp ad (3, j, leN S j) u) (4, r, 0)) else none) = _; rw [had _ (kt (by decide))]
          have eY : ∀ r n, rfY (aUp ad (3, j, leN S j) u) r n = rfY ad r n := fun r n => by funext q; show (if q < n then some ((aUp ad (3, j, leN S j) u) (6, r, q)) else none) = _; rw [had _ (kt (by decide))]
          have eP : ∀ r n, r ≠ j → rfP (aUp ad (3, j, leN S j) u) r n = rfP ad r n := fun r n hr => by funext q; show (if q < n then some ((aUp ad (3, j, leN S j) u) (3, r, q)) else none) = _; rw [had _ (kr hr)]
          have ePj : rfP (aUp ad (3, j, leN S j) u) j (leN S j + 1) = va_up (rfP ad j (leN S j)) (leN S j) (some u) := by
            funext q
            show (if q < leN S j + 1 then some ((aUp ad (3, j, leN S j) u) (3, j, q)) else none) = (if q = leN S j then some u else (if q < leN S j then some (ad (3, j, q)) else none))
            by_cases c : q = leN S j
            · subst c
              rw [if_pos (Nat.lt_succ_self _), if_pos rfl, ha1]
            · rw [if_neg c]
              by_cases c2 : q < leN S j
              · rw [if_pos (Nat.lt_succ_of_lt c2), if_pos c2, had _ (kq c)]
              · rw [if_neg (by omega), if_neg c2]
          refine ⟨(aUp ad (3, j, leN S j) u), G, had _ (kt (by decide)), (had _ (kt (by decide))).trans hm, hkw_pre [(3, j, leN S j)] rfl, ?_, fun k e hk => ?_⟩
          · refine allc ⟨?_, had _ (kt (by decide))⟩ (allc ⟨?_, had _ (kt (by decide))⟩ (allc ⟨?_, had _ (kt (by decide))⟩ (allc ⟨?_, had _ (kt (by decide))⟩ (all1 ⟨?_, ha1⟩))))
            · rw [e_0, had _ (kt (by decide)), had _ (kt (by decide))]
            · rw [e_01, eR]
            · rw [e_1 (g := S 2 j) hj s1 rfl, had _ (kt (by decide)), nI_1]
            · rw [e_2 hj, lj, ePj]
            · rw [e_3 hj (by rw [lj]; exact Nat.lt_succ_self _), s3j.1, s3j.2.1, s3j.2.2.1, s3j.2.2.2]
          · by_cases c1 : k = (1, j, 0)
            · subst c1; exact Or.inl ⟨_, List.mem_of_getElem? (i := 2) rfl, rfl⟩
            by_cases c2 : k = (2, j, 0)
            · subst c2; exact Or.inl ⟨_, List.mem_of_getElem? (i := 3) rfl, rfl⟩
            by_cases c3 : k = (3, j, leN S j)
            · subst c3; exact Or.inl ⟨_, List.mem_of_getElem? (i := 4) rfl, rfl⟩
            refine Or.inr ⟨?_, had k c3⟩
            rw [eA_split (S := S) (T := T) (nr := nr) (nn := nn) (ad := ad) k (fun q => had _ (kt (by decide))) ?_ ?_ ?_ ?_ ?_ ?_ ?_] at hk
            · exact hk
            · intro c
              unfold eI oC
              simp only [c, if_true, eU, eR, had (0, 1, 0) (kt (by decide)), had (0, 2, 0) (kt (by decide))]
            · obtain ⟨k1, k2, k3⟩ := k
              intro ca cb
              simp only at ca cb
              subst ca cb
              have hne : k2 ≠ j := fun e => c1 (by rw [e])
              refine ⟨Iff.rfl, fun _ => ?_⟩
              show oR (aUp ad (3, j, leN S j) u) (va_up (va_up (va_up S 1 (upd (S 1) j (nI (leN S j) + 1))) 3 (upd (S 3) (12 * j + leN S j) kd)) 4 (upd (S 4) (12 * j + leN S j) sc)) k2 = oR ad S k2
              unfold oR
              rw [had _ (kt (by decide)), s1n k2 hne]
              rfl
            · obtain ⟨k1, k2, k3⟩ := k
              intro ca cb
              simp only at ca cb
              subst ca cb
              have hne : k2 ≠ j := fun e => c2 (by rw [e])
              refine ⟨Iff.rfl, fun _ => ?_⟩
              show rfP (aUp ad (3, j, leN S j) u) k2 (leN (va_up (va_up (va_up S 1 (upd (S 1) j (nI (leN S j) + 1))) 3 (upd (S 3) (12 * j + leN S j) kd)) 4 (upd (S 4) (12 * j + leN S j) sc)) k2) = rfP ad k2 (leN S k2)
              rw [ln k2 hne, eP k2 _ hne]
            · obtain ⟨k1, k2, k3⟩ := k
              intro ca
              simp only at ca
              subst ca
              show ((k2 < nr ∧ k3 < leN (va_up (va_up (va_up S 1 (upd (S 1) j (nI (leN S j) + 1))) 3 (upd (S 3) (12 * j + leN S j) kd)) 4 (upd (S 4) (12 * j + leN S j) sc)) k2) ↔ (k2 < nr ∧ k3 < leN S k2)) ∧ (k2 < nr ∧ k3 < leN S k2 → oP (va_up (va_up (va_up S 1 (upd (S 1) j (nI (leN S j) + 1))) 3 (upd (S 3) (12 * j + leN S j) kd)) 4 (upd (S 4) (12 * j + leN S j) sc)) (va_up (va_up T 5 (vf_upd (T 5) (12 * j + leN S j) sg)) 6 (vf_upd (T 6) (12 * j + leN S j) dg)) k2 k3 = oP S T k2 k3)
              have hlive : (k2 < nr ∧ k3 < leN (va_up (va_up (va_up S 1 (upd (S 1) j (nI (leN S j) + 1))) 3 (upd (S 3) (12 * j + leN S j) kd)) 4 (upd (S 4) (12 * j + leN S j) sc)) k2) ↔ (k2 < nr ∧ k3 < leN S k2) := by
                by_cases c : k2 = j
                · subst c
                  rw [lj]
                  have : k3 ≠ leN S k2 := fun e => c3 (by rw [e])
                  omega
                · rw [ln k2 c]
              refine ⟨hlive, fun h => ?_⟩
              have hk12 : leN S k2 ≤ 12 := (hR k2 h.1).2.1
              have hq : 12 * k2 + k3 ≠ 12 * j + leN S j := by
                intro e
                have e1 : k2 = j := by omega
                subst e1
                omega
              obtain ⟨q3, q4, q5, q6⟩ := s3n _ hq
              unfold oP
              rw [q3, q4, q5, q6]
            · intro _ _
              refine ⟨Iff.rfl, fun h => ?_⟩
              show oU (aUp ad (3, j, leN S j) u) (va_up (va_up (va_up S 1 (upd (S 1) j (nI (leN S j) + 1))) 3 (upd (S 3) (12 * j + leN S j) kd)) 4 (upd (S 4) (12 * j + leN S j) sc)) (va_up (va_up T 5 (vf_upd (T 5) (12 * j + leN S j) sg)) 6 (vf_upd (T 6) (12 * j + leN S j) dg)) k.2.1 = oU ad S T k.2.1
              have e9 : oU (aUp ad (3, j, leN S j) u) (va_up (va_up (va_up S 1 (upd (S 1) j (nI (leN S j) + 1))) 3 (upd (S 3) (12 * j + leN S j) kd)) 4 (upd (S 4) (12 * j + leN S j) sc)) (va_up (va_up T 5 (vf_upd (T 5) (12 * j + leN S j) sg)) 6 (vf_upd (T 6) (12 * j + leN S j) dg)) k.2.1 = oU (aUp ad (3, j, leN S j) u) S T k.2.1 := rfl
              rw [e9]
              unfold oU
              rw [had _ (kt (by decide)), had _ (kt (by decide)), had _ (kt (by decide))]
            · intro _ _
              exact ⟨Iff.rfl, fun h => eY _ _⟩
            · intro _
              refine ⟨Iff.rfl, fun h => ?_⟩
              show oT (aUp ad (3, j, leN S j) u) (va_up (va_up (va_up S 1 (upd (S 1) j (nI (leN S j) + 1))) 3 (upd (S 3) (12 * j + leN S j) kd)) 4 (upd (S 4) (12 * j + leN S j) sc)) G k.2.1 k.2.2 = oT ad S G k.2.1 k.2.2
              have e9 : oT (aUp ad (3, j, leN S j) u) (va_up (va_up (va_up S 1 (upd (S 1) j (nI (leN S j) + 1))) 3 (upd (S 3) (12 * j + leN S j) kd)) 4 (upd (S 4) (12 * j + leN S j) sc)) G k.2.1 k.2.2 = oT (aUp ad (3, j, leN S j) u) S G k.2.1 k.2.2 := rfl
              rw [e9]
              unfold oT
              rw [had _ (kr (hofn _ h.1))]
      · exact gm_int (nr, nn, (va_up (va_up (va_up S 1 (upd (S 1) j (nI (leN S j) + 1))) 3 (upd (S 3) (12 * j + leN S j) kd)) 4 (upd (S 4) (12 * j + leN S j) sc)), (va_up (va_up T 5 (vf_upd (T 5) (12 * j + leN S j) sg)) 6 (vf_upd (T 6) (12 * j + leN S j) dg))) [1, 2, 3, 4, 5, 6] (by decide) (by decide) (fun q hq => by simp only [List.mem_cons, List.not_mem_nil, or_false, not_or] at hq; simp [va_up, hq]) (fun q hq => by simp only [List.mem_cons, List.not_mem_nil, or_false, not_or] at hq; simp [va_up, hq]) (fun sz ad => (c_M_step_ok l D t sz (ad (7, 0, 0)) (ad (7, 1, 0)) (ad (7, 2, 0)) (ad (7, 3, 0)) (ad (7, 4, 0)) (ad (7, 5, 0)) (ad (7, 6, 0)) (ad (7, 8, 0)) (ad (7, 9, 0)) (ad (7, 10, 0)) (ad (7, 11, 0)) (ad (7, 12, 0)) (ad (7, 13, 0)) (ad (7, 14, 0)) (ad (7, 15, 0)) (ad (7, 16, 0)) (ad (7, 17, 0)) (ad (7, 18, 0)) (ad (7, 19, 0)) (ad (7, 20, 0)) (ad (7, 21, 0)) (ad (7, 22, 0)) (ad (7, 23, 0)) nr nn (S 1) (S 2) (S 3) (S 4) (T 5) (T 6) j (leN S j) kd sc sg dg hj h10 hg hle hn12 ((okM_iff kd sc sg dg).mpr hokS)))
    · refine ⟨0, (nr, nn, S, T), hv, ?_, ?_⟩
      · exact gr_int fun sz ad G hx hm => by
          subst hx
          exact ⟨[((0, 0, 0), .inr (4, [.ref (ad (0, 1, 0)), .ref (ad (0, 2, 0)), .int (nI nr), .int (nI nn)])), ((0, 1, 0), .inl (t 3, 10, .inr (.inr (.inr (.inr ((rfR ad nr))))))), ((1, j, 0), .inr (0, [.ref (ad (2, j, 0)), .int (nI (leN S j)), .int (S 2 j)])), ((2, j, 0), .inl (t 6, 12, .inr (.inr (.inr (.inr ((rfP ad j (leN S j))))))))], (allc e_0 (allc e_01 (allc (e_1 hj hle rfl) (all1 (e_2 hj))))), by simp, (c_CR_step_bad l D t sz (ad (0, 0, 0)) (ad (0, 1, 0)) (ad (0, 2, 0)) nr nn j (ad (1, j, 0)) (ad (2, j, 0)) (leN S j) (S 2 j) kd sc sg dg (rfR ad nr) (rfP ad j (leN S j)) hj h10 (by simp [rfR, hj]) hok)⟩
      · exact gm_int (nr, nn, S, T) [1, 2] (by decide) (by decide) (fun _ _ => rfl) (fun _ _ => rfl) (fun sz ad => (c_M_step_bad l D t sz (ad (7, 0, 0)) (ad (7, 1, 0)) (ad (7, 2, 0)) (ad (7, 3, 0)) (ad (7, 4, 0)) (ad (7, 5, 0)) (ad (7, 6, 0)) (ad (7, 8, 0)) (ad (7, 9, 0)) (ad (7, 10, 0)) (ad (7, 11, 0)) (ad (7, 12, 0)) (ad (7, 13, 0)) (ad (7, 14, 0)) (ad (7, 15, 0)) (ad (7, 16, 0)) (ad (7, 17, 0)) (ad (7, 18, 0)) (ad (7, 19, 0)) (ad (7, 20, 0)) (ad (7, 21, 0)) (ad (7, 22, 0)) (ad (7, 23, 0)) nr nn (S 1) (S 2) j kd sc sg dg hj h10 (fun h9 => hok ⟨fK_iff.mpr ⟨h9.1.1, by rw [← hle]; exact h9.1.2⟩, (okM_iff kd sc sg dg).mp h9.2⟩)))
