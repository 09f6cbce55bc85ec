theorem y_pos {v : UInt64} {h : Int32} (hk : okI v h) : 0 < h := by
  have h1 := hk.2.1
  rw [Int32.lt_iff_toInt_lt] at *
  have e0 : (0 : Int32).toInt = 0 := by decide
  have e1 : (1 : Int32).toInt = 1 := by decide
  rw [e1] at h1
  rw [e0]
  omega
set_option maxHeartbeats 4000000 in
set_option maxRecDepth 100000 in
theorem b_interface (l : Launch) (D : va_G) (t : Nat → ClassId) (base x0 m0 : Nat) (Z : St) (hv : Inv Z) (k : Int32) (v : UInt64) (h : Int32) : bothI l D t base x0 m0 yX4_interface2 wsX4_interface2 ({ frames := 1, cells := 0, slots := 0, locals := 25 } : Room) 0 0 yX5_interface2 wsX5_interface2 ({ frames := 2, cells := 0, slots := 0, locals := 42 } : Room) [.int k, .double v, .int h] Z := by
  obtain ⟨nr, nn, S, T⟩ := Z
  obtain ⟨⟨h10, h30⟩, hR, hR0, hU, hU0⟩ := id hv
  simp only at h10 h30 hR hR0 hU hU0
  rcases y_ix k (n := nn) (by omega) with hk | ⟨j, hj, rfl⟩
  · refine ⟨0, (nr, nn, S, T), hv, ?_, ?_⟩
    · exact gr_int fun sz ad G hx hm => by
        subst hx
        exact ⟨[((0, 0, 0), .inr (4, [.ref (ad (0, 1, 0)), .ref (ad (0, 2, 0)), .int (nI nr), .int (nI nn)]))], (all1 e_0), by simp, (c_CR_interface_no l D t sz (ad (0, 0, 0)) (ad (0, 1, 0)) (ad (0, 2, 0)) nr nn k v h hk)⟩
    · exact gm_int (nr, nn, S, T) [] (by decide) (by decide) (fun _ _ => rfl) (fun _ _ => rfl) (fun sz ad => (c_M_interface_no l D t sz (ad (7, 0, 0)) (ad (7, 1, 0)) (ad (7, 2, 0)) (ad (7, 3, 0)) (ad (7, 4, 0)) (ad (7, 5, 0)) (ad (7, 6, 0)) (ad (7, 8, 0)) (ad (7, 9, 0)) (ad (7, 10, 0)) (ad (7, 11, 0)) (ad (7, 12, 0)) (ad (7, 13, 0)) (ad (7, 14, 0)) (ad (7, 15, 0)) (ad (7, 16, 0)) (ad (7, 17, 0)) (ad (7, 18, 0)) (ad (7, 19, 0)) (ad (7, 20, 0)) (ad (7, 21, 0)) (ad (7, 22, 0)) (ad (7, 23, 0)) nr nn k v h hk))
  · obtain ⟨⟨hr, hof, hbeg, hat, hal⟩, ⟨hst5, hw17, hp18, hp19, hp20⟩, hfz, hC⟩ := hU j hj
    obtain ⟨hle, hl12, hb01, hsteps⟩ := hR _ hr
    have ha12 : atN S j < 12 := by omega
    have hgb := hbeg
    have h12 : ∀ i, i < nn → atN S i < 12 := fun i hi => by
      have g1 := (hU i hi).1
      have g2 := (hR _ g1.1).2.1
      omega
    by_cases hon : S 10 j = 0 ∨ S 10 j = 1
    · obtain ⟨hN0, hO0⟩ := fN_on hon
      by_cases hkI : okI v h
      · have hs : same j (atN S j) S (va_up S 17 (upd (S 17) j h)) T (va_up T 16 (vf_upd (T 16) j v)) := by
          refine ⟨⟨rfl, rfl, rfl, rfl, rfl, rfl, rfl, rfl, rfl, rfl⟩, fun i hi => ⟨⟨?_, ?_, ?_, ?_, ?_, ?_⟩, ?_, ?_, ?_, ?_⟩, fun k hk => ⟨?_, ?_⟩⟩ <;> first | rfl | simp [va_up, upd, vf_upd, hi] | simp [va_up, upd, vf_upd, hk]
        have f10 : (va_up S 17 (upd (S 17) j h)) 10 j = S 10 j := rfl
        have f12 : (va_up S 17 (upd (S 17) j h)) 12 j = S 12 j := rfl
        have f13 : (va_up S 17 (upd (S 17) j h)) 13 j = S 13 j := rfl
        have f14 : (va_up S 17 (upd (S 17) j h)) 14 j = S 14 j := rfl
        have f15 : (va_up S 17 (upd (S 17) j h)) 15 j = S 15 j := rfl
        have f17 : (va_up S 17 (upd (S 17) j h)) 17 j = h := by simp [va_up, upd]
        have f21 : (va_up S 17 (upd (S 17) j h)) 21 (12 * j + atN S j) = S 21 (12 * j + atN S j) := rfl
        have f23 : (va_up S 17 (upd (S 17) j h)) 23 (12 * j + atN S j) = S 23 (12 * j + atN S j) := rfl
        have g16 : (va_up T 16 (vf_upd (T 16) j v)) 16 j = v := by simp [va_up, vf_upd]
        have g18 : (va_up T 16 (vf_upd (T 16) j v)) 18 j = T 18 j := rfl
        have g19 : (va_up T 16 (vf_upd (T 16) j v)) 19 j = T 19 j := rfl
        have g20 : (va_up T 16 (vf_upd (T 16) j v)) 20 j = T 20 j := rfl
        have fF : fS ((va_up S 17 (upd (S 17) j h)) 21) (12 * j) = fS (S 21) (12 * j) := rfl
        refine ⟨1, (nr, nn, va_up S 17 (upd (S 17) j h), va_up T 16 (vf_upd (T 16) j v)), inv_run hv hj hs (mkU hs (hU j hj) hst5 f10 (fun _ => by rw [f17]; exact y_pos hkI) (by rw [g18]; exact hp18) (by rw [g19]; exact hp19) (by rw [g20]; exact hp20) (fun h9 => by rw [f13, f14, f21]; exact hC h9)), ?_, ?_⟩
        · exact g_int fun sz ad G hx hm => by
              subst hx
              exact ⟨[((0, 0, 0), .inr (4, [.ref (ad (0, 1, 0)), .ref (ad (0, 2, 0)), .int (nI nr), .int (nI nn)])), ((0, 2, 0), .inl (t 4, 30, .inr (.inr (.inr (.inr ((rfU ad nn))))))), ((4, j, 0), .inr (1, [.ref (ad (1, (ofN S j), 0)), .int (S 9 j), .ref (ad (5, j, 0)), .ref (ad (6, j, (atN S j))), .int (nI (atN S j + 1)), .int (S 10 j), .int (S 12 j), .int (fS (S 21) (12 * j)), .int (if S 17 j ≤ 0 then 0 else 1), .double (T 16 j), .int (S 17 j), .double (T 18 j), .double (T 19 j), .double (T 20 j)]))], Unit, _, fun _ => [((0, 0, 0), ad (0, 0, 0), .inr (4, [.ref (ad (0, 1, 0)), .ref (ad (0, 2, 0)), .int (nI nr), .int (nI nn)])), ((0, 2, 0), ad (0, 2, 0), .inl (t 4, 30, .inr (.inr (.inr (.inr ((rfU ad nn))))))), ((4, j, 0), ad (4, j, 0), .inr (1, [.ref (ad (1, (ofN S j), 0)), .int (S 9 j), .ref (ad (5, j, 0)), .ref (ad (6, j, (atN S j))), .int (nI (atN S j + 1)), .int (S 10 j), .int (S 12 j), .int (fS (S 21) (12 * j)), .int 1, .double v, .int h, .double (T 18 j), .double (T 19 j), .double (T 20 j)]))], (allc e_0 (allc e_02 (all1 (e_4 hj rfl)))), by simp, (c_CR_interface_ok l D t sz (ad (0, 0, 0)) (ad (0, 1, 0)) (ad (0, 2, 0)) nr nn j (ad (4, j, 0)) (rfU ad nn) (ad (1, (ofN S j), 0)) (ad (5, j, 0)) (ad (6, j, (atN S j))) (S 9 j) (nI (atN S j + 1)) (S 10 j) (S 12 j) (fS (S 21) (12 * j)) (if S 17 j ≤ 0 then 0 else 1) (S 17 j) (T 16 j) (T 18 j) (T 19 j) (T 20 j) v h hj h30 (by simp [rfU, hj]) hO0 hkI), fun x u hpo => ⟨hpo, gOb_run hs h12 hj rfl hm (hkw_pre [] rfl) (allc ⟨e_0, rfl⟩ (allc ⟨e_02, rfl⟩ (all1 ⟨((e_4g hs hj f10 f12 fF f17 g16 g18 g19 g20).trans (by rw [if_neg (Int32.not_le.mpr (y_pos hkI))])), rfl⟩))) ⟨_, List.mem_of_getElem? (i := 2) rfl, rfl⟩ (Or.inr (by rw [e_6g hs hj f13 f14 f15 f21 f23, e_6c hj]))⟩⟩
        · exact gm_int (nr, nn, va_up S 17 (upd (S 17) j h), va_up T 16 (vf_upd (T 16) j v)) [10, 16, 17] (by decide) (by decide) (fun q hq => by simp only [List.mem_cons, List.not_mem_nil, or_false, not_or] at hq; simp [va_up, hq]) (fun q hq => by simp only [List.mem_cons, List.not_mem_nil, or_false, not_or] at hq; simp [va_up, hq]) (fun sz ad => (c_M_interface_ok l D t sz (ad (7, 0, 0)) (ad (7, 1, 0)) (ad (7, 2, 0)) (ad (7, 3, 0)) (ad (7, 4, 0)) (ad (7, 5, 0)) (ad (7, 6, 0)) (ad (7, 8, 0)) (ad (7, 9, 0)) (ad (7, 10, 0)) (ad (7, 11, 0)) (ad (7, 12, 0)) (ad (7, 13, 0)) (ad (7, 14, 0)) (ad (7, 15, 0)) (ad (7, 16, 0)) (ad (7, 17, 0)) (ad (7, 18, 0)) (ad (7, 19, 0)) (ad (7, 20, 0)) (ad (7, 21, 0)) (ad (7, 22, 0)) (ad (7, 23, 0)) nr nn (S 10) (S 17) (T 16) j v h hj h30 hN0 hkI))
      · refine ⟨0, (nr, nn, S, T), hv, ?_, ?_⟩
        · exact gr_int fun sz ad G hx hm => by
            subst hx
            exact ⟨[((0, 0, 0), .inr (4, [.ref (ad (0, 1, 0)), .ref (ad (0, 2, 0)), .int (nI nr), .int (nI nn)])), ((0, 2, 0), .inl (t 4, 30, .inr (.inr (.inr (.inr ((rfU ad nn))))))), ((4, j, 0), .inr (1, [.ref (ad (1, (ofN S j), 0)), .int (S 9 j), .ref (ad (5, j, 0)), .ref (ad (6, j, (atN S j))), .int (nI (atN S j + 1)), .int (S 10 j), .int (S 12 j), .int (fS (S 21) (12 * j)), .int (if S 17 j ≤ 0 then 0 else 1), .double (T 16 j), .int (S 17 j), .double (T 18 j), .double (T 19 j), .double (T 20 j)]))], (allc e_0 (allc e_02 (all1 (e_4 hj rfl)))), by simp, (c_CR_interface_bad l D t sz (ad (0, 0, 0)) (ad (0, 1, 0)) (ad (0, 2, 0)) nr nn j (ad (4, j, 0)) (rfU ad nn) (ad (1, (ofN S j), 0)) (ad (5, j, 0)) (ad (6, j, (atN S j))) (S 9 j) (nI (atN S j + 1)) (S 10 j) (S 12 j) (fS (S 21) (12 * j)) (if S 17 j ≤ 0 then 0 else 1) (S 17 j) (T 16 j) (T 18 j) (T 19 j) (T 20 j) v h hj h30 (by simp [rfU, hj]) (fun h9 => hkI h9.2))⟩
        · exact gm_int (nr, nn, S, T) [10] (by decide) (by decide) (fun _ _ => rfl) (fun _ _ => rfl) (fun sz ad => (c_M_interface_bad l D t sz (ad (7, 0, 0)) (ad (7, 1, 0)) (ad (7, 2, 0)) (ad (7, 3, 0)) (ad (7, 4, 0)) (ad (7, 5, 0)) (ad (7, 6, 0)) (ad (7, 8, 0)) (ad (7, 9, 0)) (ad (7, 10, 0)) (ad (7, 11, 0)) (ad (7, 12, 0)) (ad (7, 13, 0)) (ad (7, 14, 0)) (ad (7, 15, 0)) (ad (7, 16, 0)) (ad (7, 17, 0)) (ad (7, 18, 0)) (ad (7, 19, 0)) (ad (7, 20, 0)) (ad (7, 21, 0)) (ad (7, 22, 0)) (ad (7, 23, 0)) nr nn (S 10) j v h hj h30 (fun h9 => hkI h9.2)))
    · obtain ⟨hN0, hO0⟩ := fN_over hst5 (fun h9 => hon (Or.inl h9)) (fun h9 => hon (Or.inr h9))
      refine ⟨0, (nr, nn, S, T), hv, ?_, ?_⟩
      · exact gr_int fun sz ad G hx hm => by
          subst hx
          exact ⟨[((0, 0, 0), .inr (4, [.ref (ad (0, 1, 0)), .ref (ad (0, 2, 0)), .int (nI nr), .int (nI nn)])), ((0, 2, 0), .inl (t 4, 30, .inr (.inr (.inr (.inr ((rfU ad nn))))))), ((4, j, 0), .inr (1, [.ref (ad (1, (ofN S j), 0)), .int (S 9 j), .ref (ad (5, j, 0)), .ref (ad (6, j, (atN S j))), .int (nI (atN S j + 1)), .int (S 10 j), .int (S 12 j), .int (fS (S 21) (12 * j)), .int (if S 17 j ≤ 0 then 0 else 1), .double (T 16 j), .int (S 17 j), .double (T 18 j), .double (T 19 j), .double (T 20 j)]))], (allc e_0 (allc e_02 (all1 (e_4 hj rfl)))), by simp, (c_CR_interface_bad l D t sz (ad (0, 0, 0)) (ad (0, 1, 0)) (ad (0, 2, 0)) nr nn j (ad (4, j, 0)) (rfU ad nn) (ad (1, (ofN S j), 0)) (ad (5, j, 0)) (ad (6, j, (atN S j))) (S 9 j) (nI (atN S j + 1)) (S 10 j) (S 12 j) (fS (S 21) (12 * j)) (if S 17 j ≤ 0 then 0 else 1) (S 17 j) (T 16 j) (T 18 j) (T 19 j) (T 20 j) v h hj h30 (by simp [rfU, hj]) (fun h9 => hO0 h9.1))⟩
      · exact gm_int (nr, nn, S, T) [10] (by decide) (by decide) (fun _ _ => rfl) (fun _ _ => rfl) (fun sz ad => (c_M_interface_bad l D t sz (ad (7, 0, 0)) (ad (7, 1, 0)) (ad (7, 2, 0)) (ad (7, 3, 0)) (ad (7, 4, 0)) (ad (7, 5, 0)) (ad (7, 6, 0)) (ad (7, 8, 0)) (ad (7, 9, 0)) (ad (7, 10, 0)) (ad (7, 11, 0)) (ad (7, 12, 0)) (ad (7, 13, 0)) (ad (7, 14, 0)) (ad (7, 15, 0)) (ad (7, 16, 0)) (ad (7, 17, 0)) (ad (7, 18, 0)) (ad (7, 19, 0)) (ad (7, 20, 0)) (ad (7, 21, 0)) (ad (7, 22, 0)) (ad (7, 23, 0)) nr nn (S 10) j v h hj h30 (fun h9 => h9.1 hN0)))

set_option maxHeartbeats 4000000 in
set_option maxRecDepth 100000 in
theorem b_breakOff (l : Launch) (D : va_G) (t : Nat → ClassId) (base x0 m0 : Nat) (Z : St) (hv : Inv Z) (k : Int32) : bothI l D t base x0 m0 yX4_breakOff wsX4_breakOff ({ frames := 1, cells := 0, slots := 0, locals := 21 } : Room) 0 0 yX5_breakOff wsX5_breakOff ({ frames := 2, cells := 0, slots := 0, locals := 42 } : Room) [.int k] Z := by
  obtain ⟨nr, nn, S, T⟩ := Z
  obtain ⟨⟨h10, h30⟩, hR, hR0, hU, hU0⟩ := id hv
  simp only at h10 h30 hR hR0 hU hU0
  rcases y_ix k (n := nn) (by omega) with hk | ⟨j, hj, rfl⟩
  · refine ⟨0, (nr, nn, S, T), hv, ?_, ?_⟩
    · exact gr_int fun sz ad G hx hm => by
        subst hx
        exact ⟨[((0, 0, 0), .inr (4, [.ref (ad (0, 1, 0)), .ref (ad (0, 2, 0)), .int (nI nr), .int (nI nn)]))], (all1 e_0), by simp, (c_CR_breakOff_no l D t sz (ad (0, 0, 0)) (ad (0, 1, 0)) (ad (0, 2, 0)) nr nn k hk)⟩
    · exact gm_int (nr, nn, S, T) [] (by decide) (by decide) (fun _ _ => rfl) (fun _ _ => rfl) (fun sz ad => (c_M_breakOff_no l D t sz (ad (7, 0, 0)) (ad (7, 1, 0)) (ad (7, 2, 0)) (ad (7, 3, 0)) (ad (7, 4, 0)) (ad (7, 5, 0)) (ad (7, 6, 0)) (ad (7, 8, 0)) (ad (7, 9, 0)) (ad (7, 10, 0)) (ad (7, 11, 0)) (ad (7, 12, 0)) (ad (7, 13, 0)) (ad (7, 14, 0)) (ad (7, 15, 0)) (ad (7, 16, 0)) (ad (7, 17, 0)) (ad (7, 18, 0)) (ad (7, 19, 0)) (ad (7, 20, 0)) (ad (7, 21, 0)) (ad (7, 22, 0)) (ad (7, 23, 0)) nr nn k hk))
  · obtain ⟨⟨hr, hof, hbeg, hat, hal⟩, ⟨hst5, hw17, hp18, hp19, hp20⟩, hfz, hC⟩ := hU j hj
    obtain ⟨hle, hl12, hb01, hsteps⟩ := hR _ hr
    have ha12 : atN S j < 12 := by omega
    have hgb := hbeg
    have h12 : ∀ i, i < nn → atN S i < 12 := fun i hi => by
      have g1 := (hU i hi).1
      have g2 := (hR _ g1.1).2.1
      omega
    by_cases hon : S 10 j = 0 ∨ S 10 j = 1
    · obtain ⟨hN0, hO0⟩ := fN_on hon
      have hs : same j (atN S j) S (va_up (va_up S 10 (upd (S 10) j 4)) 23 (upd (S 23) (12 * j + atN S j) (S 12 j))) T T := by
        refine ⟨⟨rfl, rfl, rfl, rfl, rfl, rfl, rfl, rfl, rfl, rfl⟩, fun i hi => ⟨⟨?_, ?_, ?_, ?_, ?_, ?_⟩, ?_, ?_, ?_, ?_⟩, fun k hk => ⟨?_, ?_⟩⟩ <;> first | rfl | simp [va_up, upd, vf_upd, hi] | simp [va_up, upd, vf_upd, hk]
      have f10 : (va_up (va_up S 10 (upd (S 10) j 4)) 23 (upd (S 23) (12 * j + atN S j) (S 12 j))) 10 j = 4 := by simp [va_up, upd]
      have f12 : (va_up (va_up S 10 (upd (S 10) j 4)) 23 (upd (S 23) (12 * j + atN S j) (S 12 j))) 12 j = S 12 j := rfl
      have f13 : (va_up (va_up S 10 (upd (S 10) j 4)) 23 (upd (S 23) (12 * j + atN S j) (S 12 j))) 13 j = S 13 j := rfl
      have f14 : (va_up (va_up S 10 (upd (S 10) j 4)) 23 (upd (S 23) (12 * j + atN S j) (S 12 j))) 14 j = S 14 j := rfl
      have f15 : (va_up (va_up S 10 (upd (S 10) j 4)) 23 (upd (S 23) (12 * j + atN S j) (S 12 j))) 15 j = S 15 j := rfl
      have f17 : (va_up (va_up S 10 (upd (S 10) j 4)) 23 (upd (S 23) (12 * j + atN S j) (S 12 j))) 17 j = S 17 j := rfl
      have f21 : (va_up (va_up S 10 (upd (S 10) j 4)) 23 (upd (S 23) (12 * j + atN S j) (S 12 j))) 21 (12 * j + atN S j) = S 21 (12 * j + atN S j) := rfl
      have f23 : (va_up (va_up S 10 (upd (S 10) j 4)) 23 (upd (S 23) (12 * j + atN S j) (S 12 j))) 23 (12 * j + atN S j) = S 12 j := by simp [va_up, upd]
      have g16 : T 16 j = T 16 j := rfl
      have g18 : T 18 j = T 18 j := rfl
      have g19 : T 19 j = T 19 j := rfl
      have g20 : T 20 j = T 20 j := rfl
      have fF : fS ((va_up (va_up S 10 (upd (S 10) j 4)) 23 (upd (S 23) (12 * j + atN S j) (S 12 j))) 21) (12 * j) = fS (S 21) (12 * j) := rfl
      refine ⟨1, (nr, nn, va_up (va_up S 10 (upd (S 10) j 4)) 23 (upd (S 23) (12 * j + atN S j) (S 12 j)), T), inv_run hv hj hs (mkU hs (hU j hj) (Or.inr (Or.inr (Or.inr (Or.inr rfl)))) f10 (fun h9 => absurd h9 (by decide)) (by rw [g18]; exact hp18) (by rw [g19]; exact hp19) (by rw [g20]; exact hp20) (fun h9 => absurd h9 (by decide))), ?_, ?_⟩
      · exact g_int fun sz ad G hx hm => by
            subst hx
            exact ⟨[((0, 0, 0), .inr (4, [.ref (ad (0, 1, 0)), .ref (ad (0, 2, 0)), .int (nI nr), .int (nI nn)])), ((0, 2, 0), .inl (t 4, 30, .inr (.inr (.inr (.inr ((rfU ad nn))))))), ((4, j, 0), .inr (1, [.ref (ad (1, (ofN S j), 0)), .int (S 9 j), .ref (ad (5, j, 0)), .ref (ad (6, j, (atN S j))), .int (nI (atN S j + 1)), .int (S 10 j), .int (S 12 j), .int (fS (S 21) (12 * j)), .int (if S 17 j ≤ 0 then 0 else 1), .double (T 16 j), .int (S 17 j), .double (T 18 j), .double (T 19 j), .double (T 20 j)])), ((6, j, (atN S j)), .inr (2, [.ref (ad (3, (ofN S j), (atN S j))), .int (S 22 (12 * j + (atN S j))), .int (S 23 (12 * j + (atN S j))), .int (S 15 j), .int (S 13 j), .int (S 14 j), .int (S 21 (12 * j + (atN S j)))]))], Unit, _, fun _ => [((0, 0, 0), ad (0, 0, 0), .inr (4, [.ref (ad (0, 1, 0)), .ref (ad (0, 2, 0)), .int (nI nr), .int (nI nn)])), ((0, 2, 0), ad (0, 2, 0), .inl (t 4, 30, .inr (.inr (.inr (.inr ((rfU ad nn))))))), ((4, j, 0), ad (4, j, 0), .inr (1, [.ref (ad (1, (ofN S j), 0)), .int (S 9 j), .ref (ad (5, j, 0)), .ref (ad (6, j, (atN S j))), .int (nI (atN S j + 1)), .int 4, .int (S 12 j), .int (fS (S 21) (12 * j)), .int (if S 17 j ≤ 0 then 0 else 1), .double (T 16 j), .int (S 17 j), .double (T 18 j), .double (T 19 j), .double (T 20 j)])), ((6, j, (atN S j)), ad (6, j, (atN S j)), .inr (2, [.ref (ad (3, (ofN S j), (atN S j))), .int (S 22 (12 * j + (atN S j))), .int (S 12 j), .int (S 15 j), .int (S 13 j), .int (S 14 j), .int (S 21 (12 * j + (atN S j)))]))], (allc e_0 (allc e_02 (allc (e_4 hj rfl) (all1 (e_6c hj))))), by simp, (c_CR_breakOff_ok l D t sz (ad (0, 0, 0)) (ad (0, 1, 0)) (ad (0, 2, 0)) nr nn j (ad (4, j, 0)) (rfU ad nn) (ad (1, (ofN S j), 0)) (ad (5, j, 0)) (ad (6, j, (atN S j))) (S 9 j) (nI (atN S j + 1)) (S 10 j) (S 12 j) (fS (S 21) (12 * j)) (if S 17 j ≤ 0 then 0 else 1) (S 17 j) (T 16 j) (T 18 j) (T 19 j) (T 20 j) (ad (3, (ofN S j), (atN S j))) (S 22 (12 * j + (atN S j))) (S 23 (12 * j + (atN S j))) (S 15 j) (S 13 j) (S 14 j) (S 21 (12 * j + (atN S j))) hj h30 (by simp [rfU, hj]) hO0), fun x u hpo => ⟨hpo, gOb_run hs h12 hj rfl hm (hkw_pre [] rfl) (allc ⟨e_0, rfl⟩ (allc ⟨e_02, rfl⟩ (allc ⟨(e_4g hs hj f10 f12 fF f17 g16 g18 g19 g20), rfl⟩ (all1 ⟨(e_6g hs hj f13 f14 f15 f21 f23), rfl⟩)))) ⟨_, List.mem_of_getElem? (i := 2) rfl, rfl⟩ (Or.inl ⟨_, List.mem_of_getElem? (i := 3) rfl, rfl⟩)⟩⟩
      · exact gm_int (nr, nn, va_up (va_up S 10 (upd (S 10) j 4)) 23 (upd (S 23) (12 * j + atN S j) (S 12 j)), T) [10, 11, 12, 23] (by decide) (by decide) (fun q hq => by simp only [List.mem_cons, List.not_mem_nil, or_false, not_or] at hq; simp [va_up, hq]) (fun q hq => by rfl) (fun sz ad => (c_M_breakOff_ok l D t sz (ad (7, 0, 0)) (ad (7, 1, 0)) (ad (7, 2, 0)) (ad (7, 3, 0)) (ad (7, 4, 0)) (ad (7, 5, 0)) (ad (7, 6, 0)) (ad (7, 8, 0)) (ad (7, 9, 0)) (ad (7, 10, 0)) (ad (7, 11, 0)) (ad (7, 12, 0)) (ad (7, 13, 0)) (ad (7, 14, 0)) (ad (7, 15, 0)) (ad (7, 16, 0)) (ad (7, 17, 0)) (ad (7, 18, 0)) (ad (7, 19, 0)) (ad (7, 20, 0)) (ad (7, 21, 0)) (ad (7, 22, 0)) (ad (7, 23, 0)) nr nn (S 10) (S 11) (S 12) (S 23) j (atN S j) hj h30 hN0 hat ha12))
    · obtain ⟨hN0, hO0⟩ := fN_over hst5 (fun h9 => hon (Or.inl h9)) (fun h9 => hon (Or.inr h9))
      refine ⟨0, (nr, nn, S, T), hv, ?_, ?_⟩
      · exact gr_int fun sz ad G hx hm => by
          subst hx
          exact ⟨[((0, 0, 0), .inr (4, [.ref (ad (0, 1, 0)), .ref (ad (0, 2, 0)), .int (nI nr), .int (nI nn)])), ((0, 2, 0), .inl (t 4, 30, .inr (.inr (.inr (.inr ((rfU ad nn))))))), ((4, j, 0), .inr (1, [.ref (ad (1, (ofN S j), 0)), .int (S 9 j), .ref (ad (5, j, 0)), .ref (ad (6, j, (atN S j))), .int (nI (atN S j + 1)), .int (S 10 j), .int (S 12 j), .int (fS (S 21) (12 * j)), .int (if S 17 j ≤ 0 then 0 else 1), .double (T 16 j), .int (S 17 j), .double (T 18 j), .double (T 19 j), .double (T 20 j)]))], (allc e_0 (allc e_02 (all1 (e_4 hj rfl)))), by simp, (c_CR_breakOff_bad l D t sz (ad (0, 0, 0)) (ad (0, 1, 0)) (ad (0, 2, 0)) nr nn j (ad (4, j, 0)) (rfU ad nn) (ad (1, (ofN S j), 0)) (ad (5, j, 0)) (ad (6, j, (atN S j))) (S 9 j) (nI (atN S j + 1)) (S 10 j) (S 12 j) (fS (S 21) (12 * j)) (if S 17 j ≤ 0 then 0 else 1) (S 17 j) (T 16 j) (T 18 j) (T 19 j) (T 20 j) hj h30 (by simp [rfU, hj]) hO0)⟩
      · exact gm_int (nr, nn, S, T) [10] (by decide) (by decide) (fun _ _ => rfl) (fun _ _ => rfl) (fun sz ad => (c_M_breakOff_bad l D t sz (ad (7, 0, 0)) (ad (7, 1, 0)) (ad (7, 2, 0)) (ad (7, 3, 0)) (ad (7, 4, 0)) (ad (7, 5, 0)) (ad (7, 6, 0)) (ad (7, 8, 0)) (ad (7, 9, 0)) (ad (7, 10, 0)) (ad (7, 11, 0)) (ad (7, 12, 0)) (ad (7, 13, 0)) (ad (7, 14, 0)) (ad (7, 15, 0)) (ad (7, 16, 0)) (ad (7, 17, 0)) (ad (7, 18, 0)) (ad (7, 19, 0)) (ad (7, 20, 0)) (ad (7, 21, 0)) (ad (7, 22, 0)) (ad (7, 23, 0)) nr nn (S 10) j hj h30 hN0))
