set_option maxHeartbeats 4000000 in
set_option maxRecDepth 100000 in
theorem b_state (l : Launch) (D : va_G) (t : Nat → ClassId) (base x0 m0 : Nat) (Z : St) (hv : Inv Z) (k : Int32)  : bothI l D t base x0 m0 yX4_state wsX4_state ({ frames := 1, cells := 0, slots := 0, locals := 21 } : Room) 0 0 yX5_state wsX5_state ({ frames := 1, cells := 0, slots := 0, locals := 21 } : Room) [.int k] Z := by
  obtain ⟨nr, nn, S, T⟩ := Z
  obtain ⟨⟨h10, h30⟩, hR, hR0, hU, hU0⟩ := id hv
  simp only at h10 h30 hR hR0 hU hU0
  rcases y_ix k (n := nn) (by omega) with hk | ⟨j, hj, rfl⟩
  · refine ⟨(-1), (nr, nn, S, T), hv, ?_, ?_⟩
    · exact gr_int fun sz ad G hx hm => by
        subst hx
        exact ⟨[((0, 0, 0), .inr (4, [.ref (ad (0, 1, 0)), .ref (ad (0, 2, 0)), .int (nI nr), .int (nI nn)]))], (all1 e_0), by simp, (c_CR_state_no l D t sz (ad (0, 0, 0)) (ad (0, 1, 0)) (ad (0, 2, 0)) nr nn k hk)⟩
    · exact gm_int (nr, nn, S, T) [] (by decide) (by decide) (fun _ _ => rfl) (fun _ _ => rfl) (fun sz ad => (c_M_state_no l D t sz (ad (7, 0, 0)) (ad (7, 1, 0)) (ad (7, 2, 0)) (ad (7, 3, 0)) (ad (7, 4, 0)) (ad (7, 5, 0)) (ad (7, 6, 0)) (ad (7, 8, 0)) (ad (7, 9, 0)) (ad (7, 10, 0)) (ad (7, 11, 0)) (ad (7, 12, 0)) (ad (7, 13, 0)) (ad (7, 14, 0)) (ad (7, 15, 0)) (ad (7, 16, 0)) (ad (7, 17, 0)) (ad (7, 18, 0)) (ad (7, 19, 0)) (ad (7, 20, 0)) (ad (7, 21, 0)) (ad (7, 22, 0)) (ad (7, 23, 0)) nr nn k hk))
  · obtain ⟨⟨hr, hof, hbeg, hat, hal⟩, ⟨hst5, hw17, hp18, hp19, hp20⟩, hfz, hC⟩ := hU j hj
    obtain ⟨hle, hl12, hb01, hsteps⟩ := hR _ hr
    have ha12 : atN S j < 12 := by omega
    have hgb := hbeg
    refine ⟨S 10 j, (nr, nn, S, T), hv, ?_, ?_⟩
    · exact gr_int fun sz ad G hx hm => by
        subst hx
        exact ⟨[((0, 0, 0), .inr (4, [.ref (ad (0, 1, 0)), .ref (ad (0, 2, 0)), .int (nI nr), .int (nI nn)])), ((0, 2, 0), .inl (t 4, 30, .inr (.inr (.inr (.inr ((rfU ad nn))))))), ((4, j, 0), .inr (1, [.ref (ad (1, (ofN S j), 0)), .int (S 9 j), .ref (ad (5, j, 0)), .ref (ad (6, j, (atN S j))), .int (nI (atN S j + 1)), .int (S 10 j), .int (S 12 j), .int (fS (S 21) (12 * j)), .int (if S 17 j ≤ 0 then 0 else 1), .double (T 16 j), .int (S 17 j), .double (T 18 j), .double (T 19 j), .double (T 20 j)]))], (allc e_0 (allc e_02 (all1 (e_4 hj rfl)))), by simp, (c_CR_state_at l D t sz (ad (0, 0, 0)) (ad (0, 1, 0)) (ad (0, 2, 0)) nr nn j (ad (4, j, 0)) (rfU ad nn) (ad (1, (ofN S j), 0)) (ad (5, j, 0)) (ad (6, j, (atN S j))) (S 9 j) (nI (atN S j + 1)) (S 10 j) (S 12 j) (fS (S 21) (12 * j)) (if S 17 j ≤ 0 then 0 else 1) (S 17 j) (T 16 j) (T 18 j) (T 19 j) (T 20 j) hj h30 (by simp [rfU, hj]))⟩
    · exact gm_int (nr, nn, S, T) [10] (by decide) (by decide) (fun _ _ => rfl) (fun _ _ => rfl) (fun sz ad => (c_M_state_at l D t sz (ad (7, 0, 0)) (ad (7, 1, 0)) (ad (7, 2, 0)) (ad (7, 3, 0)) (ad (7, 4, 0)) (ad (7, 5, 0)) (ad (7, 6, 0)) (ad (7, 8, 0)) (ad (7, 9, 0)) (ad (7, 10, 0)) (ad (7, 11, 0)) (ad (7, 12, 0)) (ad (7, 13, 0)) (ad (7, 14, 0)) (ad (7, 15, 0)) (ad (7, 16, 0)) (ad (7, 17, 0)) (ad (7, 18, 0)) (ad (7, 19, 0)) (ad (7, 20, 0)) (ad (7, 21, 0)) (ad (7, 22, 0)) (ad (7, 23, 0)) nr nn (S 10) j hj h30))

set_option maxHeartbeats 4000000 in
set_option maxRecDepth 100000 in
theorem b_stepOf (l : Launch) (D : va_G) (t : Nat → ClassId) (base x0 m0 : Nat) (Z : St) (hv : Inv Z) (k : Int32)  : bothI l D t base x0 m0 yX4_stepOf wsX4_stepOf ({ frames := 1, cells := 0, slots := 0, locals := 21 } : Room) 0 0 yX5_stepOf wsX5_stepOf ({ frames := 1, cells := 0, slots := 0, locals := 21 } : Room) [.int k] Z := by
  obtain ⟨nr, nn, S, T⟩ := Z
  obtain ⟨⟨h10, h30⟩, hR, hR0, hU, hU0⟩ := id hv
  simp only at h10 h30 hR hR0 hU hU0
  rcases y_ix k (n := nn) (by omega) with hk | ⟨j, hj, rfl⟩
  · refine ⟨(-1), (nr, nn, S, T), hv, ?_, ?_⟩
    · exact gr_int fun sz ad G hx hm => by
        subst hx
        exact ⟨[((0, 0, 0), .inr (4, [.ref (ad (0, 1, 0)), .ref (ad (0, 2, 0)), .int (nI nr), .int (nI nn)]))], (all1 e_0), by simp, (c_CR_stepOf_no l D t sz (ad (0, 0, 0)) (ad (0, 1, 0)) (ad (0, 2, 0)) nr nn k hk)⟩
    · exact gm_int (nr, nn, S, T) [] (by decide) (by decide) (fun _ _ => rfl) (fun _ _ => rfl) (fun sz ad => (c_M_stepOf_no l D t sz (ad (7, 0, 0)) (ad (7, 1, 0)) (ad (7, 2, 0)) (ad (7, 3, 0)) (ad (7, 4, 0)) (ad (7, 5, 0)) (ad (7, 6, 0)) (ad (7, 8, 0)) (ad (7, 9, 0)) (ad (7, 10, 0)) (ad (7, 11, 0)) (ad (7, 12, 0)) (ad (7, 13, 0)) (ad (7, 14, 0)) (ad (7, 15, 0)) (ad (7, 16, 0)) (ad (7, 17, 0)) (ad (7, 18, 0)) (ad (7, 19, 0)) (ad (7, 20, 0)) (ad (7, 21, 0)) (ad (7, 22, 0)) (ad (7, 23, 0)) nr nn k hk))
  · obtain ⟨⟨hr, hof, hbeg, hat, hal⟩, ⟨hst5, hw17, hp18, hp19, hp20⟩, hfz, hC⟩ := hU j hj
    obtain ⟨hle, hl12, hb01, hsteps⟩ := hR _ hr
    have ha12 : atN S j < 12 := by omega
    have hgb := hbeg
    refine ⟨S 11 j, (nr, nn, S, T), hv, ?_, ?_⟩
    · exact gr_int fun sz ad G hx hm => by
        subst hx
        exact ⟨[((0, 0, 0), .inr (4, [.ref (ad (0, 1, 0)), .ref (ad (0, 2, 0)), .int (nI nr), .int (nI nn)])), ((0, 2, 0), .inl (t 4, 30, .inr (.inr (.inr (.inr ((rfU ad nn))))))), ((4, j, 0), .inr (1, [.ref (ad (1, (ofN S j), 0)), .int (S 9 j), .ref (ad (5, j, 0)), .ref (ad (6, j, (atN S j))), .int (nI (atN S j + 1)), .int (S 10 j), .int (S 12 j), .int (fS (S 21) (12 * j)), .int (if S 17 j ≤ 0 then 0 else 1), .double (T 16 j), .int (S 17 j), .double (T 18 j), .double (T 19 j), .double (T 20 j)]))], (allc e_0 (allc e_02 (all1 (e_4 hj rfl)))), by simp, met_ans (by rw [nI_pred]; exact hat.symm) (c_CR_stepOf_at l D t sz (ad (0, 0, 0)) (ad (0, 1, 0)) (ad (0, 2, 0)) nr nn j (ad (4, j, 0)) (rfU ad nn) (ad (1, (ofN S j), 0)) (ad (5, j, 0)) (ad (6, j, (atN S j))) (S 9 j) (nI (atN S j + 1)) (S 10 j) (S 12 j) (fS (S 21) (12 * j)) (if S 17 j ≤ 0 then 0 else 1) (S 17 j) (T 16 j) (T 18 j) (T 19 j) (T 20 j) hj h30 (by simp [rfU, hj]))⟩
    · exact gm_int (nr, nn, S, T) [11] (by decide) (by decide) (fun _ _ => rfl) (fun _ _ => rfl) (fun sz ad => (c_M_stepOf_at l D t sz (ad (7, 0, 0)) (ad (7, 1, 0)) (ad (7, 2, 0)) (ad (7, 3, 0)) (ad (7, 4, 0)) (ad (7, 5, 0)) (ad (7, 6, 0)) (ad (7, 8, 0)) (ad (7, 9, 0)) (ad (7, 10, 0)) (ad (7, 11, 0)) (ad (7, 12, 0)) (ad (7, 13, 0)) (ad (7, 14, 0)) (ad (7, 15, 0)) (ad (7, 16, 0)) (ad (7, 17, 0)) (ad (7, 18, 0)) (ad (7, 19, 0)) (ad (7, 20, 0)) (ad (7, 21, 0)) (ad (7, 22, 0)) (ad (7, 23, 0)) nr nn (S 11) j hj h30))

set_option maxHeartbeats 4000000 in
set_option maxRecDepth 100000 in
theorem b_counted (l : Launch) (D : va_G) (t : Nat → ClassId) (base x0 m0 : Nat) (Z : St) (hv : Inv Z) (k : Int32)  : bothL l D t base x0 m0 yX4_counted wsX4_counted ({ frames := 1, cells := 0, slots := 0, locals := 21 } : Room) yX5_counted wsX5_counted ({ frames := 1, cells := 0, slots := 0, locals := 21 } : Room) [.int k] Z := by
  obtain ⟨nr, nn, S, T⟩ := Z
  obtain ⟨⟨h10, h30⟩, hR, hR0, hU, hU0⟩ := id hv
  simp only at h10 h30 hR hR0 hU hU0
  rcases y_ix k (n := nn) (by omega) with hk | ⟨j, hj, rfl⟩
  · refine ⟨(-1), ?_, ?_⟩
    · exact gr_long fun sz ad G hx hm => by
        subst hx
        exact ⟨[((0, 0, 0), .inr (4, [.ref (ad (0, 1, 0)), .ref (ad (0, 2, 0)), .int (nI nr), .int (nI nn)]))], (all1 e_0), by simp, (c_CR_counted_no l D t sz (ad (0, 0, 0)) (ad (0, 1, 0)) (ad (0, 2, 0)) nr nn k hk)⟩
    · exact gm_long [] (by decide) (by decide) (fun sz ad => (c_M_counted_no l D t sz (ad (7, 0, 0)) (ad (7, 1, 0)) (ad (7, 2, 0)) (ad (7, 3, 0)) (ad (7, 4, 0)) (ad (7, 5, 0)) (ad (7, 6, 0)) (ad (7, 8, 0)) (ad (7, 9, 0)) (ad (7, 10, 0)) (ad (7, 11, 0)) (ad (7, 12, 0)) (ad (7, 13, 0)) (ad (7, 14, 0)) (ad (7, 15, 0)) (ad (7, 16, 0)) (ad (7, 17, 0)) (ad (7, 18, 0)) (ad (7, 19, 0)) (ad (7, 20, 0)) (ad (7, 21, 0)) (ad (7, 22, 0)) (ad (7, 23, 0)) nr nn k hk))
  · obtain ⟨⟨hr, hof, hbeg, hat, hal⟩, ⟨hst5, hw17, hp18, hp19, hp20⟩, hfz, hC⟩ := hU j hj
    obtain ⟨hle, hl12, hb01, hsteps⟩ := hR _ hr
    have ha12 : atN S j < 12 := by omega
    have hgb := hbeg
    refine ⟨(S 13 j).toInt64, ?_, ?_⟩
    · exact gr_long fun sz ad G hx hm => by
        subst hx
        exact ⟨[((0, 0, 0), .inr (4, [.ref (ad (0, 1, 0)), .ref (ad (0, 2, 0)), .int (nI nr), .int (nI nn)])), ((0, 2, 0), .inl (t 4, 30, .inr (.inr (.inr (.inr ((rfU ad nn))))))), ((4, j, 0), .inr (1, [.ref (ad (1, (ofN S j), 0)), .int (S 9 j), .ref (ad (5, j, 0)), .ref (ad (6, j, (atN S j))), .int (nI (atN S j + 1)), .int (S 10 j), .int (S 12 j), .int (fS (S 21) (12 * j)), .int (if S 17 j ≤ 0 then 0 else 1), .double (T 16 j), .int (S 17 j), .double (T 18 j), .double (T 19 j), .double (T 20 j)])), ((6, j, (atN S j)), .inr (2, [.ref (ad (3, (ofN S j), (atN S j))), .int (S 22 (12 * j + (atN S j))), .int (S 23 (12 * j + (atN S j))), .int (S 15 j), .int (S 13 j), .int (S 14 j), .int (S 21 (12 * j + (atN S j)))]))], (allc e_0 (allc e_02 (allc (e_4 hj rfl) (all1 (e_6c hj))))), by simp, (c_CR_counted_at l D t sz (ad (0, 0, 0)) (ad (0, 1, 0)) (ad (0, 2, 0)) nr nn j (ad (4, j, 0)) (rfU ad nn) (ad (1, (ofN S j), 0)) (ad (5, j, 0)) (ad (6, j, (atN S j))) (S 9 j) (nI (atN S j + 1)) (S 10 j) (S 12 j) (fS (S 21) (12 * j)) (if S 17 j ≤ 0 then 0 else 1) (S 17 j) (T 16 j) (T 18 j) (T 19 j) (T 20 j) (ad (3, (ofN S j), (atN S j))) (S 22 (12 * j + (atN S j))) (S 23 (12 * j + (atN S j))) (S 15 j) (S 13 j) (S 14 j) (S 21 (12 * j + (atN S j))) hj h30 (by simp [rfU, hj]))⟩
    · exact gm_long [13] (by decide) (by decide) (fun sz ad => (c_M_counted_at l D t sz (ad (7, 0, 0)) (ad (7, 1, 0)) (ad (7, 2, 0)) (ad (7, 3, 0)) (ad (7, 4, 0)) (ad (7, 5, 0)) (ad (7, 6, 0)) (ad (7, 8, 0)) (ad (7, 9, 0)) (ad (7, 10, 0)) (ad (7, 11, 0)) (ad (7, 12, 0)) (ad (7, 13, 0)) (ad (7, 14, 0)) (ad (7, 15, 0)) (ad (7, 16, 0)) (ad (7, 17, 0)) (ad (7, 18, 0)) (ad (7, 19, 0)) (ad (7, 20, 0)) (ad (7, 21, 0)) (ad (7, 22, 0)) (ad (7, 23, 0)) nr nn (S 13) j hj h30))

set_option maxHeartbeats 4000000 in
set_option maxRecDepth 100000 in
theorem b_failed (l : Launch) (D : va_G) (t : Nat → ClassId) (base x0 m0 : Nat) (Z : St) (hv : Inv Z) (k : Int32)  : bothI l D t base x0 m0 yX4_failed wsX4_failed ({ frames := 1, cells := 0, slots := 0, locals := 21 } : Room) 0 0 yX5_failed wsX5_failed ({ frames := 1, cells := 0, slots := 0, locals := 21 } : Room) [.int k] Z := by
  obtain ⟨nr, nn, S, T⟩ := Z
  obtain ⟨⟨h10, h30⟩, hR, hR0, hU, hU0⟩ := id hv
  simp only at h10 h30 hR hR0 hU hU0
  rcases y_ix k (n := nn) (by omega) with hk | ⟨j, hj, rfl⟩
  · refine ⟨(-1), (nr, nn, S, T), hv, ?_, ?_⟩
    · exact gr_int fun sz ad G hx hm => by
        subst hx
        exact ⟨[((0, 0, 0), .inr (4, [.ref (ad (0, 1, 0)), .ref (ad (0, 2, 0)), .int (nI nr), .int (nI nn)]))], (all1 e_0), by simp, (c_CR_failed_no l D t sz (ad (0, 0, 0)) (ad (0, 1, 0)) (ad (0, 2, 0)) nr nn k hk)⟩
    · exact gm_int (nr, nn, S, T) [] (by decide) (by decide) (fun _ _ => rfl) (fun _ _ => rfl) (fun sz ad => (c_M_failed_no l D t sz (ad (7, 0, 0)) (ad (7, 1, 0)) (ad (7, 2, 0)) (ad (7, 3, 0)) (ad (7, 4, 0)) (ad (7, 5, 0)) (ad (7, 6, 0)) (ad (7, 8, 0)) (ad (7, 9, 0)) (ad (7, 10, 0)) (ad (7, 11, 0)) (ad (7, 12, 0)) (ad (7, 13, 0)) (ad (7, 14, 0)) (ad (7, 15, 0)) (ad (7, 16, 0)) (ad (7, 17, 0)) (ad (7, 18, 0)) (ad (7, 19, 0)) (ad (7, 20, 0)) (ad (7, 21, 0)) (ad (7, 22, 0)) (ad (7, 23, 0)) nr nn k hk))
  · obtain ⟨⟨hr, hof, hbeg, hat, hal⟩, ⟨hst5, hw17, hp18, hp19, hp20⟩, hfz, hC⟩ := hU j hj
    obtain ⟨hle, hl12, hb01, hsteps⟩ := hR _ hr
    have ha12 : atN S j < 12 := by omega
    have hgb := hbeg
    refine ⟨fS (S 21) (12 * j), (nr, nn, S, T), hv, ?_, ?_⟩
    · exact gr_int fun sz ad G hx hm => by
        subst hx
        exact ⟨[((0, 0, 0), .inr (4, [.ref (ad (0, 1, 0)), .ref (ad (0, 2, 0)), .int (nI nr), .int (nI nn)])), ((0, 2, 0), .inl (t 4, 30, .inr (.inr (.inr (.inr ((rfU ad nn))))))), ((4, j, 0), .inr (1, [.ref (ad (1, (ofN S j), 0)), .int (S 9 j), .ref (ad (5, j, 0)), .ref (ad (6, j, (atN S j))), .int (nI (atN S j + 1)), .int (S 10 j), .int (S 12 j), .int (fS (S 21) (12 * j)), .int (if S 17 j ≤ 0 then 0 else 1), .double (T 16 j), .int (S 17 j), .double (T 18 j), .double (T 19 j), .double (T 20 j)]))], (allc e_0 (allc e_02 (all1 (e_4 hj rfl)))), by simp, (c_CR_failed_at l D t sz (ad (0, 0, 0)) (ad (0, 1, 0)) (ad (0, 2, 0)) nr nn j (ad (4, j, 0)) (rfU ad nn) (ad (1, (ofN S j), 0)) (ad (5, j, 0)) (ad (6, j, (atN S j))) (S 9 j) (nI (atN S j + 1)) (S 10 j) (S 12 j) (fS (S 21) (12 * j)) (if S 17 j ≤ 0 then 0 else 1) (S 17 j) (T 16 j) (T 18 j) (T 19 j) (T 20 j) hj h30 (by simp [rfU, hj]))⟩
    · exact gm_int (nr, nn, S, T) [21] (by decide) (by decide) (fun _ _ => rfl) (fun _ _ => rfl) (fun sz ad => (c_M_failed_at l D t sz (ad (7, 0, 0)) (ad (7, 1, 0)) (ad (7, 2, 0)) (ad (7, 3, 0)) (ad (7, 4, 0)) (ad (7, 5, 0)) (ad (7, 6, 0)) (ad (7, 8, 0)) (ad (7, 9, 0)) (ad (7, 10, 0)) (ad (7, 11, 0)) (ad (7, 12, 0)) (ad (7, 13, 0)) (ad (7, 14, 0)) (ad (7, 15, 0)) (ad (7, 16, 0)) (ad (7, 17, 0)) (ad (7, 18, 0)) (ad (7, 19, 0)) (ad (7, 20, 0)) (ad (7, 21, 0)) (ad (7, 22, 0)) (ad (7, 23, 0)) nr nn (S 21) j hj h30))

set_option maxHeartbeats 4000000 in
set_option maxRecDepth 100000 in
theorem b_level (l : Launch) (D : va_G) (t : Nat → ClassId) (base x0 m0 : Nat) (Z : St) (hv : Inv Z) (k : Int32)  : bothI l D t base x0 m0 yX4_level wsX4_level ({ frames := 1, cells := 0, slots := 0, locals := 21 } : Room) 0 0 yX5_level wsX5_level ({ frames := 1, cells := 0, slots := 0, locals := 21 } : Room) [.int k] Z := by
  obtain ⟨nr, nn, S, T⟩ := Z
  obtain ⟨⟨h10, h30⟩, hR, hR0, hU, hU0⟩ := id hv
  simp only at h10 h30 hR hR0 hU hU0
  rcases y_ix k (n := nn) (by omega) with hk | ⟨j, hj, rfl⟩
  · refine ⟨(-1), (nr, nn, S, T), hv, ?_, ?_⟩
    · exact gr_int fun sz ad G hx hm => by
        subst hx
        exact ⟨[((0, 0, 0), .inr (4, [.ref (ad (0, 1, 0)), .ref (ad (0, 2, 0)), .int (nI nr), .int (nI nn)]))], (all1 e_0), by simp, (c_CR_level_no l D t sz (ad (0, 0, 0)) (ad (0, 1, 0)) (ad (0, 2, 0)) nr nn k hk)⟩
    · exact gm_int (nr, nn, S, T) [] (by decide) (by decide) (fun _ _ => rfl) (fun _ _ => rfl) (fun sz ad => (c_M_level_no l D t sz (ad (7, 0, 0)) (ad (7, 1, 0)) (ad (7, 2, 0)) (ad (7, 3, 0)) (ad (7, 4, 0)) (ad (7, 5, 0)) (ad (7, 6, 0)) (ad (7, 8, 0)) (ad (7, 9, 0)) (ad (7, 10, 0)) (ad (7, 11, 0)) (ad (7, 12, 0)) (ad (7, 13, 0)) (ad (7, 14, 0)) (ad (7, 15, 0)) (ad (7, 16, 0)) (ad (7, 17, 0)) (ad (7, 18, 0)) (ad (7, 19, 0)) (ad (7, 20, 0)) (ad (7, 21, 0)) (ad (7, 22, 0)) (ad (7, 23, 0)) nr nn k hk))
  · obtain ⟨⟨hr, hof, hbeg, hat, hal⟩, ⟨hst5, hw17, hp18, hp19, hp20⟩, hfz, hC⟩ := hU j hj
    obtain ⟨hle, hl12, hb01, hsteps⟩ := hR _ hr
    have ha12 : atN S j < 12 := by omega
    have hgb := hbeg
    refine ⟨(if S 10 j = 3 then S 9 j else 0), (nr, nn, S, T), hv, ?_, ?_⟩
    · exact gr_int fun sz ad G hx hm => by
        subst hx
        exact ⟨[((0, 0, 0), .inr (4, [.ref (ad (0, 1, 0)), .ref (ad (0, 2, 0)), .int (nI nr), .int (nI nn)])), ((0, 2, 0), .inl (t 4, 30, .inr (.inr (.inr (.inr ((rfU ad nn))))))), ((4, j, 0), .inr (1, [.ref (ad (1, (ofN S j), 0)), .int (S 9 j), .ref (ad (5, j, 0)), .ref (ad (6, j, (atN S j))), .int (nI (atN S j + 1)), .int (S 10 j), .int (S 12 j), .int (fS (S 21) (12 * j)), .int (if S 17 j ≤ 0 then 0 else 1), .double (T 16 j), .int (S 17 j), .double (T 18 j), .double (T 19 j), .double (T 20 j)]))], (allc e_0 (allc e_02 (all1 (e_4 hj rfl)))), by simp, (c_CR_level_at l D t sz (ad (0, 0, 0)) (ad (0, 1, 0)) (ad (0, 2, 0)) nr nn j (ad (4, j, 0)) (rfU ad nn) (ad (1, (ofN S j), 0)) (ad (5, j, 0)) (ad (6, j, (atN S j))) (S 9 j) (nI (atN S j + 1)) (S 10 j) (S 12 j) (fS (S 21) (12 * j)) (if S 17 j ≤ 0 then 0 else 1) (S 17 j) (T 16 j) (T 18 j) (T 19 j) (T 20 j) hj h30 (by simp [rfU, hj]))⟩
    · exact gm_int (nr, nn, S, T) [9, 10] (by decide) (by decide) (fun _ _ => rfl) (fun _ _ => rfl) (fun sz ad => (c_M_level_at l D t sz (ad (7, 0, 0)) (ad (7, 1, 0)) (ad (7, 2, 0)) (ad (7, 3, 0)) (ad (7, 4, 0)) (ad (7, 5, 0)) (ad (7, 6, 0)) (ad (7, 8, 0)) (ad (7, 9, 0)) (ad (7, 10, 0)) (ad (7, 11, 0)) (ad (7, 12, 0)) (ad (7, 13, 0)) (ad (7, 14, 0)) (ad (7, 15, 0)) (ad (7, 16, 0)) (ad (7, 17, 0)) (ad (7, 18, 0)) (ad (7, 19, 0)) (ad (7, 20, 0)) (ad (7, 21, 0)) (ad (7, 22, 0)) (ad (7, 23, 0)) nr nn (S 9) (S 10) j hj h30))

set_option maxHeartbeats 4000000 in
set_option maxRecDepth 100000 in
theorem b_cleaner (l : Launch) (D : va_G) (t : Nat → ClassId) (base x0 m0 : Nat) (Z : St) (hv : Inv Z) (k : Int32) (w : Int32) : bothD l D t base x0 m0 yX4_cleaner wsX4_cleaner ({ frames := 1, cells := 0, slots := 0, locals := 21 } : Room) yX5_cleaner wsX5_cleaner ({ frames := 1, cells := 0, slots := 0, locals := 21 } : Room) [.int k, .int w] Z := by
  obtain ⟨nr, nn, S, T⟩ := Z
  obtain ⟨⟨h10, h30⟩, hR, hR0, hU, hU0⟩ := id hv
  simp only at h10 h30 hR hR0 hU hU0
  rcases y_ix k (n := nn) (by omega) with hk | ⟨j, hj, rfl⟩
  · refine ⟨13830554455654793216, ?_, ?_⟩
    · exact gr_dbl (post := fun x _ => x = 13830554455654793216) (fun x u hpo => by rw [hpo]; exact y_al_refl _) fun sz ad G hx hm => by
        subst hx
        exact ⟨[((0, 0, 0), .inr (4, [.ref (ad (0, 1, 0)), .ref (ad (0, 2, 0)), .int (nI nr), .int (nI nn)]))], (all1 e_0), by simp, (c_CR_cleaner_no l D t sz (ad (0, 0, 0)) (ad (0, 1, 0)) (ad (0, 2, 0)) nr nn k w hk)⟩
    · exact gm_dbl (fun x u hpo => by rw [hpo]; exact y_al_refl _) [] (by decide) (by decide) (fun sz ad => (c_M_cleaner_no l D t sz (ad (7, 0, 0)) (ad (7, 1, 0)) (ad (7, 2, 0)) (ad (7, 3, 0)) (ad (7, 4, 0)) (ad (7, 5, 0)) (ad (7, 6, 0)) (ad (7, 8, 0)) (ad (7, 9, 0)) (ad (7, 10, 0)) (ad (7, 11, 0)) (ad (7, 12, 0)) (ad (7, 13, 0)) (ad (7, 14, 0)) (ad (7, 15, 0)) (ad (7, 16, 0)) (ad (7, 17, 0)) (ad (7, 18, 0)) (ad (7, 19, 0)) (ad (7, 20, 0)) (ad (7, 21, 0)) (ad (7, 22, 0)) (ad (7, 23, 0)) nr nn k w hk))
  · obtain ⟨⟨hr, hof, hbeg, hat, hal⟩, ⟨hst5, hw17, hp18, hp19, hp20⟩, hfz, hC⟩ := hU j hj
    obtain ⟨hle, hl12, hb01, hsteps⟩ := hR _ hr
    have ha12 : atN S j < 12 := by omega
    have hgb := hbeg
    refine ⟨fU w (T 18 j) (T 19 j) (T 20 j), ?_, ?_⟩
    · exact gr_dbl (fun x u hpo => hpo) fun sz ad G hx hm => by
        subst hx
        exact ⟨[((0, 0, 0), .inr (4, [.ref (ad (0, 1, 0)), .ref (ad (0, 2, 0)), .int (nI nr), .int (nI nn)])), ((0, 2, 0), .inl (t 4, 30, .inr (.inr (.inr (.inr ((rfU ad nn))))))), ((4, j, 0), .inr (1, [.ref (ad (1, (ofN S j), 0)), .int (S 9 j), .ref (ad (5, j, 0)), .ref (ad (6, j, (atN S j))), .int (nI (atN S j + 1)), .int (S 10 j), .int (S 12 j), .int (fS (S 21) (12 * j)), .int (if S 17 j ≤ 0 then 0 else 1), .double (T 16 j), .int (S 17 j), .double (T 18 j), .double (T 19 j), .double (T 20 j)]))], (allc e_0 (allc e_02 (all1 (e_4 hj rfl)))), by simp, (c_CR_cleaner_at l D t sz (ad (0, 0, 0)) (ad (0, 1, 0)) (ad (0, 2, 0)) nr nn j (ad (4, j, 0)) (rfU ad nn) (ad (1, (ofN S j), 0)) (ad (5, j, 0)) (ad (6, j, (atN S j))) (S 9 j) (nI (atN S j + 1)) (S 10 j) (S 12 j) (fS (S 21) (12 * j)) (if S 17 j ≤ 0 then 0 else 1) (S 17 j) (T 16 j) (T 18 j) (T 19 j) (T 20 j) w hj h30 (by simp [rfU, hj]))⟩
    · exact gm_dbl (fun x u hpo => hpo) [18, 19, 20] (by decide) (by decide) (fun sz ad => (c_M_cleaner_at l D t sz (ad (7, 0, 0)) (ad (7, 1, 0)) (ad (7, 2, 0)) (ad (7, 3, 0)) (ad (7, 4, 0)) (ad (7, 5, 0)) (ad (7, 6, 0)) (ad (7, 8, 0)) (ad (7, 9, 0)) (ad (7, 10, 0)) (ad (7, 11, 0)) (ad (7, 12, 0)) (ad (7, 13, 0)) (ad (7, 14, 0)) (ad (7, 15, 0)) (ad (7, 16, 0)) (ad (7, 17, 0)) (ad (7, 18, 0)) (ad (7, 19, 0)) (ad (7, 20, 0)) (ad (7, 21, 0)) (ad (7, 22, 0)) (ad (7, 23, 0)) nr nn (T 18) (T 19) (T 20) j w hj h30))

set_option maxHeartbeats 4000000 in
set_option maxRecDepth 100000 in
theorem b_record (l : Launch) (D : va_G) (t : Nat → ClassId) (base x0 m0 : Nat) (Z : St) (hv : Inv Z) (k k2 w : Int32) : bothI l D t base x0 m0 yX4_record wsX4_record ({ frames := 1, cells := 0, slots := 0, locals := 21 } : Room) 0 0 yX5_record wsX5_record ({ frames := 1, cells := 0, slots := 0, locals := 21 } : Room) [.int k, .int k2, .int w] Z := by
  obtain ⟨nr, nn, S, T⟩ := Z
  obtain ⟨⟨h10, h30⟩, hR, hR0, hU, hU0⟩ := id hv
  simp only at h10 h30 hR hR0 hU hU0
  rcases y_ix k (n := nn) (by omega) with hk | ⟨j, hj, rfl⟩
  · refine ⟨(-1), (nr, nn, S, T), hv, ?_, ?_⟩
    · exact gr_int fun sz ad G hx hm => by
        subst hx
        exact ⟨[((0, 0, 0), .inr (4, [.ref (ad (0, 1, 0)), .ref (ad (0, 2, 0)), .int (nI nr), .int (nI nn)]))], (all1 e_0), by simp, (c_CR_record_no l D t sz (ad (0, 0, 0)) (ad (0, 1, 0)) (ad (0, 2, 0)) nr nn k k2 w hk)⟩
    · exact gm_int (nr, nn, S, T) [] (by decide) (by decide) (fun _ _ => rfl) (fun _ _ => rfl) (fun sz ad => (c_M_record_no l D t sz (ad (7, 0, 0)) (ad (7, 1, 0)) (ad (7, 2, 0)) (ad (7, 3, 0)) (ad (7, 4, 0)) (ad (7, 5, 0)) (ad (7, 6, 0)) (ad (7, 8, 0)) (ad (7, 9, 0)) (ad (7, 10, 0)) (ad (7, 11, 0)) (ad (7, 12, 0)) (ad (7, 13, 0)) (ad (7, 14, 0)) (ad (7, 15, 0)) (ad (7, 16, 0)) (ad (7, 17, 0)) (ad (7, 18, 0)) (ad (7, 19, 0)) (ad (7, 20, 0)) (ad (7, 21, 0)) (ad (7, 22, 0)) (ad (7, 23, 0)) nr nn k k2 w hk))
  · obtain ⟨⟨hr, hof, hbeg, hat, hal⟩, ⟨hst5, hw17, hp18, hp19, hp20⟩, hfz, hC⟩ := hU j hj
    obtain ⟨hle, hl12, hb01, hsteps⟩ := hR _ hr
    have ha12 : atN S j < 12 := by omega
    have hgb := hbeg
    rcases y_ix k2 (n := atN S j + 1) (by omega) with hk2 | ⟨kk, hkk, rfl⟩
    · refine ⟨(-1), (nr, nn, S, T), hv, ?_, ?_⟩
      · exact gr_int fun sz ad G hx hm => by
          subst hx
          exact ⟨[((0, 0, 0), .inr (4, [.ref (ad (0, 1, 0)), .ref (ad (0, 2, 0)), .int (nI nr), .int (nI nn)])), ((0, 2, 0), .inl (t 4, 30, .inr (.inr (.inr (.inr ((rfU ad nn))))))), ((4, j, 0), .inr (1, [.ref (ad (1, (ofN S j), 0)), .int (S 9 j), .ref (ad (5, j, 0)), .ref (ad (6, j, (atN S j))), .int (nI (atN S j + 1)), .int (S 10 j), .int (S 12 j), .int (fS (S 21) (12 * j)), .int (if S 17 j ≤ 0 then 0 else 1), .double (T 16 j), .int (S 17 j), .double (T 18 j), .double (T 19 j), .double (T 20 j)]))], (allc e_0 (allc e_02 (all1 (e_4 hj rfl)))), by simp, (c_CR_record_none l D t sz (ad (0, 0, 0)) (ad (0, 1, 0)) (ad (0, 2, 0)) nr nn j (ad (4, j, 0)) (rfU ad nn) (ad (1, (ofN S j), 0)) (ad (5, j, 0)) (ad (6, j, (atN S j))) (atN S j + 1) (S 9 j) (S 10 j) (S 12 j) (fS (S 21) (12 * j)) (if S 17 j ≤ 0 then 0 else 1) (S 17 j) (T 16 j) (T 18 j) (T 19 j) (T 20 j) k2 w hj h30 (by simp [rfU, hj]) hk2)⟩
      · exact gm_int (nr, nn, S, T) [11] (by decide) (by decide) (fun _ _ => rfl) (fun _ _ => rfl) (fun sz ad => (c_M_record_none l D t sz (ad (7, 0, 0)) (ad (7, 1, 0)) (ad (7, 2, 0)) (ad (7, 3, 0)) (ad (7, 4, 0)) (ad (7, 5, 0)) (ad (7, 6, 0)) (ad (7, 8, 0)) (ad (7, 9, 0)) (ad (7, 10, 0)) (ad (7, 11, 0)) (ad (7, 12, 0)) (ad (7, 13, 0)) (ad (7, 14, 0)) (ad (7, 15, 0)) (ad (7, 16, 0)) (ad (7, 17, 0)) (ad (7, 18, 0)) (ad (7, 19, 0)) (ad (7, 20, 0)) (ad (7, 21, 0)) (ad (7, 22, 0)) (ad (7, 23, 0)) nr nn (S 11) j k2 w hj h30 (hk2.imp id (fun h9 => by rw [hat]; rw [← nI_1] at h9; exact fun h8 => absurd (Int32.le_trans h9 h8) (by rw [nI_1]; exact nI_ge (Nat.lt_succ_self _) (by omega))))))
    · refine ⟨(fT (S 3 (12 * (ofN S j) + kk)) (S 21 (12 * j + kk)) (S 22 (12 * j + kk)) (S 23 (12 * j + kk)) w), (nr, nn, S, T), hv, ?_, ?_⟩
      · exact gr_int fun sz ad G hx hm => by
          subst hx
          exact ⟨[((0, 0, 0), .inr (4, [.ref (ad (0, 1, 0)), .ref (ad (0, 2, 0)), .int (nI nr), .int (nI nn)])), ((0, 2, 0), .inl (t 4, 30, .inr (.inr (.inr (.inr ((rfU ad nn))))))), ((4, j, 0), .inr (1, [.ref (ad (1, (ofN S j), 0)), .int (S 9 j), .ref (ad (5, j, 0)), .ref (ad (6, j, (atN S j))), .int (nI (atN S j + 1)), .int (S 10 j), .int (S 12 j), .int (fS (S 21) (12 * j)), .int (if S 17 j ≤ 0 then 0 else 1), .double (T 16 j), .int (S 17 j), .double (T 18 j), .double (T 19 j), .double (T 20 j)])), ((5, j, 0), .inl (t 5, 12, .inr (.inr (.inr (.inr ((rfY ad j (atN S j + 1)))))))), ((6, j, kk), .inr (2, [.ref (ad (3, (ofN S j), kk)), .int (S 22 (12 * j + kk)), .int (S 23 (12 * j + kk)), .int (gG S G 15 0 j kk), .int (gG S G 13 1 j kk), .int (gG S G 14 2 j kk), .int (S 21 (12 * j + kk))])), ((3, (ofN S j), kk), .inr (3, [.int (S 3 (12 * (ofN S j) + kk)), .int (S 4 (12 * (ofN S j) + kk)), .double (T 5 (12 * (ofN S j) + kk)), .double (T 6 (12 * (ofN S j) + kk))]))], (allc e_0 (allc e_02 (allc (e_4 hj rfl) (allc (e_5 hj) (allc (e_6 hj (by omega)) (all1 (e_3 hr (by omega)))))))), by simp, (c_CR_record_at l D t sz (ad (0, 0, 0)) (ad (0, 1, 0)) (ad (0, 2, 0)) nr nn j (ad (4, j, 0)) (rfU ad nn) (ad (1, (ofN S j), 0)) (ad (5, j, 0)) (ad (6, j, (atN S j))) (atN S j + 1) kk (ad (6, j, kk)) (ad (3, (ofN S j), kk)) (S 9 j) (S 10 j) (S 12 j) (fS (S 21) (12 * j)) (if S 17 j ≤ 0 then 0 else 1) (S 17 j) (T 16 j) (T 18 j) (T 19 j) (T 20 j) (rfY ad j (atN S j + 1)) (S 22 (12 * j + kk)) (S 23 (12 * j + kk)) (gG S G 15 0 j kk) (gG S G 13 1 j kk) (gG S G 14 2 j kk) (S 21 (12 * j + kk)) (S 3 (12 * (ofN S j) + kk)) (S 4 (12 * (ofN S j) + kk)) (T 5 (12 * (ofN S j) + kk)) (T 6 (12 * (ofN S j) + kk)) w hj h30 (by simp [rfU, hj]) hkk (by omega) (by simp [rfY, hkk]))⟩
      · exact gm_int (nr, nn, S, T) [3, 8, 11, 21, 22, 23] (by decide) (by decide) (fun _ _ => rfl) (fun _ _ => rfl) (fun sz ad => (c_M_record_at l D t sz (ad (7, 0, 0)) (ad (7, 1, 0)) (ad (7, 2, 0)) (ad (7, 3, 0)) (ad (7, 4, 0)) (ad (7, 5, 0)) (ad (7, 6, 0)) (ad (7, 8, 0)) (ad (7, 9, 0)) (ad (7, 10, 0)) (ad (7, 11, 0)) (ad (7, 12, 0)) (ad (7, 13, 0)) (ad (7, 14, 0)) (ad (7, 15, 0)) (ad (7, 16, 0)) (ad (7, 17, 0)) (ad (7, 18, 0)) (ad (7, 19, 0)) (ad (7, 20, 0)) (ad (7, 21, 0)) (ad (7, 22, 0)) (ad (7, 23, 0)) nr nn (S 3) (S 8) (S 11) (S 21) (S 22) (S 23) j (ofN S j) (atN S j) kk w hj h30 hof hat (by omega) (by omega) (by omega)))

set_option maxHeartbeats 4000000 in
set_option maxRecDepth 100000 in
theorem b_states (l : Launch) (D : va_G) (t : Nat → ClassId) (base x0 m0 : Nat) (Z : St) (hv : Inv Z)  : bothI l D t base x0 m0 yX4_states wsX4_states ({ frames := 0, cells := 0, slots := 0, locals := 0 } : Room) 0 0 yX5_states wsX5_states ({ frames := 0, cells := 0, slots := 0, locals := 0 } : Room) [] Z := by
  obtain ⟨nr, nn, S, T⟩ := Z
  obtain ⟨⟨h10, h30⟩, hR, hR0, hU, hU0⟩ := id hv
  simp only at h10 h30 hR hR0 hU hU0
  refine ⟨5, (nr, nn, S, T), hv, ?_, ?_⟩
  · exact gr_int fun sz ad G hx hm => by
        subst hx
        exact ⟨[((0, 0, 0), .inr (4, [.ref (ad (0, 1, 0)), .ref (ad (0, 2, 0)), .int (nI nr), .int (nI nn)]))], (all1 e_0), by simp, (c_CR_states l D t sz (ad (0, 0, 0)) (ad (0, 1, 0)) (ad (0, 2, 0)) nr nn )⟩
  · exact gm_int (nr, nn, S, T) [] (by decide) (by decide) (fun _ _ => rfl) (fun _ _ => rfl) (fun sz ad => (c_M_states l D t sz (ad (7, 0, 0)) (ad (7, 1, 0)) (ad (7, 2, 0)) (ad (7, 3, 0)) (ad (7, 4, 0)) (ad (7, 5, 0)) (ad (7, 6, 0)) (ad (7, 8, 0)) (ad (7, 9, 0)) (ad (7, 10, 0)) (ad (7, 11, 0)) (ad (7, 12, 0)) (ad (7, 13, 0)) (ad (7, 14, 0)) (ad (7, 15, 0)) (ad (7, 16, 0)) (ad (7, 17, 0)) (ad (7, 18, 0)) (ad (7, 19, 0)) (ad (7, 20, 0)) (ad (7, 21, 0)) (ad (7, 22, 0)) (ad (7, 23, 0)) nr nn ))
