/-- a world out of a list of its cells -/
theorem gw_list {D : va_G} {A : Nat → Prop} {ad : GK → Nat} {E : GK → Option va_E} {H : Heap} (w : List (GK × Nat × va_E)) (hP : va_P D vwCl (gN w) H) (hD : va_D A (gN w)) (h1 : ∀ x ∈ w, E x.1 = some x.2.2 ∧ ad x.1 = x.2.1) (h2 : ∀ k e, E k = some e → ∃ x ∈ w, x.1 = k) : gW D A ad E H := by
  have cs : ∀ k e, E k = some e → ∃ (i : Nat) (x : GK × Nat × va_E), w[i]? = some x ∧ (gN w)[i]? = some x.2 ∧ x.1 = k ∧ x.2.1 = ad k ∧ x.2.2 = e := by
    intro k e hk
    obtain ⟨x, hx, rfl⟩ := h2 k e hk
    obtain ⟨g1, g2⟩ := h1 x hx
    obtain ⟨i, hi⟩ := List.getElem?_of_mem hx
    rw [g1] at hk
    exact ⟨i, x, hi, by rw [List.getElem?_map, hi]; rfl, rfl, g2.symm, Option.some.inj hk⟩
  refine ⟨fun k e hk => ?_, fun k k' e e' hk hk' hkk => ?_⟩
  · obtain ⟨i, x, -, hi, rfl, ha, rfl⟩ := cs k e hk
    have g1 := hP i x.2 hi
    have g2 := hD.2 i x.2 hi
    rw [ha] at g2
    refine ⟨?_, g2⟩
    rw [← ha]
    exact g1
  · obtain ⟨i, x, hi0, hi, rfl, ha, -⟩ := cs k e hk
    obtain ⟨i2, x2, hi20, hi2, rfl, ha2, -⟩ := cs k' e' hk'
    have e1 := hD.1 i i2 x.2 x2.2 hi hi2 (by rw [ha, ha2]; exact hkk)
    subst e1
    rw [hi0] at hi20
    cases hi20
    rfl
set_option maxHeartbeats 4000000 in
set_option maxRecDepth 100000 in
theorem gH_init {D : va_G} {t : Nat → ClassId} {base : Nat} {H : Heap} {q0 qa qb q8 : Nat} {u : Nat → Nat} (hb : base ≤ H.size) (hP : va_P D vwCl [(q0, .inr (4, [.ref qa, .ref qb, .int 0, .int 0])), (qa, .inl (t 3, 10, .inr (.inr (.inr (.inr (fun _ => none)))))), (qb, .inl (t 4, 30, .inr (.inr (.inr (.inr (fun _ => none)))))), (q8, .inr (5, [.int 0, .ref (u 1), .ref (u 2), .ref (u 3), .ref (u 4), .ref (u 5), .ref (u 6), .int 0, .ref (u 8), .ref (u 9), .ref (u 10), .ref (u 11), .ref (u 12), .ref (u 13), .ref (u 14), .ref (u 15), .ref (u 16), .ref (u 17), .ref (u 18), .ref (u 19), .ref (u 20), .ref (u 21), .ref (u 22), .ref (u 23)])), ((u 1), .inl (t 0, 10, .inl (fun _ => 0))), ((u 2), .inl (t 1, 10, .inl (fun _ => 0))), ((u 3), .inl (t 0, 120, .inl (fun _ => 0))), ((u 4), .inl (t 0, 120, .inl (fun _ => 0))), ((u 5), .inl (t 2, 120, .inr (.inr (.inr (.inl (fun _ => 0)))))), ((u 6), .inl (t 2, 120, .inr (.inr (.inr (.inl (fun _ => 0)))))), ((u 8), .inl (t 0, 30, .inl (fun _ => 0))), ((u 9), .inl (t 0, 30, .inl (fun _ => 0))), ((u 10), .inl (t 0, 30, .inl (fun _ => 0))), ((u 11), .inl (t 0, 30, .inl (fun _ => 0))), ((u 12), .inl (t 0, 30, .inl (fun _ => 0))), ((u 13), .inl (t 0, 30, .inl (fun _ => 0))), ((u 14), .inl (t 0, 30, .inl (fun _ => 0))), ((u 15), .inl (t 0, 30, .inl (fun _ => 0))), ((u 16), .inl (t 2, 30, .inr (.inr (.inr (.inl (fun _ => 0)))))), ((u 17), .inl (t 0, 30, .inl (fun _ => 0))), ((u 18), .inl (t 2, 30, .inr (.inr (.inr (.inl (fun _ => 0)))))), ((u 19), .inl (t 2, 30, .inr (.inr (.inr (.inl (fun _ => 0)))))), ((u 20), .inl (t 2, 30, .inr (.inr (.inr (.inl (fun _ => 0)))))), ((u 21), .inl (t 0, 360, .inl (fun _ => 0))), ((u 22), .inl (t 0, 360, .inl (fun _ => 0))), ((u 23), .inl (t 0, 360, .inl (fun _ => 0)))] H) (hD : va_D (fun q => base ≤ q) [(q0, .inr (4, [.ref qa, .ref qb, .int 0, .int 0])), (qa, .inl (t 3, 10, .inr (.inr (.inr (.inr (fun _ => none)))))), (qb, .inl (t 4, 30, .inr (.inr (.inr (.inr (fun _ => none)))))), (q8, .inr (5, [.int 0, .ref (u 1), .ref (u 2), .ref (u 3), .ref (u 4), .ref (u 5), .ref (u 6), .int 0, .ref (u 8), .ref (u 9), .ref (u 10), .ref (u 11), .ref (u 12), .ref (u 13), .ref (u 14), .ref (u 15), .ref (u 16), .ref (u 17), .ref (u 18), .ref (u 19), .ref (u 20), .ref (u 21), .ref (u 22), .ref (u 23)])), ((u 1), .inl (t 0, 10, .inl (fun _ => 0))), ((u 2), .inl (t 1, 10, .inl (fun _ => 0))), ((u 3), .inl (t 0, 120, .inl (fun _ => 0))), ((u 4), .inl (t 0, 120, .inl (fun _ => 0))), ((u 5), .inl (t 2, 120, .inr (.inr (.inr (.inl (fun _ => 0)))))), ((u 6), .inl (t 2, 120, .inr (.inr (.inr (.inl (fun _ => 0)))))), ((u 8), .inl (t 0, 30, .inl (fun _ => 0))), ((u 9), .inl (t 0, 30, .inl (fun _ => 0))), ((u 10), .inl (t 0, 30, .inl (fun _ => 0))), ((u 11), .inl (t 0, 30, .inl (fun _ => 0))), ((u 12), .inl (t 0, 30, .inl (fun _ => 0))), ((u 13), .inl (t 0, 30, .inl (fun _ => 0))), ((u 14), .inl (t 0, 30, .inl (fun _ => 0))), ((u 15), .inl (t 0, 30, .inl (fun _ => 0))), ((u 16), .inl (t 2, 30, .inr (.inr (.inr (.inl (fun _ => 0)))))), ((u 17), .inl (t 0, 30, .inl (fun _ => 0))), ((u 18), .inl (t 2, 30, .inr (.inr (.inr (.inl (fun _ => 0)))))), ((u 19), .inl (t 2, 30, .inr (.inr (.inr (.inl (fun _ => 0)))))), ((u 20), .inl (t 2, 30, .inr (.inr (.inr (.inl (fun _ => 0)))))), ((u 21), .inl (t 0, 360, .inl (fun _ => 0))), ((u 22), .inl (t 0, 360, .inl (fun _ => 0))), ((u 23), .inl (t 0, 360, .inl (fun _ => 0)))]) : gH D t base q0 q8 Z0 Z0 H := by
  refine ⟨(fun k : GK => if k.1 = 7 then (if k.2.1 = 0 then q8 else u k.2.1) else (if k.2.1 = 0 then q0 else if k.2.1 = 1 then qa else qb)), (fun _ _ _ => (0 : Int32)), rfl, rfl, hb, gw_list [((0, 0, 0), q0, .inr (4, [.ref qa, .ref qb, .int 0, .int 0])), ((0, 1, 0), qa, .inl (t 3, 10, .inr (.inr (.inr (.inr (fun _ => none)))))), ((0, 2, 0), qb, .inl (t 4, 30, .inr (.inr (.inr (.inr (fun _ => none)))))), ((7, 0, 0), q8, .inr (5, [.int 0, .ref (u 1), .ref (u 2), .ref (u 3), .ref (u 4), .ref (u 5), .ref (u 6), .int 0, .ref (u 8), .ref (u 9), .ref (u 10), .ref (u 11), .ref (u 12), .ref (u 13), .ref (u 14), .ref (u 15), .ref (u 16), .ref (u 17), .ref (u 18), .ref (u 19), .ref (u 20), .ref (u 21), .ref (u 22), .ref (u 23)])), ((7, 1, 0), (u 1), .inl (t 0, 10, .inl (fun _ => 0))), ((7, 2, 0), (u 2), .inl (t 1, 10, .inl (fun _ => 0))), ((7, 3, 0), (u 3), .inl (t 0, 120, .inl (fun _ => 0))), ((7, 4, 0), (u 4), .inl (t 0, 120, .inl (fun _ => 0))), ((7, 5, 0), (u 5), .inl (t 2, 120, .inr (.inr (.inr (.inl (fun _ => 0)))))), ((7, 6, 0), (u 6), .inl (t 2, 120, .inr (.inr (.inr (.inl (fun _ => 0)))))), ((7, 8, 0), (u 8), .inl (t 0, 30, .inl (fun _ => 0))), ((7, 9, 0), (u 9), .inl (t 0, 30, .inl (fun _ => 0))), ((7, 10, 0), (u 10), .inl (t 0, 30, .inl (fun _ => 0))), ((7, 11, 0), (u 11), .inl (t 0, 30, .inl (fun _ => 0))), ((7, 12, 0), (u 12), .inl (t 0, 30, .inl (fun _ => 0))), ((7, 13, 0), (u 13), .inl (t 0, 30, .inl (fun _ => 0))), ((7, 14, 0), (u 14), .inl (t 0, 30, .inl (fun _ => 0))), ((7, 15, 0), (u 15), .inl (t 0, 30, .inl (fun _ => 0))), ((7, 16, 0), (u 16), .inl (t 2, 30, .inr (.inr (.inr (.inl (fun _ => 0)))))), ((7, 17, 0), (u 17), .inl (t 0, 30, .inl (fun _ => 0))), ((7, 18, 0), (u 18), .inl (t 2, 30, .inr (.inr (.inr (.inl (fun _ => 0)))))), ((7, 19, 0), (u 19), .inl (t 2, 30, .inr (.inr (.inr (.inl (fun _ => 0)))))), ((7, 20, 0), (u 20), .inl (t 2, 30, .inr (.inr (.inr (.inl (fun _ => 0)))))), ((7, 21, 0), (u 21), .inl (t 0, 360, .inl (fun _ => 0))), ((7, 22, 0), (u 22), .inl (t 0, 360, .inl (fun _ => 0))), ((7, 23, 0), (u 23), .inl (t 0, 360, .inl (fun _ => 0)))] hP hD ?_ ?_⟩
  · have eR : rfR (fun k : GK => if k.1 = 7 then (if k.2.1 = 0 then q8 else u k.2.1) else (if k.2.1 = 0 then q0 else if k.2.1 = 1 then qa else qb)) 0 = fun _ => none := by funext r; show (if r < 0 then _ else none) = none; rw [if_neg (Nat.not_lt_zero _)]
    have eU : rfU (fun k : GK => if k.1 = 7 then (if k.2.1 = 0 then q8 else u k.2.1) else (if k.2.1 = 0 then q0 else if k.2.1 = 1 then qa else qb)) 0 = fun _ => none := by funext r; show (if r < 0 then _ else none) = none; rw [if_neg (Nat.not_lt_zero _)]
    exact (allc ⟨rfl, rfl⟩ (allc ⟨e_01.trans (by rw [eR]), rfl⟩ (allc ⟨e_02.trans (by rw [eU]), rfl⟩ (allc ⟨rfl, rfl⟩ (allc ⟨rfl, rfl⟩ (allc ⟨rfl, rfl⟩ (allc ⟨rfl, rfl⟩ (allc ⟨rfl, rfl⟩ (allc ⟨rfl, rfl⟩ (allc ⟨rfl, rfl⟩ (allc ⟨rfl, rfl⟩ (allc ⟨rfl, rfl⟩ (allc ⟨rfl, rfl⟩ (allc ⟨rfl, rfl⟩ (allc ⟨rfl, rfl⟩ (allc ⟨rfl, rfl⟩ (allc ⟨rfl, rfl⟩ (allc ⟨rfl, rfl⟩ (allc ⟨rfl, rfl⟩ (allc ⟨rfl, rfl⟩ (allc ⟨rfl, rfl⟩ (allc ⟨rfl, rfl⟩ (allc ⟨rfl, rfl⟩ (allc ⟨rfl, rfl⟩ (allc ⟨rfl, rfl⟩ (all1 ⟨rfl, rfl⟩))))))))))))))))))))))))))
  · rintro ⟨k1, k2, k3⟩ e hk
    unfold eA at hk
    by_cases c7 : k1 = 7
    · subst c7
      simp only [if_true] at hk
      unfold eM at hk
      simp only at hk
      by_cases c3 : k3 = 0
      · subst c3
        rw [if_pos rfl] at hk
        by_cases c2 : k2 = 0
        · subst c2
          exact ⟨_, List.mem_of_getElem? (i := 3) rfl, rfl⟩
        · rw [if_neg c2] at hk
          by_cases c24 : k2 < 24
          · rcases (show k2 = 1 ∨ k2 = 2 ∨ k2 = 3 ∨ k2 = 4 ∨ k2 = 5 ∨ k2 = 6 ∨ k2 = 7 ∨ k2 = 8 ∨ k2 = 9 ∨ k2 = 10 ∨ k2 = 11 ∨ k2 = 12 ∨ k2 = 13 ∨ k2 = 14 ∨ k2 = 15 ∨ k2 = 16 ∨ k2 = 17 ∨ k2 = 18 ∨ k2 = 19 ∨ k2 = 20 ∨ k2 = 21 ∨ k2 = 22 ∨ k2 = 23 by omega) with rfl | rfl | rfl | rfl | rfl | rfl | rfl | rfl | rfl | rfl | rfl | rfl | rfl | rfl | rfl | rfl | rfl | rfl | rfl | rfl | rfl | rfl | rfl
            · exact ⟨_, List.mem_of_getElem? (i := 4) rfl, rfl⟩
            · exact ⟨_, List.mem_of_getElem? (i := 5) rfl, rfl⟩
            · exact ⟨_, List.mem_of_getElem? (i := 6) rfl, rfl⟩
            · exact ⟨_, List.mem_of_getElem? (i := 7) rfl, rfl⟩
            · exact ⟨_, List.mem_of_getElem? (i := 8) rfl, rfl⟩
            · exact ⟨_, List.mem_of_getElem? (i := 9) rfl, rfl⟩
            · exact absurd hk (by rw [if_neg (by decide)]; exact fun h => by cases h)
            · exact ⟨_, List.mem_of_getElem? (i := 10) rfl, rfl⟩
            · exact ⟨_, List.mem_of_getElem? (i := 11) rfl, rfl⟩
            · exact ⟨_, List.mem_of_getElem? (i := 12) rfl, rfl⟩
            · exact ⟨_, List.mem_of_getElem? (i := 13) rfl, rfl⟩
            · exact ⟨_, List.mem_of_getElem? (i := 14) rfl, rfl⟩
            · exact ⟨_, List.mem_of_getElem? (i := 15) rfl, rfl⟩
            · exact ⟨_, List.mem_of_getElem? (i := 16) rfl, rfl⟩
            · exact ⟨_, List.mem_of_getElem? (i := 17) rfl, rfl⟩
            · exact ⟨_, List.mem_of_getElem? (i := 18) rfl, rfl⟩
            · exact ⟨_, List.mem_of_getElem? (i := 19) rfl, rfl⟩
            · exact ⟨_, List.mem_of_getElem? (i := 20) rfl, rfl⟩
            · exact ⟨_, List.mem_of_getElem? (i := 21) rfl, rfl⟩
            · exact ⟨_, List.mem_of_getElem? (i := 22) rfl, rfl⟩
            · exact ⟨_, List.mem_of_getElem? (i := 23) rfl, rfl⟩
            · exact ⟨_, List.mem_of_getElem? (i := 24) rfl, rfl⟩
            · exact ⟨_, List.mem_of_getElem? (i := 25) rfl, rfl⟩
          · have e0 : mTy.getD k2 (0, 0) = (0, 0) := by
              rw [List.getD_eq_getElem?_getD, List.getElem?_eq_none (show mTy.length ≤ k2 from Nat.not_lt.mp c24)]
              rfl
            rw [e0] at hk
            exact absurd hk (by rw [if_neg (by decide)]; exact fun h => by cases h)
      · rw [if_neg c3] at hk
        cases hk
    · simp only [c7, if_false] at hk
      unfold eI at hk
      simp only at hk
      by_cases c0 : k1 = 0
      · simp only [c0, if_true] at hk
        by_cases d0 : ((0, k2, k3) : GK) = (0, 0, 0)
        · exact ⟨_, List.mem_of_getElem? (i := 0) rfl, by rw [c0]; exact d0.symm⟩
        · rw [if_neg d0] at hk
          by_cases d1 : ((0, k2, k3) : GK) = (0, 1, 0)
          · exact ⟨_, List.mem_of_getElem? (i := 1) rfl, by rw [c0]; exact d1.symm⟩
          · rw [if_neg d1] at hk
            by_cases d2 : ((0, k2, k3) : GK) = (0, 2, 0)
            · exact ⟨_, List.mem_of_getElem? (i := 2) rfl, by rw [c0]; exact d2.symm⟩
            · rw [if_neg d2] at hk
              cases hk
      · simp only [c0, if_false, Nat.not_lt_zero, and_false, false_and] at hk
        simp at hk
