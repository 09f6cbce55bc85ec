set_option maxHeartbeats 4000000 in
set_option maxRecDepth 100000 in
theorem b_recipe (l : Launch) (D : va_G) (t : Nat → ClassId) (base x0 m0 : Nat) (Z : St) (hv : Inv Z)  : bothI l D t base x0 m0 yX4_recipe wsX4_recipe ({ frames := 2, cells := 2, slots := 15, locals := 32 } : Room) 2 15 yX5_recipe wsX5_recipe ({ frames := 0, cells := 0, slots := 0, locals := 0 } : Room) [] Z := by
  obtain ⟨nr, nn, S, T⟩ := Z
  obtain ⟨⟨h10, h30⟩, hR, hR0, hU, hU0⟩ := id hv
  simp only at h10 h30 hR hR0 hU hU0
  by_cases hfull : nr = 10
  · refine ⟨(-2), (nr, nn, S, T), hv, ?_, ?_⟩
    · exact gr_int fun sz ad G hx hm => by
        subst hx
        exact ⟨[((0, 0, 0), .inr (4, [.ref (ad (0, 1, 0)), .ref (ad (0, 2, 0)), .int (nI nr), .int (nI nn)])), ((0, 1, 0), .inl (t 3, 10, .inr (.inr (.inr (.inr ((rfR ad nr)))))))], (allc e_0 (all1 e_01)), by simp, (c_CR_recipe_full l D t sz (ad (0, 0, 0)) (ad (0, 1, 0)) (ad (0, 2, 0)) nr nn (rfR ad nr) (by omega) (by omega))⟩
    · exact gm_int (nr, nn, S, T) [] (by decide) (by decide) (fun _ _ => rfl) (fun _ _ => rfl) (fun sz ad => (c_M_recipe_full l D t sz (ad (7, 0, 0)) (ad (7, 1, 0)) (ad (7, 2, 0)) (ad (7, 3, 0)) (ad (7, 4, 0)) (ad (7, 5, 0)) (ad (7, 6, 0)) (ad (7, 8, 0)) (ad (7, 9, 0)) (ad (7, 10, 0)) (ad (7, 11, 0)) (ad (7, 12, 0)) (ad (7, 13, 0)) (ad (7, 14, 0)) (ad (7, 15, 0)) (ad (7, 16, 0)) (ad (7, 17, 0)) (ad (7, 18, 0)) (ad (7, 19, 0)) (ad (7, 20, 0)) (ad (7, 21, 0)) (ad (7, 22, 0)) (ad (7, 23, 0)) nr nn hfull))
  · have hlt : nr < 10 := by omega
    obtain ⟨z1, z2⟩ := hR0 nr (Nat.le_refl _) hlt
    have hl0 : leN S nr = 0 := by
      show (S 1 nr).toNatClampNeg = 0
      rw [z1]
      decide
    have hofn : ∀ i, i < nn → ofN S i < nr := fun i hi => (hU i hi).1.1
    have hv2 : Inv (nr + 1, nn, S, T) := by
      refine ⟨⟨hlt, h30⟩, fun r hr => ?_, fun r hr hr2 => hR0 r (Nat.le_of_succ_le hr) hr2, fun i hi => ?_, hU0⟩
      · rcases Nat.lt_or_ge r nr with h | h
        · exact hR r h
        · have e : r = nr := Nat.le_antisymm (Nat.le_of_lt_succ hr) h
          subst e
          refine ⟨?_, ?_, Or.inl z2, fun k hk => ?_⟩
          · show S 1 r = nI (leN S r)
            rw [hl0]; exact z1
          · show leN S r ≤ 12
            rw [hl0]; decide
          · have hk : k < leN S r := hk
            rw [hl0] at hk; omega
      · obtain ⟨⟨b1, b2⟩, b3⟩ := hU i hi
        exact ⟨⟨Nat.lt_succ_of_lt b1, b2⟩, b3⟩
    refine ⟨nI nr, (nr + 1, nn, S, T), hv2, ?_, ?_⟩
    · exact g_int fun sz ad G hx hm => by
        subst hx
        refine ⟨[((0, 0, 0), .inr (4, [.ref (ad (0, 1, 0)), .ref (ad (0, 2, 0)), .int (nI nr), .int (nI nn)])), ((0, 1, 0), .inl (t 3, 10, .inr (.inr (.inr (.inr ((rfR ad nr)))))))], Nat × Nat, _, fun u => [((0, 0, 0), ad (0, 0, 0), .inr (4, [.ref (ad (0, 1, 0)), .ref (ad (0, 2, 0)), .int (nI nr + 1), .int (nI nn)])), ((0, 1, 0), ad (0, 1, 0), .inl (t 3, 10, .inr (.inr (.inr (.inr (va_up (rfR ad nr) nr (some u.1))))))), ((1, nr, 0), u.1, .inr (0, [.ref u.2, .int 0, .int 0])), ((2, nr, 0), u.2, .inl (t 6, 12, .inr (.inr (.inr (.inr (fun _ => none))))))], (allc e_0 (all1 e_01)), by simp, (c_CR_recipe_new l D t sz (ad (0, 0, 0)) (ad (0, 1, 0)) (ad (0, 2, 0)) nr nn (rfR ad nr) hlt), fun x u hpo => ⟨hpo, ?_⟩⟩
        have had : ∀ k, k ≠ (1, nr, 0) → k ≠ (2, nr, 0) → (aUp (aUp ad (1, nr, 0) u.1) (2, nr, 0) u.2) k = ad k := fun k h1 h2 => (aUp_ne h2).trans (aUp_ne h1)
        have ha1 : (aUp (aUp ad (1, nr, 0) u.1) (2, nr, 0) u.2) (1, nr, 0) = u.1 := (aUp_ne (kt (by decide))).trans aUp_eq
        have ha2 : (aUp (aUp ad (1, nr, 0) u.1) (2, nr, 0) u.2) (2, nr, 0) = u.2 := aUp_eq
        have eU : ∀ n, rfU (aUp (aUp ad (1, nr, 0) u.1) (2, nr, 0) u.2) n = rfU ad n := fun n => by funext r; show (if r < n then some ((aUp (aUp ad (1, nr, 0) u.1) (2, nr, 0) u.2) (4, r, 0)) else none) = _; rw [had _ (kt (by decide)) (kt (by decide))]
        have eP : ∀ r n, rfP (aUp (aUp ad (1, nr, 0) u.1) (2, nr, 0) u.2) r n = rfP ad r n := fun r n => by funext q; show (if q < n then some ((aUp (aUp ad (1, nr, 0) u.1) (2, nr, 0) u.2) (3, r, q)) else none) = _; rw [had _ (kt (by decide)) (kt (by decide))]
        have eY : ∀ r n, rfY (aUp (aUp ad (1, nr, 0) u.1) (2, nr, 0) u.2) r n = rfY ad r n := fun r n => by funext q; show (if q < n then some ((aUp (aUp ad (1, nr, 0) u.1) (2, nr, 0) u.2) (6, r, q)) else none) = _; rw [had _ (kt (by decide)) (kt (by decide))]
        have eR : rfR (aUp (aUp ad (1, nr, 0) u.1) (2, nr, 0) u.2) (nr + 1) = va_up (rfR ad nr) nr (some u.1) := by
          funext r
          show (if r < nr + 1 then some ((aUp (aUp ad (1, nr, 0) u.1) (2, nr, 0) u.2) (1, r, 0)) else none) = (if r = nr then some u.1 else (if r < nr then some (ad (1, r, 0)) else none))
          by_cases c : r = nr
          · subst c
            rw [if_pos (Nat.lt_succ_self _), if_pos rfl, ha1]
          · rw [if_neg c]
            by_cases c2 : r < nr
            · rw [if_pos (Nat.lt_succ_of_lt c2), if_pos c2, had _ (kr c) (kt (by decide))]
            · rw [if_neg (by omega), if_neg c2]
        refine ⟨(aUp (aUp ad (1, nr, 0) u.1) (2, nr, 0) u.2), G, had _ (kt (by decide)) (kt (by decide)), (had _ (kt (by decide)) (kt (by decide))).trans hm, hkw_pre [(1, nr, 0), (2, nr, 0)] rfl, ?_, fun k e hk => ?_⟩
        · refine allc ⟨?_, had _ (kt (by decide)) (kt (by decide))⟩ (allc ⟨?_, had _ (kt (by decide)) (kt (by decide))⟩ (allc ⟨?_, ha1⟩ (all1 ⟨?_, ha2⟩)))
          · rw [e_0, had _ (kt (by decide)) (kt (by decide)), had _ (kt (by decide)) (kt (by decide)), nI_1]
          · rw [e_01, eR]
          · rw [e_1 (Nat.lt_succ_self _) z1 z2, ha2]
          · rw [e_2 (Nat.lt_succ_self _), hl0]
            have e0 : rfP (aUp (aUp ad (1, nr, 0) u.1) (2, nr, 0) u.2) nr 0 = fun _ => none := by
              funext q
              show (if q < 0 then some ((aUp (aUp ad (1, nr, 0) u.1) (2, nr, 0) u.2) (3, nr, q)) else none) = none
              rw [if_neg (Nat.not_lt_zero _)]
            rw [e0]
        · by_cases c0 : k = (0, 0, 0)
          · subst c0; exact Or.inl ⟨_, List.mem_of_getElem? (i := 0) rfl, rfl⟩
          by_cases c1 : k = (0, 1, 0)
          · subst c1; exact Or.inl ⟨_, List.mem_of_getElem? (i := 1) rfl, rfl⟩
          by_cases c2 : k = (1, nr, 0)
          · subst c2; exact Or.inl ⟨_, List.mem_of_getElem? (i := 2) rfl, rfl⟩
          by_cases c3 : k = (2, nr, 0)
          · subst c3; exact Or.inl ⟨_, List.mem_of_getElem? (i := 3) rfl, rfl⟩
          refine Or.inr ⟨?_, had k c2 c3⟩
          rw [eA_split (S := S) (T := T) (nr := nr) (nn := nn) (ad := ad) k (fun q => had _ (kt (by decide)) (kt (by decide))) ?_ ?_ ?_ ?_ ?_ ?_ ?_] at hk
          · exact hk
          · intro c
            unfold eI
            simp only [c, if_true, c0, c1, if_false, eU]
          · obtain ⟨k1, k2, k3⟩ := k
            intro ca cb
            simp only at ca cb
            subst ca cb
            have hne : k2 ≠ nr := fun e => c2 (by rw [e])
            refine ⟨⟨fun h => by simp only at h ⊢; omega, fun h => Nat.lt_succ_of_lt h⟩, fun _ => ?_⟩
            show oR (aUp (aUp ad (1, nr, 0) u.1) (2, nr, 0) u.2) S k2 = oR ad S k2
            unfold oR
            rw [had _ (kt (by decide)) (kr hne)]
          · obtain ⟨k1, k2, k3⟩ := k
            intro ca cb
            simp only at ca cb
            subst ca cb
            have hne : k2 ≠ nr := fun e => c3 (by rw [e])
            exact ⟨⟨fun h => by simp only at h ⊢; omega, fun h => Nat.lt_succ_of_lt h⟩, fun _ => eP _ _⟩
          · obtain ⟨k1, k2, k3⟩ := k
            intro _
            refine ⟨⟨fun h => ?_, fun h => ⟨Nat.lt_succ_of_lt h.1, h.2⟩⟩, fun _ => rfl⟩
            simp only at h ⊢
            refine ⟨?_, h.2⟩
            rcases Nat.lt_or_ge k2 nr with g | g
            · exact g
            · have e : k2 = nr := by omega
              subst e
              rw [hl0] at h
              omega
          · intro _ _
            refine ⟨Iff.rfl, fun h => ?_⟩
            unfold oU
            rw [had _ (kr (Nat.ne_of_lt (hofn _ h))) (kt (by decide)), had _ (kt (by decide)) (kt (by decide)), had _ (kt (by decide)) (kt (by decide))]
          · intro _ _
            exact ⟨Iff.rfl, fun h => eY _ _⟩
          · intro _
            refine ⟨Iff.rfl, fun h => ?_⟩
            unfold oT
            rw [had _ (kt (by decide)) (kt (by decide))]
    · exact gm_int (nr + 1, nn, S, T) [] (by decide) (by decide) (fun _ _ => rfl) (fun _ _ => rfl) (fun sz ad => by
        have h9 := (c_M_recipe_new l D t sz (ad (7, 0, 0)) (ad (7, 1, 0)) (ad (7, 2, 0)) (ad (7, 3, 0)) (ad (7, 4, 0)) (ad (7, 5, 0)) (ad (7, 6, 0)) (ad (7, 8, 0)) (ad (7, 9, 0)) (ad (7, 10, 0)) (ad (7, 11, 0)) (ad (7, 12, 0)) (ad (7, 13, 0)) (ad (7, 14, 0)) (ad (7, 15, 0)) (ad (7, 16, 0)) (ad (7, 17, 0)) (ad (7, 18, 0)) (ad (7, 19, 0)) (ad (7, 20, 0)) (ad (7, 21, 0)) (ad (7, 22, 0)) (ad (7, 23, 0)) nr nn hlt)
        rw [nI_1] at h9
        exact h9)
