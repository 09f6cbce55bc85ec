/-! contracts over the whole world, out of contracts over a few cells -/
theorem gp_A {D : va_G} {base : Nat} {ad : GK → Nat} {E : GK → Option va_E} {H : Heap} (hG : gW D (fun q => base ≤ q) ad E H) (hb : base ≤ H.size) (ks : List (GK × va_E)) (hks : ∀ x ∈ ks, E x.1 = some x.2) : ∀ q, va_A (gL ad ks) H.size q → base ≤ q := by
  rintro q (⟨k, e, hk⟩ | hq)
  · rw [List.getElem?_map] at hk
    cases hx : ks[k]? with
    | none => rw [hx] at hk; cases hk
    | some x =>
      rw [hx] at hk
      cases hk
      exact (hG.1 x.1 x.2 (hks x (List.mem_of_getElem? hx))).2
  · exact Nat.le_trans hb hq
/-- what a case owes: the cells that are touched, a contract over them, and that what comes back is the next world -/
def gOb (D : va_G) (t : Nat → ClassId) (x0 m0 : Nat) (ZI ZM ZI' ZM' : St) (ad : GK → Nat) (G : Nat → Nat → Nat → Int32) (ks : List (GK × va_E)) (w : List (GK × Nat × va_E)) : Prop :=
  ∃ (ad' : GK → Nat) (G' : Nat → Nat → Nat → Int32), ad' (0, 0, 0) = x0 ∧ ad' (7, 0, 0) = m0 ∧ (∀ x ∈ ks, ∃ z ∈ w, z.1 = x.1) ∧ (∀ x ∈ w, eA t ad' G' ZI' ZM' x.1 = some x.2.2 ∧ ad' x.1 = x.2.1) ∧ (∀ k e, eA t ad' G' ZI' ZM' k = some e → (∃ x ∈ w, x.1 = k) ∨ (eA t ad G ZI ZM k = some e ∧ ad' k = ad k))
theorem gp_back {D : va_G} {t : Nat → ClassId} {base x0 m0 : Nat} {ZI ZM ZI' ZM' : St} {ad : GK → Nat} {G : Nat → Nat → Nat → Int32} {s tt : State} {ks : List (GK × va_E)} {w : List (GK × Nat × va_E)} (hb : base ≤ s.heap.size) (hG : gW D (fun q => base ≤ q) ad (eA t ad G ZI ZM) s.heap) (hks : ∀ x ∈ ks, eA t ad G ZI ZM x.1 = some x.2)
    (hB : yB D t (va_A (gL ad ks) s.heap.size) (gN w) tt) (hF : va_F (va_A (gL ad ks) s.heap.size) s tt) (hO : gOb D t x0 m0 ZI ZM ZI' ZM' ad G ks w) : GP D t base x0 m0 ZI' ZM' tt ∧ va_F (fun q => base ≤ q) s tt := by
  obtain ⟨hP1, hK1, hD1⟩ := hB
  obtain ⟨ad', G', a1, a2, a3, a4, a5⟩ := hO
  exact ⟨⟨ad', G', a1, a2, Nat.le_trans hb hF.1, hK1, gw_back hG ks hks w hP1 hD1 hF.2 (fun q h => Nat.le_trans hb h) a3 a4 a5⟩, hF.1, fun q h1 h2 => hF.2 q h1 (fun h => h2 (gp_A hG hb ks hks q h))⟩
section lifts
variable {l : Launch} {y : MethodName} {ws : List Cond} {rm : Room} {mc ms : Nat} {D : va_G} {t : Nat → ClassId} {base x0 m0 : Nat} {ZI ZM ZI' ZM' : St} {av : List Value}
theorem g_int {ans : Int32} (h : ∀ (sz : Nat) (ad : GK → Nat) (G : Nat → Nat → Nat → Int32), ad (0, 0, 0) = x0 → ad (7, 0, 0) = m0 → ∃ (ks : List (GK × va_E)) (S0 : Type) (post : Int32 → S0 → Prop) (w : S0 → List (GK × Nat × va_E)), (∀ x ∈ ks, eA t ad G ZI ZM x.1 = some x.2) ∧ (ks.map (fun x => x.1)).Nodup ∧
      Met l y ws rm (va_Pc av (yS D t sz (gL ad ks))) (va_Qi post (fun u tt => yB D t (va_A (gL ad ks) sz) (gN (w u)) tt) (va_A (gL ad ks) sz)) mc ms (va_A (gL ad ks) sz) ∧ ∀ x u, post x u → x = ans ∧ gOb D t x0 m0 ZI ZM ZI' ZM' ad G ks (w u)) :
    Met l y ws rm (va_Pc av (GP D t base x0 m0 ZI ZM)) (va_Qi (fun x (_ : Unit) => x = ans) (fun _ tt => GP D t base x0 m0 ZI' ZM' tt) (fun q => base ≤ q)) mc ms (fun q => base ≤ q) := by
  refine met_map fun a s hp => ?_
  obtain ⟨rfl, ad, G, hx0, hm0, hb, hK, hG⟩ := hp
  obtain ⟨ks, S0, post, w, hks, hnd, hM, hO⟩ := h s.heap.size ad G hx0 hm0
  obtain ⟨hP, hD⟩ := gw_cut hG ks hks hnd
  refine ⟨_, _, _, hM, ⟨rfl, rfl, hP, hK, hD⟩, fun o tt hq => ?_, gp_A hG hb ks hks⟩
  obtain ⟨⟨x, u, ho, hpo, hB⟩, hF⟩ := hq
  obtain ⟨rfl, hO9⟩ := hO x u hpo
  obtain ⟨g1, g2⟩ := gp_back hb hG hks hB hF hO9
  exact ⟨⟨_, (), ho, rfl, g1⟩, g2⟩
theorem g_long {ans : Int64} (h : ∀ (sz : Nat) (ad : GK → Nat) (G : Nat → Nat → Nat → Int32), ad (0, 0, 0) = x0 → ad (7, 0, 0) = m0 → ∃ (ks : List (GK × va_E)) (S0 : Type) (post : Int64 → S0 → Prop) (w : S0 → List (GK × Nat × va_E)), (∀ x ∈ ks, eA t ad G ZI ZM x.1 = some x.2) ∧ (ks.map (fun x => x.1)).Nodup ∧
      Met l y ws rm (va_Pc av (yS D t sz (gL ad ks))) (va_Ql post (fun u tt => yB D t (va_A (gL ad ks) sz) (gN (w u)) tt) (va_A (gL ad ks) sz)) mc ms (va_A (gL ad ks) sz) ∧ ∀ x u, post x u → x = ans ∧ gOb D t x0 m0 ZI ZM ZI' ZM' ad G ks (w u)) :
    Met l y ws rm (va_Pc av (GP D t base x0 m0 ZI ZM)) (va_Ql (fun x (_ : Unit) => x = ans) (fun _ tt => GP D t base x0 m0 ZI' ZM' tt) (fun q => base ≤ q)) mc ms (fun q => base ≤ q) := by
  refine met_map fun a s hp => ?_
  obtain ⟨rfl, ad, G, hx0, hm0, hb, hK, hG⟩ := hp
  obtain ⟨ks, S0, post, w, hks, hnd, hM, hO⟩ := h s.heap.size ad G hx0 hm0
  obtain ⟨hP, hD⟩ := gw_cut hG ks hks hnd
  refine ⟨_, _, _, hM, ⟨rfl, rfl, hP, hK, hD⟩, fun o tt hq => ?_, gp_A hG hb ks hks⟩
  obtain ⟨⟨x, u, ho, hpo, hB⟩, hF⟩ := hq
  obtain ⟨rfl, hO9⟩ := hO x u hpo
  obtain ⟨g1, g2⟩ := gp_back hb hG hks hB hF hO9
  exact ⟨⟨_, (), ho, rfl, g1⟩, g2⟩
theorem g_dbl {ans : UInt64} (h : ∀ (sz : Nat) (ad : GK → Nat) (G : Nat → Nat → Nat → Int32), ad (0, 0, 0) = x0 → ad (7, 0, 0) = m0 → ∃ (ks : List (GK × va_E)) (S0 : Type) (post : UInt64 → S0 → Prop) (w : S0 → List (GK × Nat × va_E)), (∀ x ∈ ks, eA t ad G ZI ZM x.1 = some x.2) ∧ (ks.map (fun x => x.1)).Nodup ∧
      MetD lw_cs l y ws rm (va_Pc av (yS D t sz (gL ad ks))) (va_Qd post (fun u tt => yB D t (va_A (gL ad ks) sz) (gN (w u)) tt) (va_A (gL ad ks) sz)) mc ms (va_A (gL ad ks) sz) ∧ ∀ x u, post x u → alike64 x ans = true ∧ gOb D t x0 m0 ZI ZM ZI' ZM' ad G ks (w u)) :
    MetD lw_cs l y ws rm (va_Pc av (GP D t base x0 m0 ZI ZM)) (va_Qd (fun x (_ : Unit) => alike64 x ans = true) (fun _ tt => GP D t base x0 m0 ZI' ZM' tt) (fun q => base ≤ q)) mc ms (fun q => base ≤ q) := by
  refine metD_map fun a s hp => ?_
  obtain ⟨rfl, ad, G, hx0, hm0, hb, hK, hG⟩ := hp
  obtain ⟨ks, S0, post, w, hks, hnd, hM, hO⟩ := h s.heap.size ad G hx0 hm0
  obtain ⟨hP, hD⟩ := gw_cut hG ks hks hnd
  refine ⟨_, _, _, hM, ⟨rfl, rfl, hP, hK, hD⟩, fun o tt d hq => ?_, gp_A hG hb ks hks⟩
  obtain ⟨⟨x, u, ho, hpo, hB⟩, hF⟩ := hq
  obtain ⟨hal, hO9⟩ := hO x u hpo
  obtain ⟨g1, g2⟩ := gp_back (s := s) hb hG hks hB hF hO9
  exact ⟨⟨_, (), ho, hal, g1⟩, g2⟩
end lifts
/-- nothing changes: the cells come back as they were -/
theorem gOb_same {D : va_G} {t : Nat → ClassId} {x0 m0 : Nat} {ZI ZM : St} {ad : GK → Nat} {G : Nat → Nat → Nat → Int32} (hx : ad (0, 0, 0) = x0) (hm : ad (7, 0, 0) = m0) (ks : List (GK × va_E)) (hks : ∀ x ∈ ks, eA t ad G ZI ZM x.1 = some x.2) : gOb D t x0 m0 ZI ZM ZI ZM ad G ks (ks.map (fun x => (x.1, ad x.1, x.2))) := by
  refine ⟨ad, G, hx, hm, fun x h => ⟨_, List.mem_map.mpr ⟨x, h, rfl⟩, rfl⟩, fun x h => ?_, fun k e h => Or.inr ⟨h, rfl⟩⟩
  obtain ⟨z, hz, rfl⟩ := List.mem_map.mp h
  exact ⟨hks z hz, rfl⟩
/-! the check's cells -/
abbrev gM (t : Nat → ClassId) (ad : GK → Nat) (Z : St) (qs : List Nat) : List (GK × va_E) := ((7, 0, 0), oM ad Z.1 Z.2.1) :: qs.map (fun q => ((7, q, 0), oV t Z.2.2.1 Z.2.2.2 q))
theorem eA_7 {t : Nat → ClassId} {ad : GK → Nat} {G : Nat → Nat → Nat → Int32} {ZI ZM : St} {k : GK} (h : k.1 = 7) : eA t ad G ZI ZM k = eM t ad ZM k := if_pos h
theorem eA_I {t : Nat → ClassId} {ad : GK → Nat} {G : Nat → Nat → Nat → Int32} {ZI ZM : St} {k : GK} (h : ¬ k.1 = 7) : eA t ad G ZI ZM k = eI t ad G ZI k := if_neg h
theorem gM_in {t : Nat → ClassId} {ad : GK → Nat} {G : Nat → Nat → Nat → Int32} {ZI ZM : St} (qs : List Nat) (hq : qs.all (fun q => decide (0 < q) && decide (0 < (mTy.getD q (0, 0)).2)) = true) : ∀ x ∈ gM t ad ZM qs, eA t ad G ZI ZM x.1 = some x.2 := by
  intro x hx
  rcases List.mem_cons.mp hx with rfl | hx
  · rfl
  · obtain ⟨q, hm, rfl⟩ := List.mem_map.mp hx
    have h := List.all_eq_true.mp hq q hm
    simp only [Bool.and_eq_true, decide_eq_true_eq] at h
    rw [eA_7 rfl]
    show (if (0 : Nat) = 0 then (if q = 0 then some (oM ad ZM.1 ZM.2.1) else if 0 < (mTy.getD q (0, 0)).2 then some (oV t ZM.2.2.1 ZM.2.2.2 q) else none) else none) = _
    rw [if_pos rfl, if_neg (by omega), if_pos h.2]
theorem gM_nd {t : Nat → ClassId} {ad : GK → Nat} {ZM : St} (qs : List Nat) (hn : (0 :: qs).Nodup) : ((gM t ad ZM qs).map (fun x => x.1)).Nodup := by
  have e : (gM t ad ZM qs).map (fun x => x.1) = (0 :: qs).map (fun q => ((7, q, 0) : GK)) := by
    simp [gM, Function.comp_def]
  rw [e]
  refine List.Pairwise.map _ (fun a b hab hc => hab ?_) hn
  exact congrArg (fun z : GK => z.2.1) hc
theorem gM_ob {D : va_G} {t : Nat → ClassId} {x0 m0 : Nat} {ZI ZM ZM' : St} {ad : GK → Nat} {G : Nat → Nat → Nat → Int32} (hx : ad (0, 0, 0) = x0) (hm : ad (7, 0, 0) = m0) (qs : List Nat) (hq : qs.all (fun q => decide (0 < q) && decide (0 < (mTy.getD q (0, 0)).2)) = true) (hS : ∀ q, q ∉ qs → ZM'.2.2.1 q = ZM.2.2.1 q) (hT : ∀ q, q ∉ qs → ZM'.2.2.2 q = ZM.2.2.2 q) :
    gOb D t x0 m0 ZI ZM ZI ZM' ad G (gM t ad ZM qs) ((gM t ad ZM' qs).map (fun x => (x.1, ad x.1, x.2))) := by
  refine ⟨ad, G, hx, hm, fun x h => ?_, fun x h => ?_, fun k e h => ?_⟩
  · rcases List.mem_cons.mp h with rfl | h
    · exact ⟨_, List.mem_cons_self, rfl⟩
    · obtain ⟨q, hmq, rfl⟩ := List.mem_map.mp h
      exact ⟨_, List.mem_map.mpr ⟨_, List.mem_cons_of_mem _ (List.mem_map.mpr ⟨q, hmq, rfl⟩), rfl⟩, rfl⟩
  · obtain ⟨z, hz, rfl⟩ := List.mem_map.mp h
    exact ⟨gM_in qs hq z hz, rfl⟩
  · by_cases h7 : k.1 = 7
    · rw [eA_7 h7] at h ⊢
      obtain ⟨k1, k2, k3⟩ := k
      cases h7
      unfold eM at h ⊢
      simp only at h ⊢
      by_cases h3 : k3 = 0
      · subst h3
        rw [if_pos rfl] at h ⊢
        by_cases h2 : k2 = 0
        · subst h2
          exact Or.inl ⟨_, List.mem_map.mpr ⟨_, List.mem_cons_self, rfl⟩, rfl⟩
        · rw [if_neg h2] at h ⊢
          by_cases hk : k2 ∈ qs
          · exact Or.inl ⟨_, List.mem_map.mpr ⟨_, List.mem_cons_of_mem _ (List.mem_map.mpr ⟨k2, hk, rfl⟩), rfl⟩, rfl⟩
          · refine Or.inr ⟨?_, by first | rfl | trivial⟩
            unfold oV at h ⊢
            rw [hS k2 hk, hT k2 hk] at h
            exact h
      · rw [if_neg h3] at h
        cases h
    · rw [eA_I h7] at h ⊢
      exact Or.inr ⟨h, rfl⟩
section checks
variable {l : Launch} {y : MethodName} {ws : List Cond} {rm : Room} {mc ms : Nat} {D : va_G} {t : Nat → ClassId} {base x0 m0 : Nat} {ZI ZM : St} {as : List Value}
theorem gm_int {ans : Int32} (ZM' : St) (qs : List Nat) (hq : qs.all (fun q => decide (0 < q) && decide (0 < (mTy.getD q (0, 0)).2)) = true) (hn : (0 :: qs).Nodup) (hS : ∀ q, q ∉ qs → ZM'.2.2.1 q = ZM.2.2.1 q) (hT : ∀ q, q ∉ qs → ZM'.2.2.2 q = ZM.2.2.2 q)
    (h : ∀ (sz : Nat) (ad : GK → Nat), Met l y ws rm (va_Pc (.ref (ad (7, 0, 0)) :: as) (yS D t sz (gL ad (gM t ad ZM qs)))) (va_Qi (fun x (_ : Unit) => x = ans) (fun _ tt => yB D t (va_A (gL ad (gM t ad ZM qs)) sz) (gL ad (gM t ad ZM' qs)) tt) (va_A (gL ad (gM t ad ZM qs)) sz)) mc ms (va_A (gL ad (gM t ad ZM qs)) sz)) :
    Met l y ws rm (va_Pc (.ref m0 :: as) (GP D t base x0 m0 ZI ZM)) (va_Qi (fun x (_ : Unit) => x = ans) (fun _ tt => GP D t base x0 m0 ZI ZM' tt) (fun q => base ≤ q)) mc ms (fun q => base ≤ q) :=
  g_int fun sz ad G hx hm => by
    subst hm
    refine ⟨gM t ad ZM qs, Unit, _, fun _ => (gM t ad ZM' qs).map (fun x => (x.1, ad x.1, x.2)), gM_in qs hq, gM_nd qs hn, ?_, fun x u hpo => ⟨hpo, gM_ob hx rfl qs hq hS hT⟩⟩
    have e : gN ((gM t ad ZM' qs).map (fun x => (x.1, ad x.1, x.2))) = gL ad (gM t ad ZM' qs) := by simp [gN, gL, Function.comp_def]
    dsimp only
    rw [e]
    exact h sz ad
theorem gm_long {ans : Int64} (qs : List Nat) (hq : qs.all (fun q => decide (0 < q) && decide (0 < (mTy.getD q (0, 0)).2)) = true) (hn : (0 :: qs).Nodup)
    (h : ∀ (sz : Nat) (ad : GK → Nat), Met l y ws rm (va_Pc (.ref (ad (7, 0, 0)) :: as) (yS D t sz (gL ad (gM t ad ZM qs)))) (va_Ql (fun x (_ : Unit) => x = ans) (fun _ tt => yB D t (va_A (gL ad (gM t ad ZM qs)) sz) (gL ad (gM t ad ZM qs)) tt) (va_A (gL ad (gM t ad ZM qs)) sz)) mc ms (va_A (gL ad (gM t ad ZM qs)) sz)) :
    Met l y ws rm (va_Pc (.ref m0 :: as) (GP D t base x0 m0 ZI ZM)) (va_Ql (fun x (_ : Unit) => x = ans) (fun _ tt => GP D t base x0 m0 ZI ZM tt) (fun q => base ≤ q)) mc ms (fun q => base ≤ q) :=
  g_long fun sz ad G hx hm => by
    subst hm
    refine ⟨gM t ad ZM qs, Unit, _, fun _ => (gM t ad ZM qs).map (fun x => (x.1, ad x.1, x.2)), gM_in qs hq, gM_nd qs hn, ?_, fun x u hpo => ⟨hpo, gM_ob hx rfl qs hq (fun _ _ => rfl) (fun _ _ => rfl)⟩⟩
    have e : gN ((gM t ad ZM qs).map (fun x => (x.1, ad x.1, x.2))) = gL ad (gM t ad ZM qs) := by simp [gN, gL, Function.comp_def]
    dsimp only
    rw [e]
    exact h sz ad
theorem gm_dbl {ans : UInt64} {post : UInt64 → Unit → Prop} (hpost : ∀ x u, post x u → alike64 x ans = true) (qs : List Nat) (hq : qs.all (fun q => decide (0 < q) && decide (0 < (mTy.getD q (0, 0)).2)) = true) (hn : (0 :: qs).Nodup)
    (h : ∀ (sz : Nat) (ad : GK → Nat), MetD lw_cs l y ws rm (va_Pc (.ref (ad (7, 0, 0)) :: as) (yS D t sz (gL ad (gM t ad ZM qs)))) (va_Qd post (fun _ tt => yB D t (va_A (gL ad (gM t ad ZM qs)) sz) (gL ad (gM t ad ZM qs)) tt) (va_A (gL ad (gM t ad ZM qs)) sz)) mc ms (va_A (gL ad (gM t ad ZM qs)) sz)) :
    MetD lw_cs l y ws rm (va_Pc (.ref m0 :: as) (GP D t base x0 m0 ZI ZM)) (va_Qd (fun x (_ : Unit) => alike64 x ans = true) (fun _ tt => GP D t base x0 m0 ZI ZM tt) (fun q => base ≤ q)) mc ms (fun q => base ≤ q) :=
  g_dbl fun sz ad G hx hm => by
    subst hm
    refine ⟨gM t ad ZM qs, Unit, post, fun _ => (gM t ad ZM qs).map (fun x => (x.1, ad x.1, x.2)), gM_in qs hq, gM_nd qs hn, ?_, fun x u hpo => ⟨hpost x u hpo, gM_ob hx rfl qs hq (fun _ _ => rfl) (fun _ _ => rfl)⟩⟩
    have e : gN ((gM t ad ZM qs).map (fun x => (x.1, ad x.1, x.2))) = gL ad (gM t ad ZM qs) := by simp [gN, gL, Function.comp_def]
    dsimp only
    rw [e]
    exact h sz ad
end checks
/-! the class's cells at their keys -/
section ekeys
variable {t : Nat → ClassId} {ad : GK → Nat} {G : Nat → Nat → Nat → Int32} {nr nn : Nat} {S : Nat → Nat → Int32} {T : Nat → Nat → UInt64} {ZM : St}
theorem e_0 : eA t ad G (nr, nn, S, T) ZM (0, 0, 0) = some (.inr (4, [.ref (ad (0, 1, 0)), .ref (ad (0, 2, 0)), .int (nI nr), .int (nI nn)])) := rfl
theorem e_01 : eA t ad G (nr, nn, S, T) ZM (0, 1, 0) = some (.inl (t 3, 10, rfs (rfR ad nr))) := rfl
theorem e_02 : eA t ad G (nr, nn, S, T) ZM (0, 2, 0) = some (.inl (t 4, 30, rfs (rfU ad nn))) := rfl
theorem e_1 {r : Nat} {v g : Int32} (hr : r < nr) (h1 : S 1 r = v) (h2 : S 2 r = g) : eA t ad G (nr, nn, S, T) ZM (1, r, 0) = some (.inr (0, [.ref (ad (2, r, 0)), .int v, .int g])) := by
  subst h1 h2
  show (if (0 : Nat) = 0 ∧ r < nr then some (oR ad S r) else none) = _
  rw [if_pos ⟨rfl, hr⟩]
  rfl
theorem e_2 {r : Nat} (hr : r < nr) : eA t ad G (nr, nn, S, T) ZM (2, r, 0) = some (.inl (t 6, 12, rfs (rfP ad r (leN S r)))) := by
  show (if (0 : Nat) = 0 ∧ r < nr then some _ else none) = _
  rw [if_pos ⟨rfl, hr⟩]
theorem e_3 {r k : Nat} (hr : r < nr) (hk : k < leN S r) : eA t ad G (nr, nn, S, T) ZM (3, r, k) = some (.inr (3, [.int (S 3 (12 * r + k)), .int (S 4 (12 * r + k)), .double (T 5 (12 * r + k)), .double (T 6 (12 * r + k))])) := by
  show (if r < nr ∧ k < leN S r then some (oP S T r k) else none) = _
  rw [if_pos ⟨hr, hk⟩]
  rfl
theorem e_4 {j : Nat} {st : Int32} (hj : j < nn) (hst : S 10 j = st) : eA t ad G (nr, nn, S, T) ZM (4, j, 0) = some (.inr (1, [.ref (ad (1, ofN S j, 0)), .int (S 9 j), .ref (ad (5, j, 0)), .ref (ad (6, j, atN S j)), .int (nI (atN S j + 1)), .int st, .int (S 12 j), .int (fS (S 21) (12 * j)), .int (if S 17 j ≤ 0 then 0 else 1), .double (T 16 j), .int (S 17 j), .double (T 18 j), .double (T 19 j), .double (T 20 j)])) := by
  subst hst
  show (if (0 : Nat) = 0 ∧ j < nn then some (oU ad S T j) else none) = _
  rw [if_pos ⟨rfl, hj⟩]
  rfl
theorem e_5 {j : Nat} (hj : j < nn) : eA t ad G (nr, nn, S, T) ZM (5, j, 0) = some (.inl (t 5, 12, rfs (rfY ad j (atN S j + 1)))) := by
  show (if (0 : Nat) = 0 ∧ j < nn then some _ else none) = _
  rw [if_pos ⟨rfl, hj⟩]
theorem e_6 {j k : Nat} (hj : j < nn) (hk : k < atN S j + 1) : eA t ad G (nr, nn, S, T) ZM (6, j, k) = some (.inr (2, [.ref (ad (3, ofN S j, k)), .int (S 22 (12 * j + k)), .int (S 23 (12 * j + k)), .int (gG S G 15 0 j k), .int (gG S G 13 1 j k), .int (gG S G 14 2 j k), .int (S 21 (12 * j + k))])) := by
  show (if j < nn ∧ k < atN S j + 1 then some (oT ad S G j k) else none) = _
  rw [if_pos ⟨hj, hk⟩]
  rfl
theorem e_6c {j : Nat} (hj : j < nn) : eA t ad G (nr, nn, S, T) ZM (6, j, atN S j) = some (.inr (2, [.ref (ad (3, ofN S j, atN S j)), .int (S 22 (12 * j + atN S j)), .int (S 23 (12 * j + atN S j)), .int (S 15 j), .int (S 13 j), .int (S 14 j), .int (S 21 (12 * j + atN S j))])) := by
  rw [e_6 hj (Nat.lt_succ_self _)]
  unfold gG
  rw [if_pos rfl, if_pos rfl, if_pos rfl]
end ekeys
theorem all1 {α : Type} {p : α → Prop} {a : α} (h : p a) : ∀ x ∈ [a], p x := fun x hx => by rw [List.mem_singleton.mp hx]; exact h
theorem allc {α : Type} {p : α → Prop} {a : α} {l : List α} (h : p a) (hl : ∀ x ∈ l, p x) : ∀ x ∈ a :: l, p x := List.forall_mem_cons.mpr ⟨h, hl⟩
