/-! a new recipe, a new step, a new run: what stays as it was -/
theorem if_eq {α : Type} {c d : Prop} [Decidable c] [Decidable d] {a b z : α} (h : c ↔ d) (e : d → a = b) : (if c then a else z) = (if d then b else z) := by
  by_cases hd : d
  · rw [if_pos hd, if_pos (h.mpr hd), e hd]
  · rw [if_neg hd, if_neg (fun hc => hd (h.mp hc))]
section grow
variable {D : va_G} {t : Nat → ClassId} {x0 m0 : Nat} {ad ad' : GK → Nat} {G : Nat → Nat → Nat → Int32} {nr nn nr' nn' : Nat} {S S' : Nat → Nat → Int32} {T T' : Nat → Nat → UInt64} {ZM : St}
theorem eA_split (k : GK) (h7 : ∀ q, ad' (7, q, 0) = ad (7, q, 0)) (h0 : k.1 = 0 → eI t ad' G (nr', nn', S', T') k = eI t ad G (nr, nn, S, T) k)
    (h1 : k.1 = 1 → k.2.2 = 0 → (k.2.1 < nr' ↔ k.2.1 < nr) ∧ (k.2.1 < nr → oR ad' S' k.2.1 = oR ad S k.2.1))
    (h2 : k.1 = 2 → k.2.2 = 0 → (k.2.1 < nr' ↔ k.2.1 < nr) ∧ (k.2.1 < nr → rfP ad' k.2.1 (leN S' k.2.1) = rfP ad k.2.1 (leN S k.2.1)))
    (h3 : k.1 = 3 → ((k.2.1 < nr' ∧ k.2.2 < leN S' k.2.1) ↔ (k.2.1 < nr ∧ k.2.2 < leN S k.2.1)) ∧ (k.2.1 < nr ∧ k.2.2 < leN S k.2.1 → oP S' T' k.2.1 k.2.2 = oP S T k.2.1 k.2.2))
    (h4 : k.1 = 4 → k.2.2 = 0 → (k.2.1 < nn' ↔ k.2.1 < nn) ∧ (k.2.1 < nn → oU ad' S' T' k.2.1 = oU ad S T k.2.1))
    (h5 : k.1 = 5 → k.2.2 = 0 → (k.2.1 < nn' ↔ k.2.1 < nn) ∧ (k.2.1 < nn → rfY ad' k.2.1 (atN S' k.2.1 + 1) = rfY ad k.2.1 (atN S k.2.1 + 1)))
    (h6 : k.1 = 6 → ((k.2.1 < nn' ∧ k.2.2 < atN S' k.2.1 + 1) ↔ (k.2.1 < nn ∧ k.2.2 < atN S k.2.1 + 1)) ∧ (k.2.1 < nn ∧ k.2.2 < atN S k.2.1 + 1 → oT ad' S' G k.2.1 k.2.2 = oT ad S G k.2.1 k.2.2)) :
    eA t ad' G (nr', nn', S', T') ZM k = eA t ad G (nr, nn, S, T) ZM k := by
  obtain ⟨k1, k2, k3⟩ := k
  simp only at h0 h1 h2 h3 h4 h5 h6
  unfold eA
  by_cases c7 : k1 = 7
  · simp only [c7, if_true]
    unfold eM oM
    simp only [h7]
  · simp only [c7, if_false]
    by_cases c0 : k1 = 0
    · exact h0 c0
    · unfold eI
      simp only [c0, if_false]
      by_cases c1 : k1 = 1
      · simp only [c1, if_true]
        exact if_eq ⟨fun h => ⟨h.1, (h1 c1 h.1).1.mp h.2⟩, fun h => ⟨h.1, (h1 c1 h.1).1.mpr h.2⟩⟩ (fun h => congrArg some ((h1 c1 h.1).2 h.2))
      · simp only [c1, if_false]
        by_cases c2 : k1 = 2
        · simp only [c2, if_true]
          exact if_eq ⟨fun h => ⟨h.1, (h2 c2 h.1).1.mp h.2⟩, fun h => ⟨h.1, (h2 c2 h.1).1.mpr h.2⟩⟩ (fun h => by rw [(h2 c2 h.1).2 h.2])
        · simp only [c2, if_false]
          by_cases c3 : k1 = 3
          · simp only [c3, if_true]
            exact if_eq (h3 c3).1 (fun h => congrArg some ((h3 c3).2 h))
          · simp only [c3, if_false]
            by_cases c4 : k1 = 4
            · simp only [c4, if_true]
              exact if_eq ⟨fun h => ⟨h.1, (h4 c4 h.1).1.mp h.2⟩, fun h => ⟨h.1, (h4 c4 h.1).1.mpr h.2⟩⟩ (fun h => congrArg some ((h4 c4 h.1).2 h.2))
            · simp only [c4, if_false]
              by_cases c5 : k1 = 5
              · simp only [c5, if_true]
                exact if_eq ⟨fun h => ⟨h.1, (h5 c5 h.1).1.mp h.2⟩, fun h => ⟨h.1, (h5 c5 h.1).1.mpr h.2⟩⟩ (fun h => by rw [(h5 c5 h.1).2 h.2])
              · simp only [c5, if_false]
                by_cases c6 : k1 = 6
                · simp only [c6, if_true]
                  exact if_eq (h6 c6).1 (fun h => congrArg some ((h6 c6).2 h))
                · simp only [c6, if_false]
end grow
/-! keys that differ -/
theorem kt {a b r q r' q' : Nat} (h : a ≠ b) : ((a, r, q) : GK) ≠ (b, r', q') := fun e => h (congrArg (fun z : GK => z.1) e)
theorem kr {a b r q r' q' : Nat} (h : r ≠ r') : ((a, r, q) : GK) ≠ (b, r', q') := fun e => h (congrArg (fun z : GK => z.2.1) e)
theorem kq {a b r q r' q' : Nat} (h : q ≠ q') : ((a, r, q) : GK) ≠ (b, r', q') := fun e => h (congrArg (fun z : GK => z.2.2) e)
/-! the object's own cells with other numbers: what stays -/
theorem fK_iff {n g : Int32} : ¬ fK n g = 0 ↔ g = 0 ∧ ¬ 12 ≤ n := by
  unfold fK
  by_cases h : g = 0
  · rw [if_pos h]
    by_cases h2 : 12 ≤ n
    · rw [if_pos h2]; exact ⟨fun h3 => absurd rfl h3, fun h3 => absurd h2 h3.2⟩
    · rw [if_neg h2]; exact ⟨fun _ => ⟨h, h2⟩, fun _ => by decide⟩
  · rw [if_neg h]; exact ⟨fun h3 => absurd rfl h3, fun h3 => absurd h3.1 h⟩
theorem okS_kd {kd sc : Int32} {sg dg : UInt64} (h : okS kd sc sg dg) : kd5 kd := by
  obtain ⟨h1, h2, -⟩ := h
  rw [Int32.lt_iff_toInt_lt] at h1 h2
  have e0 : (0 : Int32).toInt = 0 := by decide
  have e4 : (4 : Int32).toInt = 4 := by decide
  rw [e0] at h1
  rw [e4] at h2
  rcases (show kd.toInt = 0 ∨ kd.toInt = 1 ∨ kd.toInt = 2 ∨ kd.toInt = 3 ∨ kd.toInt = 4 by omega) with q | q | q | q | q
  · exact Or.inl (y_toInt q 0 (by decide))
  · exact Or.inr (Or.inl (y_toInt q 1 (by decide)))
  · exact Or.inr (Or.inr (Or.inl (y_toInt q 2 (by decide))))
  · exact Or.inr (Or.inr (Or.inr (Or.inl (y_toInt q 3 (by decide)))))
  · exact Or.inr (Or.inr (Or.inr (Or.inr (y_toInt q 4 (by decide)))))
theorem okS_sc {kd sc : Int32} {sg dg : UInt64} (h : okS kd sc sg dg) : ∃ n, 1 ≤ n ∧ n ≤ 3600 ∧ sc = nI n := by
  obtain ⟨-, -, h1, h2, -⟩ := h
  have e1 : (1 : Int32).toInt = 1 := by decide
  have e0 : (0 : Int32).toInt = 0 := by decide
  have h0 : ¬ sc < 0 := by
    rw [Int32.lt_iff_toInt_lt, e1] at h1
    rw [Int32.lt_iff_toInt_lt, e0]
    omega
  obtain ⟨n, hn, rfl⟩ := nI_of2 (M := 3600) (n := 3600) (by decide) h0 h2
  refine ⟨n, ?_, hn, rfl⟩
  rw [Int32.lt_iff_toInt_lt, e1, nI_toInt (by omega)] at h1
  omega
