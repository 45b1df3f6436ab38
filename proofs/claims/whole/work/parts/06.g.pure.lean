theorem ib_iB {x : Int32} {b : Nat} (hb : b < 2 ^ 31) : (decide (¬ x < 0) && decide (¬ nI b ≤ x)) = iB x b := by
  by_cases h : ¬ x < 0
  · obtain ⟨j, hj, rfl⟩ := nI_of h
    by_cases hjb : j < b
    · rw [ib_t hb hjb, iB_t hb hjb]
    · have e1 : (decide (¬ nI j < 0) && decide (¬ nI b ≤ nI j)) = false := by
        rw [decide_eq_false (p := ¬ nI b ≤ nI j) (fun z => z (nI_le (by omega) hj)), Bool.and_false]
      rw [e1]
      cases e : iB (nI j) b
      · rfl
      · obtain ⟨k, hk, e2⟩ := iB_in hb e
        have := (nI_eq hj (by omega)).mp e2
        omega
  · have e1 : decide (¬ x < 0) = false := decide_eq_false h
    unfold iB
    rw [e1, Bool.false_and, Bool.false_and]
theorem no_gc {r : Nat → Nat} {n o w : Nat} {g g' : Nat → Option Nat} (hB : ∀ x, x < 2 ^ n → (gB g' x = true ↔ gB g x = true ∨ ∃ p, p < 2 ^ n ∧ gB g p = true ∧ (p &&& w) = x)) (h : ∀ x, x < 2 ^ n → (gB g x = true ↔ clo r n o x = x)) : ∀ x, x < 2 ^ n → (gB g' x = true ↔ clo (va_up r o w) n (o + 1) x = x) := by
  intro x hx
  rw [hB x hx, clo_more hx, clo_up, h x hx]
  constructor
  · intro z
    rcases z with z | ⟨p, h1, h2, h3⟩
    · exact Or.inl z
    · exact Or.inr ⟨p, h1, by rw [clo_up]; exact (h p h1).mp h2, by rw [va_up_self]; exact h3⟩
  · intro z
    rcases z with z | ⟨p, h1, h2, h3⟩
    · exact Or.inl z
    · rw [clo_up] at h2; rw [va_up_self] at h3
      exact Or.inr ⟨p, h1, (h p h1).mpr h2, h3⟩
