theorem iB_eq {i : Int32} {b : Nat} (hb : b ≤ 4096) (h : iB i b = true) : i = nI i.toNatClampNeg := by
  obtain ⟨j, hj, rfl⟩ := iB_in (by omega) h
  rw [nI_clamp (by omega)]
/-- one pass over rule i -/
theorem fl_min {prem concl : Nat → Nat} {L g i S : Nat} (hi : i < L) (hp : sN (prem i) g = true) (hg : sN g S = true) (hS : kpB prem concl L S = true) : sN (g ||| concl i) S = true := by
  unfold kpB at hS
  exact sN_or_l hg (of_decide_eq_true hS i hi (sN_trans hp hg))
theorem ge3_0 {w : Int32} (h : (3 : Int32) ≤ w) : (0 : Int32) ≤ w := by
  rw [Int32.le_iff_toInt_le] at h ⊢
  have h3 : (3 : Int32).toInt = 3 := by decide
  have h0 : (0 : Int32).toInt = 0 := by decide
  omega
theorem fl_meas {N g g2 k : Nat} {mo mo2 : Bool} (hm : (N - g) * 2 + mo.toNat < k + 1) (hmo : mo = true) (h : g ≤ g2) (h4 : mo2 = true → g < g2) (h5 : mo2 = false → g2 = g) (h6 : g2 < N) : (N - g2) * 2 + mo2.toNat < k := by
  subst hmo
  cases mo2
  · have h7 := h5 rfl
    subst h7
    simp only [Bool.toNat_true, Bool.toNat_false] at *
    omega
  · have h7 := h4 rfl
    simp only [Bool.toNat_true] at *
    omega
