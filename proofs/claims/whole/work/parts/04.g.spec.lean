/-! marks of the family; lengths of lists up to a place -/
theorem gB_f {g : Nat → Option Nat} {q : Nat} (h : gB g q = false) : (g q).isNone = true := by unfold gB at h; cases e : g q <;> simp_all
theorem gB_t {g : Nat → Option Nat} {q : Nat} (h : gB g q = true) : ¬ (g q).isNone = true := by unfold gB at h; cases e : g q <;> simp_all
theorem BLp_mono {ip : Nat → Bool} {n p : Nat} : ∀ d, (BLp ip n p).length ≤ (BLp ip n (p + d)).length
  | 0 => Nat.le_refl _
  | d + 1 => by
    have ih := BLp_mono (ip := ip) (n := n) (p := p) d
    have e : BLp ip n (p + (d + 1)) = if ip (tur n (p + d) n) = true then BLp ip n (p + d) ++ [tur n (p + d) n] else BLp ip n (p + d) := rfl
    rw [e]
    split
    · rw [List.length_append]; omega
    · exact ih
theorem BLp_more {ip : Nat → Bool} {n k : Nat} (hk : k < 2 ^ n) (h : ip (tur n k n) = true) : (BLp ip n k).length < (BLp ip n (2 ^ n)).length := by
  have h1 := BLp_mono (ip := ip) (n := n) (p := k + 1) (2 ^ n - (k + 1))
  rw [show k + 1 + (2 ^ n - (k + 1)) = 2 ^ n by omega] at h1
  have h2 : (BLp ip n (k + 1)).length = (BLp ip n k).length + 1 := by
    rw [BLp, if_pos h, List.length_append]; rfl
  omega
theorem ib_t {a b : Nat} (hb : b < 2 ^ 31) (h : a < b) : (decide (¬ nI a < 0) && decide (¬ nI b ≤ nI a)) = true := by
  rw [Bool.and_eq_true, decide_eq_true_iff, decide_eq_true_iff]
  exact ⟨nI_pos (by omega), nI_ge h hb⟩
