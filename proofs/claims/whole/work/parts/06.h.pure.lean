theorem clo_top (r : Nat → Nat) (n o : Nat) : clo r n o (2 ^ n - 1) = 2 ^ n - 1 := by
  have h : 2 ^ n - 1 < 2 ^ n := Nat.sub_lt (Nat.two_pow_pos n) (by decide)
  apply Nat.le_antisymm
  · have := clo_lt r n o (2 ^ n - 1); omega
  · exact sN_le (clo_ext h)
theorem ar_pre {r : Nat → Nat} {n o : Nat} {g : Nat → Option Nat} {mem : Nat → Nat} {ar : Bool} (hgc : ∀ q, q < 2 ^ n → (gB g q = true ↔ clo r n o q = q)) (h : ar = true → lstAt mem (CL r n o) ∧ ∀ q, q < 2 ^ n → gB g q = true → g q = some (LV r n o q)) : ar = true → lstAt mem (BLp (gB g) n (2 ^ n)) ∧ ∀ q, q < 2 ^ n → gB g q = true → g q = some (LV r n o q) := fun z => by
  have h1 := h z
  unfold CL at h1
  rw [CLp_BLp hgc] at h1
  exact h1
