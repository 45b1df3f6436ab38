/-! how many bits: the JDK's reckoning -/
theorem an_split {a m : Nat} (b k : Nat) (ha : a < 256) (hm : m < 256) : (a + 256 * b) &&& (m + 256 * k) = (a &&& m) + 256 * (b &&& k) := by
  have h1 := Nat.and_div_two_pow (a := a + 256 * b) (b := m + 256 * k) (n := 8)
  have h2 := Nat.and_mod_two_pow (a := a + 256 * b) (b := m + 256 * k) (n := 8)
  have e : (2 : Nat) ^ 8 = 256 := by decide
  rw [e] at h1 h2
  rw [show (a + 256 * b) / 256 = b by omega, show (m + 256 * k) / 256 = k by omega] at h1
  rw [show (a + 256 * b) % 256 = a by omega, show (m + 256 * k) % 256 = m by omega] at h2
  omega
def pc1 (q : Nat) : Nat := q - (q / 2 &&& 1431655765)
def pc2 (i : Nat) : Nat := (i &&& 858993459) + (i / 4 &&& 858993459)
def pc3 (i : Nat) : Nat := (i + i / 16) &&& 252645135
def pc4 (i : Nat) : Nat := i + i / 256
def pc5 (i : Nat) : Nat := i + i / 65536
def pcF (q : Nat) : Nat := pc5 (pc4 (pc3 (pc2 (pc1 q)))) &&& 63
theorem an_3 {a b c m1 m2 m3 : Nat} (ha : a < 256) (hb : b < 256) (h1 : m1 < 256) (h2 : m2 < 256) : (a + 256 * (b + 256 * c)) &&& (m1 + 256 * (m2 + 256 * m3)) = (a &&& m1) + 256 * ((b &&& m2) + 256 * (c &&& m3)) := by
  rw [an_split _ _ ha h1, an_split _ _ hb h2]
theorem pc_d1 : ∀ a, a < 256 → ∀ t, t < 2 → (a / 2 + 128 * t) &&& 85 = a / 2 &&& 85 := by decide +kernel
theorem pc_d1' : ∀ a, a < 256 → (a / 2 &&& 85) ≤ a ∧ a - (a / 2 &&& 85) < 256 := by decide +kernel
theorem pc_c1 : ∀ c, c < 16 → (c / 2 &&& 21845) ≤ c ∧ c - (c / 2 &&& 21845) < 16 ∧ (c / 2 &&& 21845) = (c / 2 &&& 85) := by decide +kernel
theorem pc_d2 : ∀ a, a < 256 → ∀ t, t < 4 → (a / 4 + 64 * t) &&& 51 = a / 4 &&& 51 := by decide +kernel
theorem pc_c2 : ∀ c, c < 16 → (c &&& 13107) + (c / 4 &&& 13107) < 16 ∧ (c &&& 13107) = (c &&& 51) ∧ (c / 4 &&& 13107) = (c / 4 &&& 51) := by decide +kernel
def pb2 (a : Nat) : Nat := ((a - (a / 2 &&& 85)) &&& 51) + ((a - (a / 2 &&& 85)) / 4 &&& 51)
theorem pc_b2 : ∀ a, a < 256 → pb2 a ≤ 68 ∧ pb2 a % 16 ≤ 4 := by decide +kernel
theorem pc_b3 : ∀ a, a < 256 → ∀ t, t < 5 → (pb2 a + pb2 a / 16 + 16 * t) &&& 15 = bits a 8 := by decide +kernel
theorem pc_c3 : ∀ c, c < 16 → pb2 c ≤ 4 ∧ (pb2 c + pb2 c / 16) &&& 3855 = bits c 4 := by decide +kernel
theorem pc_12 {a b c : Nat} (ha : a < 256) (hb : b < 256) (hc : c < 16) : pc2 (pc1 (a + 256 * (b + 256 * c))) = pb2 a + 256 * (pb2 b + 256 * pb2 c) := by
  have e1 : pc1 (a + 256 * (b + 256 * c)) = (a - (a / 2 &&& 85)) + 256 * ((b - (b / 2 &&& 85)) + 256 * (c - (c / 2 &&& 85))) := by
    unfold pc1
    have h1 := pc_d1' a ha
    have h2 := pc_d1' b hb
    have h3 := pc_c1 c hc
    rw [show (a + 256 * (b + 256 * c)) / 2 = (a / 2 + 128 * (b % 2)) + 256 * ((b / 2 + 128 * (c % 2)) + 256 * (c / 2)) by omega]
    rw [show (1431655765 : Nat) = 85 + 256 * (85 + 256 * 21845) by decide, an_3 (by omega) (by omega) (by decide) (by decide), pc_d1 a ha _ (by omega), pc_d1 b hb _ (by omega), h3.2.2]
    rw [h3.2.2] at h3
    omega
  rw [e1]
  have h1 := (pc_d1' a ha).2
  have h2 := (pc_d1' b hb).2
  have h3 := pc_c1 c hc
  rw [h3.2.2] at h3
  unfold pb2
  generalize a - (a / 2 &&& 85) = x at *
  generalize b - (b / 2 &&& 85) = y at *
  have h4 := h3.2.1
  generalize c - (c / 2 &&& 85) = z at *
  unfold pc2
  rw [show (x + 256 * (y + 256 * z)) / 4 = (x / 4 + 64 * (y % 4)) + 256 * ((y / 4 + 64 * (z % 4)) + 256 * (z / 4)) by omega]
  rw [show (858993459 : Nat) = 51 + 256 * (51 + 256 * 13107) by decide, an_3 h1 h2 (by decide) (by decide), an_3 (by omega) (by omega) (by decide) (by decide), pc_d2 x h1 _ (by omega), pc_d2 y h2 _ (by omega)]
  have h5 := pc_c2 z h4
  rw [h5.2.1, h5.2.2]
  omega
theorem pc_3 {a b c : Nat} (ha : a < 256) (hb : b < 256) (hc : c < 16) : pc3 (pb2 a + 256 * (pb2 b + 256 * pb2 c)) = bits a 8 + 256 * (bits b 8 + 256 * bits c 4) := by
  have h1 := pc_b2 a ha
  have h2 := pc_b2 b hb
  have h3 := pc_c3 c hc
  have g1 := pc_b3 a ha (pb2 b % 16) (by omega)
  have g2 := pc_b3 b hb (pb2 c % 16) (by omega)
  unfold pc3
  rw [show (pb2 a + 256 * (pb2 b + 256 * pb2 c)) + (pb2 a + 256 * (pb2 b + 256 * pb2 c)) / 16 = (pb2 a + pb2 a / 16 + 16 * (pb2 b % 16)) + 256 * ((pb2 b + pb2 b / 16 + 16 * (pb2 c % 16)) + 256 * (pb2 c + pb2 c / 16)) by omega]
  rw [show (252645135 : Nat) = 15 + 256 * (15 + 256 * 3855) by decide, an_3 (by omega) (by omega) (by decide) (by decide), g1, g2, h3.2]
theorem bits_add {a b s : Nat} (ha : a < 2 ^ s) : ∀ k, bits (a + 2 ^ s * b) (s + k) = bits a s + bits b k
  | 0 => by
    have h : ∀ j, j ≤ s → bits (a + 2 ^ s * b) j = bits a j := by
      intro j
      induction j with
      | zero => intro _; rfl
      | succ j ih =>
        intro hj
        show bits (a + 2 ^ s * b) j + _ = bits a j + _
        rw [ih (by omega), bt01, bt01]
        have : (a + 2 ^ s * b).testBit j = a.testBit j := by
          rw [Nat.add_comm, Nat.testBit_two_pow_mul_add _ ha, if_pos (by omega)]
        rw [this]
    exact h s (Nat.le_refl _)
  | k + 1 => by
    have ih := bits_add (b := b) ha k
    show bits (a + 2 ^ s * b) (s + k) + ((a + 2 ^ s * b) / 2 ^ (s + k) &&& 1) = bits a s + (bits b k + (b / 2 ^ k &&& 1))
    rw [ih, bt01, bt01]
    have : (a + 2 ^ s * b).testBit (s + k) = b.testBit k := by
      rw [Nat.add_comm, Nat.testBit_two_pow_mul_add _ ha, if_neg (by omega), Nat.add_sub_cancel_left]
    rw [this]
    omega
theorem pc_all {q : Nat} (hq : q < 2 ^ 20) : pcF q = bits q 20 := by
  have hq : q < 1048576 := hq
  have e : q = q % 256 + 256 * (q / 256 % 256 + 256 * (q / 65536)) := by omega
  have ha : q % 256 < 256 := Nat.mod_lt _ (by decide)
  have hb : q / 256 % 256 < 256 := Nat.mod_lt _ (by decide)
  have hc : q / 65536 < 16 := by omega
  generalize q % 256 = a at e ha
  generalize q / 256 % 256 = b at e hb
  generalize q / 65536 = c at e hc
  have e2 : bits q 20 = bits a 8 + (bits b 8 + bits c 4) := by
    rw [e]
    have h1 := bits_add (a := a) (b := b + 256 * c) (s := 8) ha 12
    have h2 := bits_add (a := b) (b := c) (s := 8) hb 4
    rw [show (2 : Nat) ^ 8 = 256 by decide] at h1 h2
    rw [show (8 : Nat) + 12 = 20 by decide] at h1
    rw [show (8 : Nat) + 4 = 12 by decide] at h2
    rw [h1, h2]
  unfold pcF
  rw [e2, e, pc_12 ha hb hc, pc_3 ha hb hc]
  have g1 := bits_le a 8
  have g2 := bits_le b 8
  have g3 := bits_le c 4
  generalize bits a 8 = x at *
  generalize bits b 8 = y at *
  generalize bits c 4 = z at *
  unfold pc5 pc4
  rw [show (63 : Nat) = 2 ^ 6 - 1 by decide, Nat.and_two_pow_sub_one_eq_mod, show (2 : Nat) ^ 6 = 64 by decide]
  rw [show (x + 256 * (y + 256 * z)) / 256 = y + 256 * z by omega]
  rw [show (x + 256 * (y + 256 * z) + (y + 256 * z)) / 65536 = z by omega]
  omega
theorem pc_bound {q : Nat} (hq : q < 2 ^ 20) : pc1 q < 2 ^ 20 ∧ pc2 (pc1 q) < 2 ^ 22 ∧ pc3 (pc2 (pc1 q)) < 2 ^ 23 ∧ pc4 (pc3 (pc2 (pc1 q))) < 2 ^ 24 := by
  have h1 : pc1 q ≤ q := Nat.sub_le _ _
  have h2 : pc2 (pc1 q) ≤ pc1 q + pc1 q / 4 := Nat.add_le_add Nat.and_le_left Nat.and_le_left
  have h3 : pc3 (pc2 (pc1 q)) ≤ pc2 (pc1 q) + pc2 (pc1 q) / 16 := Nat.and_le_left
  have h4 : pc4 (pc3 (pc2 (pc1 q))) = pc3 (pc2 (pc1 q)) + pc3 (pc2 (pc1 q)) / 256 := rfl
  omega
