/-! the class: Sets, Table, Rules as functions -/
def cl2 (r : Nat → Nat) (n q : Nat) : Nat → Nat
  | 0 => 2 ^ n - 1
  | k + 1 => if sN q (r k) = true then cl2 r n q k &&& r k else cl2 r n q k
theorem ext_bit (r : Nat → Nat) (q i : Nat) : ∀ k, (ext r q k).testBit i = (decide (i < k) && sN q (r i))
  | 0 => by simp [ext]
  | k + 1 => by
    have ih := ext_bit r q i k
    unfold ext
    by_cases h1 : sN q (r k) = true
    · rw [if_pos h1, Nat.testBit_or, ih, Nat.testBit_two_pow]
      by_cases h2 : i = k
      · subst h2; simp [h1]
      · rw [decide_eq_false (p := k = i) (fun z => h2 z.symm), Bool.or_false]
        by_cases h3 : i < k
        · rw [decide_eq_true h3, decide_eq_true (show i < k + 1 by omega)]
        · rw [decide_eq_false h3, decide_eq_false (show ¬ i < k + 1 by omega)]
    · rw [if_neg h1, ih]
      by_cases h2 : i = k
      · subst h2
        have h4 : sN q (r i) = false := by simpa using h1
        rw [h4]; simp
      · by_cases h3 : i < k
        · rw [decide_eq_true h3, decide_eq_true (show i < k + 1 by omega)]
        · rw [decide_eq_false h3, decide_eq_false (show ¬ i < k + 1 by omega)]
theorem cl2_com (r : Nat → Nat) (n q o : Nat) : ∀ k, k ≤ o → cl2 r n q k = com r n (ext r q o) k
  | 0, _ => rfl
  | k + 1, h => by
    have ih := cl2_com r n q o k (by omega)
    unfold cl2 com
    rw [ext_bit, decide_eq_true (show k < o by omega), Bool.true_and, ih]
theorem cl2_clo (r : Nat → Nat) (n q o : Nat) : cl2 r n q o = clo r n o q := cl2_com r n q o o (Nat.le_refl _)
def clI (a b : Int32) : Bool := decide (¬ (a &&& ((a ^^^ b) &&& (-(a ^^^ b)))) = 0)
/-- the set right behind q in order, by its places below c -/
def rbF : Nat → Nat → Int32
  | 0, _ => -1
  | c + 1, q => if q.testBit c = true then rbF c (q ^^^ 2 ^ c) else nI (q ||| 2 ^ c)
def cbF (r : Nat → Nat) (n o : Nat) : Nat → Nat → Int32
  | 0, _ => -1
  | c + 1, b => if b.testBit c = true then cbF r n o c (b ^^^ 2 ^ c) else if ((clo r n o (b ||| 2 ^ c) ^^^ b) &&& (2 ^ c - 1)) = 0 then nI (clo r n o (b ||| 2 ^ c)) else cbF r n o c b
theorem dn_0 {c : Nat} {kv : Int32} (hc : c < 2 ^ 31) (h : kv = nI c - 1) (h2 : kv < 0) : c = 0 := by
  rcases Nat.eq_zero_or_pos c with z | z
  · exact z
  · rw [h, show (nI c - (1 : Int32)) = nI (c - 1) from pk_sub (a := c) (b := 1) z] at h2
    exact absurd h2 (nI_pos (by omega))
theorem dn_1 {c : Nat} {kv : Int32} (h : kv = nI c - 1) (h2 : ¬ kv < 0) : 1 ≤ c ∧ kv = nI (c - 1) := by
  rcases Nat.eq_zero_or_pos c with z | z
  · subst z
    exact absurd (by rw [h]; decide) h2
  · exact ⟨z, by rw [h]; exact pk_sub (a := c) (b := 1) z⟩
theorem dn_s {c : Nat} {kv : Int32} (h : kv = nI (c - 1)) : kv + (-1 : Int32) = nI (c - 1) - 1 := by
  rw [h]; exact (Int32.sub_eq_add_neg _ _).symm
theorem and_pow {q k : Nat} : (q &&& 2 ^ k) = 0 ↔ q.testBit k = false := by
  constructor
  · intro h
    have : (q &&& 2 ^ k).testBit k = false := by rw [h]; simp
    rw [Nat.testBit_and, Nat.testBit_two_pow_self, Bool.and_true] at this
    exact this
  · intro h
    apply Nat.eq_of_testBit_eq
    intro i
    rw [Nat.testBit_and, Nat.testBit_two_pow, Nat.zero_testBit]
    by_cases e : k = i
    · subst e; rw [h]; rfl
    · rw [decide_eq_false e, Bool.and_false]
theorem and_pow_t {q k : Nat} (h : ¬ (q &&& 2 ^ k) = 0) : q.testBit k = true := by
  cases hb : q.testBit k
  · exact absurd (and_pow.mpr hb) h
  · rfl
theorem xor_pow_lt {q k n : Nat} (h : q < 2 ^ n) (hk : k < n) : (q ^^^ 2 ^ k) < 2 ^ n := Nat.xor_lt_two_pow h (Nat.pow_lt_pow_right (by decide) hk)
theorem or_pow_lt {q k n : Nat} (h : q < 2 ^ n) (hk : k < n) : (q ||| 2 ^ k) < 2 ^ n := Nat.or_lt_two_pow h (Nat.pow_lt_pow_right (by decide) hk)
/-- one pass of the first rules -/
def apF (prem concl : Nat → Nat) : Nat → Nat → Nat
  | 0, g => g
  | i + 1, g => if sN (prem i) (apF prem concl i g) = true then apF prem concl i g ||| concl i else apF prem concl i g
/-- up to f passes -/
def lkF (prem concl : Nat → Nat) (L : Nat) : Nat → Nat → Nat
  | 0, g => g
  | f + 1, g => if apF prem concl L g = g then g else lkF prem concl L f (apF prem concl L g)
theorem apF_lt {prem concl : Nat → Nat} {n g : Nat} (hg : g < 2 ^ n) : ∀ i, (∀ j, j < i → concl j < 2 ^ n) → apF prem concl i g < 2 ^ n
  | 0, _ => hg
  | i + 1, h => by
    have ih := apF_lt (prem := prem) hg i (fun j hj => h j (by omega))
    unfold apF
    split
    · exact Nat.or_lt_two_pow ih (h i (by omega))
    · exact ih
theorem ix_in {x : Int32} {z N : Nat} (hz : z ≤ N) (hN : z < 2 ^ 31) (h1 : ¬ x < 0) (h2 : ¬ nI z ≤ x) : vp_in x N := by
  obtain ⟨j, hj, rfl⟩ := nI_of h1
  have : j < z := Nat.lt_of_not_le (fun h => h2 ((nI_leI hN hj).mpr h))
  rw [vp_in_iff, nI_toInt hj]
  omega
