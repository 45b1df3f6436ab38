/-! the class: Family -/
def lvO : Option Nat → Int32
  | none => -1
  | some v => nI v
theorem up_lvO (f : Nat → Option Nat) (k : Nat) (v : Option Nat) : upd (fun i_ => lvO (f i_)) k (lvO v) = fun i_ => lvO (va_up f k v i_) := by
  funext j; unfold upd va_up; split <;> rfl
theorem lvO_none {x : Option Nat} (h : ∀ v, x = some v → v ≤ 4096) : lvO x = -1 ↔ x.isNone = true := by
  cases x with
  | none => exact ⟨fun _ => rfl, fun _ => rfl⟩
  | some v => exact ⟨fun z => absurd z (nI_ne1 (by have := h v rfl; omega)), fun z => by cases z⟩
def incS (g : Nat → Option Nat) (q sz : Nat) : Nat := if (g q).isNone = true then sz + 1 else sz
def incM (g : Nat → Option Nat) (q sz : Nat) (mem : Nat → Nat) : Nat → Nat := if (g q).isNone = true then va_up mem sz q else mem
def incG (g : Nat → Option Nat) (q : Nat) : Nat → Option Nat := if (g q).isNone = true then va_up g q (some 0) else g
def incA (g : Nat → Option Nat) (q : Nat) (ar : Bool) : Bool := if (g q).isNone = true then false else ar
def gB (g : Nat → Option Nat) (q : Nat) : Bool := (g q).isSome
theorem gB_n {g : Nat → Option Nat} {q : Nat} (h : (g q).isNone = true) : gB g q = false := by unfold gB; cases e : g q <;> simp_all
theorem gB_s {g : Nat → Option Nat} {q : Nat} (h : ¬ (g q).isNone = true) : gB g q = true := by unfold gB; cases e : g q <;> simp_all
/-- the place of the set behind place p -/
theorem tur_0 (n : Nat) : ∀ k, tur n 0 k = 0
  | 0 => rfl
  | k + 1 => by unfold tur; rw [Nat.zero_testBit, if_neg (by decide)]; exact tur_0 n k
theorem or_pow_add : ∀ (j p : Nat), p.testBit j = false → p ||| 2 ^ j = p + 2 ^ j
  | 0, p, h => by
    have h1 : p % 2 = 0 := by
      rw [Nat.testBit_zero, decide_eq_false_iff_not] at h
      omega
    have a := Nat.or_div_two (a := p) (b := 2 ^ 0)
    have b := Nat.or_mod_two_pow (a := p) (b := 2 ^ 0) (n := 1)
    rw [show p % 2 ^ 1 = 0 from h1, Nat.zero_or] at b
    have e1 : (2 : Nat) ^ 0 / 2 = 0 := by decide
    have e2 : (2 : Nat) ^ 0 % 2 ^ 1 = 1 := by decide
    rw [e1, Nat.or_zero] at a
    rw [e2] at b
    have e3 : (2 : Nat) ^ 0 = 1 := by decide
    have e4 : (2 : Nat) ^ 1 = 2 := by decide
    rw [e3] at a b ⊢
    rw [e4] at b
    omega
  | j + 1, p, h => by
    have h1 : (p / 2).testBit j = false := by rw [Nat.testBit_div_two]; exact h
    have ih := or_pow_add j (p / 2) h1
    have a := Nat.or_div_two (a := p) (b := 2 ^ (j + 1))
    have b := Nat.or_mod_two_pow (a := p) (b := 2 ^ (j + 1)) (n := 1)
    have e1 : (2 : Nat) ^ (j + 1) = 2 * 2 ^ j := by rw [Nat.pow_succ, Nat.mul_comm]
    have e2 : (2 : Nat) ^ (j + 1) / 2 = 2 ^ j := by omega
    have e3 : (2 : Nat) ^ (j + 1) % 2 ^ 1 = 0 := by rw [Nat.pow_one]; omega
    rw [e2, ih] at a
    rw [e3, Nat.or_zero] at b
    have e4 : (2 : Nat) ^ 1 = 2 := by decide
    rw [e4] at b
    omega
theorem xor_pow_bit {p j i : Nat} : (p ^^^ 2 ^ j).testBit i = (p.testBit i ^^ decide (j = i)) := by rw [Nat.testBit_xor, Nat.testBit_two_pow]
theorem xor_pow_add {p j : Nat} (h : p.testBit j = true) : (p ^^^ 2 ^ j) + 2 ^ j = p := by
  have h1 : (p ^^^ 2 ^ j).testBit j = false := by rw [xor_pow_bit, h, decide_eq_true rfl]; rfl
  rw [← or_pow_add j _ h1]
  apply Nat.eq_of_testBit_eq
  intro i
  rw [Nat.testBit_or, xor_pow_bit, Nat.testBit_two_pow]
  by_cases e : j = i
  · subst e; rw [h]; simp
  · rw [decide_eq_false e]; simp
theorem tur_or {n p c : Nat} (hc : c < n) : tur n p n ||| 2 ^ c = tur n (p ||| 2 ^ (n - 1 - c)) n := by
  apply Nat.eq_of_testBit_eq
  intro i
  rw [Nat.testBit_or, tur_bit, tur_bit, Nat.testBit_or, Nat.testBit_two_pow, Nat.testBit_two_pow]
  by_cases hi : i < n
  · rw [decide_eq_true hi, Bool.true_and, Bool.true_and]
    congr 1
    by_cases h2 : c = i
    · subst h2; simp
    · rw [decide_eq_false h2, decide_eq_false (by omega)]
  · rw [decide_eq_false hi, decide_eq_false (show ¬ c = i by omega)]; rfl
theorem tur_xor {n p c : Nat} (hc : c < n) : tur n p n ^^^ 2 ^ c = tur n (p ^^^ 2 ^ (n - 1 - c)) n := by
  apply Nat.eq_of_testBit_eq
  intro i
  rw [Nat.testBit_xor, tur_bit, tur_bit, Nat.testBit_xor, Nat.testBit_two_pow, Nat.testBit_two_pow]
  by_cases hi : i < n
  · rw [decide_eq_true hi, Bool.true_and, Bool.true_and]
    congr 1
    by_cases h2 : c = i
    · subst h2; simp
    · rw [decide_eq_false h2, decide_eq_false (by omega)]
  · rw [decide_eq_false hi, decide_eq_false (show ¬ c = i by omega)]; rfl
theorem rb_gen (n : Nat) : ∀ c, c ≤ n → ∀ p, p < 2 ^ n → p % 2 ^ (n - c) = 0 → rbF c (tur n p n) = if p + 2 ^ (n - c) < 2 ^ n then nI (tur n (p + 2 ^ (n - c)) n) else -1
  | 0, _, p, hp, _ => by
    rw [rbF, if_neg (by rw [Nat.sub_zero]; omega)]
  | c + 1, hc, p, hp, hz => by
    have e0 : n - (c + 1) = n - 1 - c := by omega
    rw [e0] at hz ⊢
    have e1 : n - c = (n - 1 - c) + 1 := by omega
    generalize hj : n - 1 - c = j at hz ⊢ e1
    have hb : (tur n p n).testBit c = p.testBit j := by rw [tur_bit, decide_eq_true (show c < n by omega), Bool.true_and, hj]
    have e2 : (2 : Nat) ^ (j + 1) = 2 * 2 ^ j := by rw [Nat.pow_succ, Nat.mul_comm]
    unfold rbF
    rw [hb]
    by_cases h : p.testBit j = true
    · rw [if_pos h, tur_xor (by omega), hj]
      have hx := xor_pow_add h
      have hm : (p ^^^ 2 ^ j) % 2 ^ (n - c) = 0 := by
        rw [e1, e2]
        rw [Nat.testBit_eq_decide_div_mod_eq, decide_eq_true_iff] at h
        have hd := Nat.div_add_mod p (2 ^ j)
        rw [hz, Nat.add_zero] at hd
        have hd2 := Nat.div_add_mod (p / 2 ^ j) 2
        rw [h] at hd2
        have hq : (p ^^^ 2 ^ j) = (2 * 2 ^ j) * (p / 2 ^ j / 2) := by
          have h3 : p = 2 ^ j * (2 * (p / 2 ^ j / 2) + 1) := by rw [hd2]; exact hd.symm
          have h4 : 2 ^ j * (2 * (p / 2 ^ j / 2) + 1) = (2 * 2 ^ j) * (p / 2 ^ j / 2) + 2 ^ j := by
            rw [Nat.mul_add, Nat.mul_one, ← Nat.mul_assoc, Nat.mul_comm (2 ^ j) 2]
          rw [h4] at h3
          omega
        rw [hq, Nat.mul_mod_right]
      rw [rb_gen n c (by omega) _ (by omega) hm, e1, e2]
      rw [show (p ^^^ 2 ^ j) + 2 * 2 ^ j = p + 2 ^ j by omega]
    · have h' : p.testBit j = false := by simpa using h
      rw [if_neg h, tur_or (by omega), hj, or_pow_add j p h']
      have hl : p + 2 ^ j < 2 ^ n := by
        rw [← or_pow_add j p h']
        exact Nat.or_lt_two_pow hp (Nat.pow_lt_pow_right (by decide) (by omega))
      rw [if_pos hl]
theorem rb_next {n p : Nat} (hp : p < 2 ^ n) : rbF n (tur n p n) = if p + 1 < 2 ^ n then nI (tur n (p + 1) n) else -1 := by
  have h := rb_gen n n (Nat.le_refl _) p hp (by rw [Nat.sub_self, Nat.pow_zero, Nat.mod_one])
  rw [Nat.sub_self, Nat.pow_zero] at h
  exact h
