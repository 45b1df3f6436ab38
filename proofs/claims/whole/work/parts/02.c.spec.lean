/-! lists in arrays; the closed sets in order; levels; premises -/
def lstAt (c : Nat → Nat) (L : List Nat) : Prop := ∀ j, j < L.length → c j = L.getD j 0
theorem lstAt_0 (c : Nat → Nat) : lstAt c [] := fun j h => absurd h (Nat.not_lt_zero _)
theorem lstAt_push {c : Nat → Nat} {L : List Nat} {x : Nat} (h : lstAt c L) : lstAt (va_up c L.length x) (L ++ [x]) := by
  intro j hj
  rw [List.length_append] at hj
  have hj : j < L.length + 1 := hj
  by_cases h1 : j = L.length
  · subst h1; rw [va_up_self]; simp
  · have h2 : j < L.length := by omega
    rw [va_up_ne _ _ h1, h j h2]
    simp [List.getElem?_append_left h2]
theorem lstAt_mem {c : Nat → Nat} {L : List Nat} (h : lstAt c L) {j : Nat} (hj : j < L.length) : c j ∈ L := by
  rw [h j hj]; simp [List.getElem?_eq_getElem hj]
def CLp (r : Nat → Nat) (n o : Nat) : Nat → List Nat
  | 0 => []
  | p + 1 => if clo r n o (tur n p n) = tur n p n then CLp r n o p ++ [tur n p n] else CLp r n o p
theorem CLp_len (r : Nat → Nat) (n o : Nat) : ∀ p, (CLp r n o p).length ≤ p
  | 0 => Nat.le_refl _
  | p + 1 => by
    have h := CLp_len r n o p
    unfold CLp
    split
    · rw [List.length_append]; exact Nat.succ_le_succ h
    · omega
def BLp (ip : Nat → Bool) (n : Nat) : Nat → List Nat
  | 0 => []
  | p + 1 => if ip (tur n p n) = true then BLp ip n p ++ [tur n p n] else BLp ip n p
theorem BLp_len (ip : Nat → Bool) (n : Nat) : ∀ p, (BLp ip n p).length ≤ p
  | 0 => Nat.le_refl _
  | p + 1 => by
    have h := BLp_len ip n p
    unfold BLp
    split
    · rw [List.length_append]; exact Nat.succ_le_succ h
    · omega
theorem BLp_lt (ip : Nat → Bool) (n : Nat) : ∀ p x, x ∈ BLp ip n p → x < 2 ^ n
  | 0, x => fun h => absurd h List.not_mem_nil
  | p + 1, x => by
    unfold BLp
    split
    · intro h
      rcases List.mem_append.mp h with h | h
      · exact BLp_lt ip n p x h
      · rw [List.mem_singleton.mp h]; exact tur_lt n p n
    · exact BLp_lt ip n p x
theorem CLp_lt (r : Nat → Nat) (n o : Nat) : ∀ p x, x ∈ CLp r n o p → x < 2 ^ n
  | 0, x => fun h => absurd h List.not_mem_nil
  | p + 1, x => by
    unfold CLp
    split
    · intro h
      rcases List.mem_append.mp h with h | h
      · exact CLp_lt r n o p x h
      · rw [List.mem_singleton.mp h]; exact tur_lt n p n
    · exact CLp_lt r n o p x
/-- the level of place i by the levels of the other ones, up to place j -/
def mlv (conc lv : Nat → Nat) (i : Nat) : Nat → Nat
  | 0 => 0
  | j + 1 => if ¬ j = i ∧ sN (conc j) (conc i) = true ∧ mlv conc lv i j < lv (conc j) + 1 then lv (conc j) + 1 else mlv conc lv i j
theorem mlv_le {conc lv : Nat → Nat} {i M : Nat} (h : ∀ q, lv q ≤ M) : ∀ j, mlv conc lv i j ≤ M + 1
  | 0 => Nat.zero_le _
  | j + 1 => by
    unfold mlv
    split
    · exact Nat.succ_le_succ (h _)
    · exact mlv_le h j
/-- a submask is a part, and the next one below x is (x - 1) & q -/
theorem sN_iff {a b : Nat} : sN a b = true ↔ a &&& b = a := by unfold sN; exact beq_iff_eq
theorem sN_bit {a b : Nat} : sN a b = true ↔ ∀ i, a.testBit i = true → b.testBit i = true := by
  rw [sN_iff]
  constructor
  · intro h i hi
    have h1 : (a &&& b).testBit i = a.testBit i := by rw [h]
    rw [Nat.testBit_and, hi] at h1
    simpa using h1
  · intro h
    apply Nat.eq_of_testBit_eq
    intro i
    rw [Nat.testBit_and]
    cases ha : a.testBit i
    · rfl
    · rw [h i ha]; rfl
theorem sN_le {a b : Nat} (h : sN a b = true) : a ≤ b := by rw [← sN_iff.mp h]; exact Nat.and_le_right
theorem sN_refl (a : Nat) : sN a a = true := sN_iff.mpr (Nat.and_self a)
theorem sN_trans {a b c : Nat} (h1 : sN a b = true) (h2 : sN b c = true) : sN a c = true := sN_bit.mpr (fun i h => sN_bit.mp h2 i (sN_bit.mp h1 i h))
theorem sN_and (a b : Nat) : sN (a &&& b) b = true := sN_bit.mpr (fun i h => by rw [Nat.testBit_and] at h; simp at h; exact h.2)
theorem and_div (x q : Nat) : (x &&& q) / 2 = x / 2 &&& q / 2 := by
  apply Nat.eq_of_testBit_eq; intro i
  rw [Nat.testBit_div_two, Nat.testBit_and, Nat.testBit_and, Nat.testBit_div_two, Nat.testBit_div_two]
theorem and_mod (x q : Nat) : (x &&& q) % 2 = (x % 2) * (q % 2) := by
  have h : ((x &&& q) % 2 = 1 ↔ x % 2 = 1 ∧ q % 2 = 1) := by
    have e := Nat.testBit_and x q 0
    simp only [Nat.testBit_zero] at e
    rw [← decide_eq_true_iff (p := (x &&& q) % 2 = 1), e, Bool.and_eq_true, decide_eq_true_iff, decide_eq_true_iff]
  have h1 := Nat.mod_two_eq_zero_or_one x
  have h2 := Nat.mod_two_eq_zero_or_one q
  have h3 := Nat.mod_two_eq_zero_or_one (x &&& q)
  rcases h1 with h1 | h1 <;> rcases h2 with h2 | h2 <;> rcases h3 with h3 | h3 <;> simp [h1, h2, h3] at h ⊢
theorem sm_next : ∀ (f x p q : Nat), x < f → x &&& q = x → p &&& q = p → p < x → p ≤ (x - 1) &&& q
  | 0, _, _, _, h, _, _, _ => absurd h (Nat.not_lt_zero _)
  | f + 1, x, p, q, hf, hx, hp, hl => by
    have hx2 : x / 2 &&& q / 2 = x / 2 := by rw [← and_div, hx]
    have hp2 : p / 2 &&& q / 2 = p / 2 := by rw [← and_div, hp]
    have hpm := and_mod p q
    rw [hp] at hpm
    have hd := and_div (x - 1) q
    have hm := and_mod (x - 1) q
    by_cases ho : x % 2 = 1
    · have e : (x - 1) / 2 = x / 2 := by omega
      rw [e, hx2] at hd
      omega
    · have e : (x - 1) / 2 = x / 2 - 1 := by omega
      have e2 : (x - 1) % 2 = 1 := by omega
      have h1 := sm_next f (x / 2) (p / 2) (q / 2) (by omega) hx2 hp2 (by omega)
      rw [e] at hd
      rw [e2, Nat.one_mul] at hm
      have hq2 := Nat.mod_two_eq_zero_or_one q
      rcases hq2 with z | z
      · rw [z, Nat.mul_zero] at hpm; omega
      · omega
/-- all parts p < q of q that are premises have their closures in q -/
def kpP (r : Nat → Nat) (n o : Nat) (ip : Nat → Bool) (q : Nat) : Bool := decide (∀ p, p < q → sN p q = true → ip p = true → sN (clo r n o p) q = true)
