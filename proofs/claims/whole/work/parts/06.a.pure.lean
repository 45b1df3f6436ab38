/-! closures -/
theorem com_bit (r : Nat → Nat) (n e i : Nat) : ∀ k, (com r n e k).testBit i = true ↔ i < n ∧ ∀ j, j < k → e.testBit j = true → (r j).testBit i = true
  | 0 => by
    unfold com
    rw [Nat.testBit_two_pow_sub_one, decide_eq_true_iff]
    exact ⟨fun h => ⟨h, fun j hj => absurd hj (Nat.not_lt_zero _)⟩, fun h => h.1⟩
  | k + 1 => by
    have ih := com_bit r n e i k
    unfold com
    by_cases h : e.testBit k = true
    · rw [if_pos h, Nat.testBit_and, Bool.and_eq_true, ih]
      constructor
      · intro ⟨⟨h1, h2⟩, h3⟩
        refine ⟨h1, fun j hj he => ?_⟩
        by_cases e' : j = k
        · rw [e']; exact h3
        · exact h2 j (by omega) he
      · intro ⟨h1, h2⟩
        exact ⟨⟨h1, fun j hj => h2 j (by omega)⟩, h2 k (by omega) h⟩
    · rw [if_neg h, ih]
      constructor
      · intro ⟨h1, h2⟩
        refine ⟨h1, fun j hj he => ?_⟩
        by_cases e' : j = k
        · rw [e'] at he; exact absurd he h
        · exact h2 j (by omega) he
      · intro ⟨h1, h2⟩
        exact ⟨h1, fun j hj => h2 j (by omega)⟩
theorem clo_bit {r : Nat → Nat} {n o q i : Nat} : (clo r n o q).testBit i = true ↔ i < n ∧ ∀ j, j < o → sN q (r j) = true → (r j).testBit i = true := by
  unfold clo
  rw [com_bit]
  constructor
  · intro ⟨h1, h2⟩
    refine ⟨h1, fun j hj hs => h2 j hj ?_⟩
    rw [ext_bit, decide_eq_true hj, hs]; rfl
  · intro ⟨h1, h2⟩
    refine ⟨h1, fun j hj he => h2 j hj ?_⟩
    rw [ext_bit, Bool.and_eq_true] at he; exact he.2
theorem bit_lt {q n i : Nat} (hq : q < 2 ^ n) (h : q.testBit i = true) : i < n := by
  rcases Nat.lt_or_ge i n with z | z
  · exact z
  · rw [Nat.testBit_lt_two_pow (Nat.lt_of_lt_of_le hq (Nat.pow_le_pow_right (by decide) z))] at h; cases h
theorem clo_ext {r : Nat → Nat} {n o q : Nat} (hq : q < 2 ^ n) : sN q (clo r n o q) = true := sN_bit.mpr (fun i hi => clo_bit.mpr ⟨bit_lt hq hi, fun j _ hs => sN_bit.mp hs i hi⟩)
theorem clo_mono {r : Nat → Nat} {n o a b : Nat} (h : sN a b = true) : sN (clo r n o a) (clo r n o b) = true := sN_bit.mpr (fun i hi => by
  rw [clo_bit] at hi ⊢
  exact ⟨hi.1, fun j hj hs => hi.2 j hj (sN_trans h hs)⟩)
theorem clo_row {r : Nat → Nat} {n o q j : Nat} (hj : j < o) (h : sN q (r j) = true) : sN (clo r n o q) (r j) = true := sN_bit.mpr (fun _ hi => (clo_bit.mp hi).2 j hj h)
theorem sN_anti {a b : Nat} (h1 : sN a b = true) (h2 : sN b a = true) : a = b := Nat.le_antisymm (sN_le h1) (sN_le h2)
theorem clo_idem {r : Nat → Nat} {n o q : Nat} : clo r n o (clo r n o q) = clo r n o q := by
  apply sN_anti
  · exact sN_bit.mpr (fun i hi => by
      rw [clo_bit] at hi ⊢
      exact ⟨hi.1, fun j hj hs => hi.2 j hj (clo_row hj hs)⟩)
  · exact clo_ext (clo_lt _ _ _ _)
theorem clo_0 (r : Nat → Nat) (n q : Nat) : clo r n 0 q = 2 ^ n - 1 := rfl
theorem clo_s {r : Nat → Nat} {n k q : Nat} : clo r n (k + 1) q = if sN q (r k) = true then clo r n k q &&& r k else clo r n k q := by
  rw [← cl2_clo, ← cl2_clo]; rfl
/-- one row more: the closed sets are the old ones and their common parts with it -/
theorem clo_more {r : Nat → Nat} {n k q : Nat} (hq : q < 2 ^ n) : clo r n (k + 1) q = q ↔ clo r n k q = q ∨ ∃ p, p < 2 ^ n ∧ clo r n k p = p ∧ (p &&& r k) = q := by
  rw [clo_s]
  constructor
  · intro h
    split at h
    · exact Or.inr ⟨clo r n k q, clo_lt _ _ _ _, clo_idem, h⟩
    · exact Or.inl h
  · intro h
    rcases h with h | ⟨p, hp, hc, e⟩
    · split
      · rename_i hs; rw [h]; exact sN_iff.mp hs
      · exact h
    · have hs : sN q (r k) = true := by rw [← e]; exact sN_and _ _
      rw [if_pos hs]
      apply sN_anti
      · have h1 : sN (clo r n k q) p = true := by
          have := clo_mono (r := r) (n := n) (o := k) (show sN q p = true by rw [← e]; exact sN_and_l _ _)
          rw [hc] at this; exact this
        rw [← e]
        exact sN_bit.mpr (fun i hi => by
          rw [Nat.testBit_and, Bool.and_eq_true] at hi ⊢
          have h2 := sN_bit.mp h1 i
          rw [e] at hi
          exact ⟨h2 hi.1, hi.2⟩)
      · exact sN_bit.mpr (fun i hi => by
          rw [Nat.testBit_and, Bool.and_eq_true]
          exact ⟨sN_bit.mp (clo_ext hq) i hi, sN_bit.mp hs i hi⟩)
theorem clo_congr {r r' : Nat → Nat} {n : Nat} : ∀ {k q : Nat}, (∀ j, j < k → r j = r' j) → clo r n k q = clo r' n k q
  | 0, _, _ => rfl
  | k + 1, q, h => by
    rw [clo_s, clo_s, clo_congr (fun j hj => h j (by omega)), h k (by omega)]
theorem clo_up {r : Nat → Nat} {n k w q : Nat} : clo (va_up r k w) n k q = clo r n k q := clo_congr (fun j hj => va_up_ne _ _ (by omega))
/-- what meets a row stays closed -/
theorem clo_meet {r : Nat → Nat} {n o q k : Nat} (hq : q < 2 ^ n) (hc : clo r n o q = q) (hk : k < o) : clo r n o (q &&& r k) = (q &&& r k) := by
  apply sN_anti
  · have h1 : sN (clo r n o (q &&& r k)) q = true := by
      have := clo_mono (r := r) (n := n) (o := o) (sN_and_l q (r k))
      rw [hc] at this; exact this
    have h2 : sN (clo r n o (q &&& r k)) (r k) = true := clo_row hk (sN_and _ _)
    exact sN_bit.mpr (fun i hi => by rw [Nat.testBit_and, Bool.and_eq_true]; exact ⟨sN_bit.mp h1 i hi, sN_bit.mp h2 i hi⟩)
  · exact clo_ext (Nat.lt_of_le_of_lt Nat.and_le_left hq)
/-- a closed part of a closed set lies in its common part with some row, if it is not all of it -/
theorem clo_below {r : Nat → Nat} {n o c d : Nat} (hc : c < 2 ^ n) (hd : clo r n o d = d) (hs : sN d c = true) (hne : ¬ d = c) : ∃ k, k < o ∧ sN d (c &&& r k) = true ∧ ¬ (c &&& r k) = c := by
  apply Classical.byContradiction
  intro hn
  apply hne
  apply sN_anti hs
  rw [← hd]
  exact sN_bit.mpr (fun i hi => clo_bit.mpr ⟨bit_lt hc hi, fun j hj hsj => by
    apply Classical.byContradiction
    intro hb
    apply hn
    refine ⟨j, hj, sN_bit.mpr (fun l hl => by rw [Nat.testBit_and, Bool.and_eq_true]; exact ⟨sN_bit.mp hs l hl, sN_bit.mp hsj l hl⟩), fun e => ?_⟩
    have : (c &&& r j).testBit i = c.testBit i := by rw [e]
    rw [Nat.testBit_and, hi, Bool.true_and] at this
    exact hb this⟩)
theorem lfS_max {r lv : Nat → Nat} {q M : Nat} : ∀ {k : Nat}, lfS r lv q k ≤ M ↔ ∀ j, j < k → ¬ (q &&& r j) = q → lv (q &&& r j) + 1 ≤ M
  | 0 => ⟨fun _ j h => absurd h (Nat.not_lt_zero _), fun _ => Nat.zero_le _⟩
  | k + 1 => by
    have ih := lfS_max (r := r) (lv := lv) (q := q) (M := M) (k := k)
    unfold lfS
    constructor
    · intro h j hj hne
      by_cases e : j = k
      · subst e
        rw [if_neg hne] at h
        split at h <;> omega
      · have h2 : lfS r lv q k ≤ M := by
          split at h
          · exact h
          · split at h <;> omega
        exact ih.mp h2 j (by omega) hne
    · intro h
      have h1 := ih.mpr (fun j hj => h j (by omega))
      split
      · exact h1
      · rename_i hne
        have h2 := h k (by omega) hne
        split <;> omega
theorem LV_le_of {r : Nat → Nat} {n o c d : Nat} (hd : clo r n o d = d) (hs : sN d c = true) (hne : ¬ d = c) : LV r n o d + 1 ≤ LV r n o c := by
  have hlt : d < c := by have := sN_le hs; omega
  have := mxr_le.mp (Nat.le_of_eq (LV_eq r n o c).symm) d hlt
  rw [if_pos ⟨hd, hs⟩] at this
  exact this
/-- the level by the rows -/
theorem LV_rows {r : Nat → Nat} {n o q : Nat} (hq : q < 2 ^ n) (hc : clo r n o q = q) : LV r n o q = lfS r (LV r n o) q o := by
  apply Nat.le_antisymm
  · rw [LV_eq, mxr_le]
    intro d hd
    split
    · rename_i h
      obtain ⟨k, hk, h1, h2⟩ := clo_below hq h.1 h.2 (by omega)
      have h3 := lfS_max.mp (Nat.le_refl (lfS r (LV r n o) q o)) k hk h2
      by_cases e : d = (q &&& r k)
      · rw [e]; exact h3
      · have h4 := LV_le_of h.1 h1 e
        omega
    · exact Nat.zero_le _
  · rw [lfS_max]
    intro j hj hne
    exact LV_le_of (clo_meet hq hc hj) (sN_and_l _ _) hne
/-! counting: the list and the marks -/
theorem cnt_sum {f : Nat → Bool} : ∀ m, cnt f (2 * m) = cnt (fun i => f (2 * i)) m + cnt (fun i => f (2 * i + 1)) m
  | 0 => rfl
  | m + 1 => by
    rw [show 2 * (m + 1) = (2 * m + 1) + 1 by omega]
    unfold cnt
    rw [show cnt f (2 * m + 1) = if f (2 * m) = true then cnt f (2 * m) + 1 else cnt f (2 * m) from rfl, cnt_sum m]
    split <;> split <;> omega
theorem cnt_s (f : Nat → Bool) (k : Nat) : cnt f (k + 1) = if f k = true then cnt f k + 1 else cnt f k := rfl
theorem cnt_add {f : Nat → Bool} (a : Nat) : ∀ b, cnt f (a + b) = cnt f a + cnt (fun i => f (a + i)) b
  | 0 => rfl
  | b + 1 => by
    rw [← Nat.add_assoc, cnt_s, cnt_s, cnt_add a b]
    split <;> omega
theorem tur_even (n q : Nat) : tur (n + 1) (2 * q) (n + 1) = tur n q n := by
  apply Nat.eq_of_testBit_eq; intro i
  rw [tur_bit, tur_bit]
  rcases Nat.lt_trichotomy i n with h | h | h
  · rw [decide_eq_true h, decide_eq_true (show i < n + 1 by omega), show n + 1 - 1 - i = (n - 1 - i) + 1 by omega, Nat.testBit_succ, Nat.mul_div_cancel_left q (by decide)]
  · subst h
    rw [show i + 1 - 1 - i = 0 by omega, Nat.testBit_zero, show 2 * q % 2 = 0 by omega]; simp
  · rw [decide_eq_false (show ¬ i < n + 1 by omega), decide_eq_false (show ¬ i < n by omega)]; rfl
theorem tur_odd (n q : Nat) : tur (n + 1) (2 * q + 1) (n + 1) = 2 ^ n + tur n q n := by
  rw [Nat.add_comm (2 ^ n), ← or_pow_add n (tur n q n) (Nat.testBit_lt_two_pow (tur_lt n q n))]
  apply Nat.eq_of_testBit_eq; intro i
  rw [Nat.testBit_or, tur_bit, tur_bit, Nat.testBit_two_pow]
  rcases Nat.lt_trichotomy i n with h | h | h
  · rw [decide_eq_true h, decide_eq_true (show i < n + 1 by omega), show n + 1 - 1 - i = (n - 1 - i) + 1 by omega, Nat.testBit_succ, show (2 * q + 1) / 2 = q by omega, decide_eq_false (show ¬ n = i by omega)]; simp
  · subst h
    rw [show i + 1 - 1 - i = 0 by omega, Nat.testBit_zero, show (2 * q + 1) % 2 = 1 by omega]; simp
  · rw [decide_eq_false (show ¬ i < n + 1 by omega), decide_eq_false (show ¬ i < n by omega), decide_eq_false (show ¬ n = i by omega)]; rfl
theorem cnt_tur (n : Nat) : ∀ (f : Nat → Bool), cnt (fun i => f (tur n i n)) (2 ^ n) = cnt f (2 ^ n) := by
  induction n with
  | zero => intro f; rfl
  | succ n ih =>
    intro f
    have e : (2 : Nat) ^ (n + 1) = 2 * 2 ^ n := by rw [Nat.pow_succ, Nat.mul_comm]
    rw [e, cnt_sum]
    rw [show (fun i => (fun i => f (tur (n + 1) i (n + 1))) (2 * i)) = fun i => f (tur n i n) from funext (fun i => by show f (tur (n + 1) (2 * i) (n + 1)) = _; rw [tur_even])]
    rw [show (fun i => (fun i => f (tur (n + 1) i (n + 1))) (2 * i + 1)) = fun i => (fun j => f (2 ^ n + j)) (tur n i n) from funext (fun i => by show f (tur (n + 1) (2 * i + 1) (n + 1)) = _; rw [tur_odd])]
    rw [ih f, ih (fun j => f (2 ^ n + j)), show 2 * 2 ^ n = 2 ^ n + 2 ^ n by omega, cnt_add]
theorem BLp_cnt {ip : Nat → Bool} {n : Nat} : ∀ p, (BLp ip n p).length = cnt (fun i => ip (tur n i n)) p
  | 0 => rfl
  | p + 1 => by
    have ih := BLp_cnt (ip := ip) (n := n) p
    unfold BLp cnt
    by_cases h : ip (tur n p n) = true
    · rw [if_pos h, if_pos h, List.length_append, ih]; rfl
    · rw [if_neg h, if_neg h, ih]
theorem BL_cnt (ip : Nat → Bool) (n : Nat) : (BLp ip n (2 ^ n)).length = cnt ip (2 ^ n) := by rw [BLp_cnt, cnt_tur n ip]
theorem CLp_BLp {r : Nat → Nat} {n o : Nat} {ip : Nat → Bool} (h : ∀ q, q < 2 ^ n → (ip q = true ↔ clo r n o q = q)) : ∀ p, CLp r n o p = BLp ip n p
  | 0 => rfl
  | p + 1 => by
    unfold CLp BLp
    rw [CLp_BLp h p]
    by_cases hc : clo r n o (tur n p n) = tur n p n
    · rw [if_pos hc, if_pos ((h _ (tur_lt n p n)).mpr hc)]
    · rw [if_neg hc, if_neg (fun z => hc ((h _ (tur_lt n p n)).mp z))]
theorem CL_size {r : Nat → Nat} {n o z : Nat} {g : Nat → Option Nat} {mem : Nat → Nat} (hf : FamOK n g mem z) (h : ∀ q, q < 2 ^ n → (gB g q = true ↔ clo r n o q = q)) : (CL r n o).length = z := by
  unfold CL
  rw [CLp_BLp h, BL_cnt, hf.1]
