/-! bits: Int32 by nI, sets as Nats -/
theorem b_bits {x y : Int32} (h : ∀ i, i < 32 → x.toBitVec.getLsbD i = y.toBitVec.getLsbD i) : x = y := Int32.toBitVec_inj.mp (BitVec.eq_of_getLsbD_eq (fun i hi => h i hi))
theorem nx_and (a b : Nat) : nI a &&& nI b = nI (a &&& b) := by
  apply Int32.toBitVec_inj.1
  show BitVec.ofNat 32 a &&& BitVec.ofNat 32 b = BitVec.ofNat 32 (a &&& b)
  apply BitVec.eq_of_getLsbD_eq
  intro i hi
  simp [hi]
theorem nx_or (a b : Nat) : nI a ||| nI b = nI (a ||| b) := by
  apply Int32.toBitVec_inj.1
  show BitVec.ofNat 32 a ||| BitVec.ofNat 32 b = BitVec.ofNat 32 (a ||| b)
  apply BitVec.eq_of_getLsbD_eq
  intro i hi
  simp [hi]
theorem nx_xor (a b : Nat) : nI a ^^^ nI b = nI (a ^^^ b) := by
  apply Int32.toBitVec_inj.1
  show BitVec.ofNat 32 a ^^^ BitVec.ofNat 32 b = BitVec.ofNat 32 (a ^^^ b)
  apply BitVec.eq_of_getLsbD_eq
  intro i hi
  simp [hi]
theorem nx_sh1 {k : Nat} (h : k < 31) : (1 : Int32) <<< (nI k &&& 31) = nI (2 ^ k) := (by decide +kernel : ∀ k, k < 31 → (1 : Int32) <<< (nI k &&& 31) = nI (2 ^ k)) k h
theorem nx_sl : ∀ n, n < 32 → ((nI n &&& 31).toBitVec.smod 32).toNat = n := by decide +kernel
theorem nx_shr {q k : Nat} (hq : q < 2 ^ 31) (hk : k < 32) : nI q >>> (nI k &&& 31) = nI (q / 2 ^ k) := pk_shrN hq _ k (nx_sl k hk)
theorem nx_iff (x y : Int32) : x &&& (y ^^^ (-1)) = 0 ↔ x &&& y = x := by
  have hm : ∀ i, i < 32 → (-1 : Int32).toBitVec.getLsbD i = true := by decide +kernel
  have hz : ∀ i, (0 : Int32).toBitVec.getLsbD i = false := fun i => BitVec.getLsbD_zero
  constructor
  · intro h
    apply b_bits
    intro i hi
    have h1 : (x &&& (y ^^^ (-1))).toBitVec.getLsbD i = (0 : Int32).toBitVec.getLsbD i := by rw [h]
    rw [Int32.toBitVec_and, Int32.toBitVec_xor, BitVec.getLsbD_and, BitVec.getLsbD_xor, hm i hi, hz i] at h1
    rw [Int32.toBitVec_and, BitVec.getLsbD_and]
    revert h1
    cases x.toBitVec.getLsbD i <;> cases y.toBitVec.getLsbD i <;> simp
  · intro h
    apply b_bits
    intro i hi
    have h1 : (x &&& y).toBitVec.getLsbD i = x.toBitVec.getLsbD i := by rw [h]
    rw [Int32.toBitVec_and, BitVec.getLsbD_and] at h1
    rw [Int32.toBitVec_and, Int32.toBitVec_xor, BitVec.getLsbD_and, BitVec.getLsbD_xor, hm i hi, hz i]
    revert h1
    cases x.toBitVec.getLsbD i <;> cases y.toBitVec.getLsbD i <;> simp
/-- a is a part of b -/
def sN (a b : Nat) : Bool := (a &&& b) == a
theorem sb_nI {a b : Nat} (ha : a < 2 ^ 31) : sb (nI a) (nI b) = sN a b := by
  unfold sb sN
  have h : (nI a &&& (nI b ^^^ (-1)) = 0) ↔ (a &&& b) = a := by
    rw [nx_iff, nx_and, nI_eq (Nat.lt_of_le_of_lt Nat.and_le_left ha) ha]
  by_cases h2 : (a &&& b) = a
  · rw [decide_eq_true (h.mpr h2)]; simp [h2]
  · rw [decide_eq_false (fun z => h2 (h.mp z))]; simp [h2]
theorem sb_1 {a b : Int32} (h : a &&& (b ^^^ (-1)) = 0) : (1 : Int32) = b2 (sb a b) := by
  have e : sb a b = true := decide_eq_true h
  rw [e]; rfl
theorem sb_0 {a b : Int32} (h : ¬ a &&& (b ^^^ (-1)) = 0) : (0 : Int32) = b2 (sb a b) := by
  have e : sb a b = false := decide_eq_false h
  rw [e]; rfl
theorem up_nI (f : Nat → Nat) (k v : Nat) : upd (fun i_ => nI (f i_)) k (nI v) = fun i_ => nI (va_up f k v i_) := by
  funext j; unfold upd va_up; split <;> rfl
theorem up_b2 (f : Nat → Bool) (k : Nat) (v : Bool) : upd (fun i_ => b2 (f i_)) k (b2 v) = fun i_ => b2 (va_up f k v i_) := by
  funext j; unfold upd va_up; split <;> rfl
theorem nx_bit {q k : Nat} : (q / 2 ^ k &&& 1) = 1 ↔ q.testBit k = true := by
  rw [Nat.and_one_is_mod, Nat.testBit_eq_decide_div_mod_eq, decide_eq_true_iff]
theorem nx_all {n : Nat} (h : n < 31) : (nI (2 ^ n) : Int32) - 1 = nI (2 ^ n - 1) := pk_sub (a := 2 ^ n) (b := 1) Nat.one_le_two_pow
theorem p2_le {n : Nat} (h : n ≤ 12) : 2 ^ n ≤ 4096 := Nat.pow_le_pow_right (by decide) h
theorem p2_pos (n : Nat) : 1 ≤ 2 ^ n := Nat.one_le_two_pow
theorem p2_le20 {n : Nat} (h : n ≤ 20) : 2 ^ n ≤ 1048576 := Nat.pow_le_pow_right (by decide) h
/-! the reference's own numbers, as functions on Nats -/
def com (r : Nat → Nat) (n q : Nat) : Nat → Nat
  | 0 => 2 ^ n - 1
  | k + 1 => if q.testBit k = true then com r n q k &&& r k else com r n q k
def ext (r : Nat → Nat) (q : Nat) : Nat → Nat
  | 0 => 0
  | k + 1 => if sN q (r k) = true then ext r q k ||| 2 ^ k else ext r q k
def clo (r : Nat → Nat) (n o q : Nat) : Nat := com r n (ext r q o) o
def tur (n p : Nat) : Nat → Nat
  | 0 => 0
  | k + 1 => if p.testBit (n - 1 - k) = true then tur n p k ||| 2 ^ k else tur n p k
def bits (q : Nat) : Nat → Nat
  | 0 => 0
  | k + 1 => bits q k + (q / 2 ^ k &&& 1)
theorem com_le (r : Nat → Nat) (n q : Nat) : ∀ k, com r n q k ≤ 2 ^ n - 1
  | 0 => Nat.le_refl _
  | k + 1 => by
    unfold com
    split
    · exact Nat.le_trans Nat.and_le_left (com_le r n q k)
    · exact com_le r n q k
theorem com_lt (r : Nat → Nat) (n q k : Nat) : com r n q k < 2 ^ n := Nat.lt_of_le_of_lt (com_le r n q k) (Nat.sub_lt (Nat.two_pow_pos n) (by decide))
theorem ext_lt (r : Nat → Nat) (q : Nat) : ∀ k, ext r q k < 2 ^ k
  | 0 => by simp [ext]
  | k + 1 => by
    have h := ext_lt r q k
    unfold ext
    split
    · exact Nat.or_lt_two_pow (Nat.lt_of_lt_of_le h (Nat.pow_le_pow_right (by decide) (Nat.le_succ k))) (Nat.pow_lt_pow_right (by decide) (Nat.lt_succ_self k))
    · exact Nat.lt_of_lt_of_le h (Nat.pow_le_pow_right (by decide) (Nat.le_succ k))
theorem clo_lt (r : Nat → Nat) (n o q : Nat) : clo r n o q < 2 ^ n := com_lt _ _ _ _
theorem tur_lt (n p : Nat) : ∀ k, tur n p k < 2 ^ k
  | 0 => by simp [tur]
  | k + 1 => by
    have h := tur_lt n p k
    unfold tur
    split
    · exact Nat.or_lt_two_pow (Nat.lt_of_lt_of_le h (Nat.pow_le_pow_right (by decide) (Nat.le_succ k))) (Nat.pow_lt_pow_right (by decide) (Nat.lt_succ_self k))
    · exact Nat.lt_of_lt_of_le h (Nat.pow_le_pow_right (by decide) (Nat.le_succ k))
theorem bits_le (q : Nat) : ∀ k, bits q k ≤ k
  | 0 => Nat.le_refl _
  | k + 1 => by
    have h := bits_le q k
    have h2 : (q / 2 ^ k &&& 1) ≤ 1 := Nat.and_le_right
    unfold bits
    omega
theorem in_t {v lo hi : Nat} (h1 : lo ≤ v) (h2 : v ≤ hi) (h3 : hi < 2 ^ 31) : (decide (¬ nI v < nI lo) && decide (¬ nI hi < nI v)) = true := by
  rw [Bool.and_eq_true, decide_eq_true_iff, decide_eq_true_iff]
  exact ⟨nI_nlt h1 (by omega), nI_nlt h2 (by omega)⟩
/-- the rows behind the removal of row j, with the places below k moved -/
def rem_ (r : Nat → Nat) (j k : Nat) : Nat → Nat := fun i => if j ≤ i ∧ i < k then r (i + 1) else r i
theorem rem_0 (r : Nat → Nat) (j : Nat) : r = rem_ r j j := by
  funext i; unfold rem_; rw [if_neg (by omega)]
theorem rem_s (r : Nat → Nat) {j k : Nat} (h : j ≤ k) : va_up (rem_ r j k) k (rem_ r j k (k + 1)) = rem_ r j (k + 1) := by
  funext i; unfold va_up rem_
  by_cases h1 : i = k
  · subst h1; rw [if_pos rfl, if_neg (by omega), if_pos (by omega)]
  · rw [if_neg h1]
    by_cases h2 : j ≤ i ∧ i < k
    · rw [if_pos h2, if_pos (by omega)]
    · rw [if_neg h2, if_neg (by omega)]
def latI (a b : Int32) : Bool := decide (¬ (a ^^^ b) = 0) && decide (¬ ((a &&& (a ^^^ b)) &&& (-(a ^^^ b))) = 0)
/-- the first closed set behind q from place p on, f places -/
def nxF (r : Nat → Nat) (n o q : Nat) : Nat → Nat → Int32
  | 0, _ => -1
  | f + 1, p => if latI (nI (tur n p n)) (nI q) = true ∧ clo r n o (tur n p n) = tur n p n then nI (tur n p n) else nxF r n o q f (p + 1)
theorem nxF_n1 {r : Nat → Nat} {n o q f p : Nat} (h : latI (nI (tur n p n)) (nI q) = false) : nxF r n o q (f + 1) p = nxF r n o q f (p + 1) := by rw [nxF, if_neg (fun z => Bool.noConfusion (h.symm.trans z.1))]
theorem nxF_n2 {r : Nat → Nat} {n o q f p : Nat} (h : ¬ clo r n o (tur n p n) = tur n p n) : nxF r n o q (f + 1) p = nxF r n o q f (p + 1) := by rw [nxF, if_neg (fun z => h z.2)]
theorem nxF_y {r : Nat → Nat} {n o q f p : Nat} (h1 : latI (nI (tur n p n)) (nI q) = true) (h2 : clo r n o (tur n p n) = tur n p n) : nxF r n o q (f + 1) p = nI (tur n p n) := by rw [nxF, if_pos ⟨h1, h2⟩]
def nda (r : Nat → Nat) (o own : Nat) : Nat → Nat
  | 0 => 0
  | k + 1 => if ¬ ext r (2 ^ k) o = own ∧ sN own (ext r (2 ^ k) o) = true then nda r o own k ||| 2 ^ k else nda r o own k
def ndo (r : Nat → Nat) (own : Nat) : Nat → Nat
  | 0 => 0
  | k + 1 => if ¬ r k = own ∧ sN own (r k) = true then ndo r own k ||| 2 ^ k else ndo r own k
theorem nda_lt (r : Nat → Nat) (o own : Nat) : ∀ k, nda r o own k < 2 ^ k
  | 0 => by simp [nda]
  | k + 1 => by
    have h := nda_lt r o own k
    unfold nda
    split
    · exact Nat.or_lt_two_pow (Nat.lt_of_lt_of_le h (Nat.pow_le_pow_right (by decide) (Nat.le_succ k))) (Nat.pow_lt_pow_right (by decide) (Nat.lt_succ_self k))
    · exact Nat.lt_of_lt_of_le h (Nat.pow_le_pow_right (by decide) (Nat.le_succ k))
theorem ndo_lt (r : Nat → Nat) (own : Nat) : ∀ k, ndo r own k < 2 ^ k
  | 0 => by simp [ndo]
  | k + 1 => by
    have h := ndo_lt r own k
    unfold ndo
    split
    · exact Nat.or_lt_two_pow (Nat.lt_of_lt_of_le h (Nat.pow_le_pow_right (by decide) (Nat.le_succ k))) (Nat.pow_lt_pow_right (by decide) (Nat.lt_succ_self k))
    · exact Nat.lt_of_lt_of_le h (Nat.pow_le_pow_right (by decide) (Nat.le_succ k))
/-- q keeps the first ac rules -/
def kpB (aif ath : Nat → Nat) (ac q : Nat) : Bool := decide (∀ i, i < ac → sN (aif i) q = true → sN (ath i) q = true)
