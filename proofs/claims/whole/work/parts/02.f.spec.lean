/-! what the public calls of the reference answer, by what it knows -/
/-- i is a place below b, as the programs test it -/
def iB (i : Int32) (b : Nat) : Bool := decide (¬ i < 0) && decide (¬ (nI b - (1 : Int32)) < i)
theorem iB_in {i : Int32} {b : Nat} (hb : b < 2 ^ 31) (h : iB i b = true) : ∃ j, j < b ∧ i = nI j := by
  unfold iB at h
  rw [Bool.and_eq_true, decide_eq_true_iff, decide_eq_true_iff] at h
  obtain ⟨h1, h2⟩ := h
  obtain ⟨j, hj, rfl⟩ := nI_of h1
  refine ⟨j, ?_, rfl⟩
  rcases Nat.eq_zero_or_pos b with z | z
  · subst z
    exact absurd (show (nI 0 - (1 : Int32)) < nI j by
      rw [Int32.lt_iff_toInt_lt, nI_toInt hj]
      have : (nI 0 - (1 : Int32)).toInt = -1 := by decide
      omega) h2
  · have e : (nI b - (1 : Int32)) = nI (b - 1) := pk_sub (a := b) (b := 1) z
    rw [e] at h2
    have : ¬ b - 1 < j := fun z => h2 ((nI_ltI (a := b - 1) (b := j) (by omega) hj).mpr z)
    omega
theorem iB_t {j b : Nat} (hb : b < 2 ^ 31) (h : j < b) : iB (nI j) b = true := by
  unfold iB
  rw [show (nI b - (1 : Int32)) = nI (b - 1) from pk_sub (a := b) (b := 1) (by omega)]
  exact in_t (lo := 0) (hi := b - 1) (Nat.zero_le _) (by omega) (by omega)
theorem iB_vp {i : Int32} {b : Nat} (hb : b ≤ 4096) (h : iB i b = true) : vp_in i 4096 := by
  obtain ⟨j, hj, rfl⟩ := iB_in (by omega) h
  exact vp_in_nI (by omega) (by decide)
theorem iB_lt {i : Int32} {b : Nat} (hb : b ≤ 4096) (h : iB i b = true) : i.toNatClampNeg < b := by
  obtain ⟨j, hj, rfl⟩ := iB_in (by omega) h
  rw [nI_clamp (by omega)]; exact hj
def frq (r : Nat → Nat) (o : Nat) (conc : Nat → Nat) (x : Int32) : Nat → Nat
  | 0 => 0
  | k + 1 => if nI (bits (ext r (conc k) o) 20) < x then frq r o conc x k else frq r o conc x k + 1
theorem frq_le (r : Nat → Nat) (o : Nat) (conc : Nat → Nat) (x : Int32) : ∀ k, frq r o conc x k ≤ k
  | 0 => Nat.le_refl _
  | k + 1 => by
    have := frq_le r o conc x k
    unfold frq
    split <;> omega
/-- concept i from what 3 on: from place j on, a found above, b below -/
def cpF (conc : Nat → Nat) (co i : Nat) (w : Int32) : Nat → Nat → Nat → Nat → Int32
  | 0, _, a, b => if w = 3 then nI a else if w = 4 then nI b else -1
  | f + 1, j, a, b => if raB conc co j i = true then (if nI a = w - 5 then nI (conc j) else cpF conc co i w f (j + 1) (a + 1) (if raB conc co i j = true then b + 1 else b)) else cpF conc co i w f (j + 1) a (if raB conc co i j = true then b + 1 else b)
/-- the first set from place p on that is not closed and keeps the rules -/
def fqF (r : Nat → Nat) (n o : Nat) (aif ath : Nat → Nat) (ac : Nat) : Nat → Nat → Int32
  | 0, _ => -1
  | f + 1, p => if ¬ clo r n o (tur n p n) = tur n p n ∧ kpB aif ath ac (tur n p n) = true then nI (tur n p n) else fqF r n o aif ath ac f (p + 1)
def fQ (r : Nat → Nat) (n o : Nat) (aif ath : Nat → Nat) (ac : Nat) : Int32 := fqF r n o aif ath ac (2 ^ n) 0
theorem nI_ne1 {t : Nat} (h : t < 2 ^ 31) : ¬ nI t = -1 := by
  intro e
  have h1 := nI_toInt h
  rw [e] at h1
  have : (-1 : Int32).toInt = -1 := by decide
  omega
/-- g is what follows from q by the first L rules -/
def isF (prem concl : Nat → Nat) (L q g : Nat) : Prop := sN q g = true ∧ kpB prem concl L g = true ∧ ∀ S, sN q S = true → kpB prem concl L S = true → sN g S = true
theorem sN_or {a b : Nat} : sN a (a ||| b) = true := sN_bit.mpr (fun i h => by rw [Nat.testBit_or, h]; rfl)
theorem sN_or_l {a b c : Nat} (h1 : sN a c = true) (h2 : sN b c = true) : sN (a ||| b) c = true := sN_bit.mpr (fun i h => by
  rw [Nat.testBit_or, Bool.or_eq_true] at h
  rcases h with h | h
  · exact sN_bit.mp h1 i h
  · exact sN_bit.mp h2 i h)
theorem or_grow {a b : Nat} (h : sN b a = false) : a < a ||| b := by
  have h1 : a ≤ a ||| b := sN_le sN_or
  rcases Nat.lt_or_ge a (a ||| b) with z | z
  · exact z
  · have e : a ||| b = a := Nat.le_antisymm z h1
    have : sN b a = true := sN_bit.mpr (fun i hi => by rw [← e, Nat.testBit_or, hi, Bool.or_true])
    rw [h] at this; cases this
theorem kn_prem {r : Nat → Nat} {n o co ba : Nat} {conc lev prem concl : Nat → Nat} (h : KnOK r n o co ba conc lev prem concl) : ∀ j, j < ba → prem j < 2 ^ n := fun j hj => by
  obtain ⟨h1, h2, h3, h4, h5, h6⟩ := h
  exact BLp_lt _ _ _ _ (lstAt_mem h5 (Nat.lt_of_lt_of_eq hj h4))
theorem kn_concl {r : Nat → Nat} {n o co ba : Nat} {conc lev prem concl : Nat → Nat} (h : KnOK r n o co ba conc lev prem concl) : ∀ j, j < ba → concl j < 2 ^ n := fun j hj => by
  rw [h.2.2.2.2.2 j hj]; exact clo_lt _ _ _ _
theorem kn_conc {r : Nat → Nat} {n o co ba : Nat} {conc lev prem concl : Nat → Nat} (h : KnOK r n o co ba conc lev prem concl) : ∀ j, j < co → conc j < 2 ^ n := fun j hj => (CL_mem.mp (lstAt_mem h.2.1 (Nat.lt_of_lt_of_eq hj h.1))).1
theorem kn_co {r : Nat → Nat} {n o co ba : Nat} {conc lev prem concl : Nat → Nat} (h : KnOK r n o co ba conc lev prem concl) : co ≤ 2 ^ n := by rw [h.1]; exact CLp_len r n o _
theorem kn_ba {r : Nat → Nat} {n o co ba : Nat} {conc lev prem concl : Nat → Nat} (h : KnOK r n o co ba conc lev prem concl) : ba ≤ 2 ^ n := by rw [h.2.2.2.1]; exact BLp_len _ n _
theorem mxr_b {g : Nat → Nat} {k M : Nat} (h : ∀ j, j < k → g j ≤ M) : mxr g k ≤ M := mxr_le.mpr h
