/-! the order of sets: the later one has the least bit in which they differ -/
def latP (a b : Nat) : Prop := ∃ i, a.testBit i = true ∧ b.testBit i = false ∧ ∀ j, j < i → a.testBit j = b.testBit j
theorem nI_bit {a i : Nat} (hi : i < 32) : (nI a).toBitVec.getLsbD i = a.testBit i := by
  show (BitVec.ofNat 32 a).getLsbD i = _
  rw [BitVec.getLsbD_ofNat, decide_eq_true hi, Bool.true_and]
theorem low_bits (a x : Int32) : ¬ (a &&& (x &&& (-x))) = 0 ↔ ∃ i, i < 32 ∧ a.toBitVec.getLsbD i = true ∧ x.toBitVec.getLsbD i = true ∧ ∀ j, j < i → x.toBitVec.getLsbD j = false := by
  have hz : ∀ i, (0 : Int32).toBitVec.getLsbD i = false := fun i => BitVec.getLsbD_zero
  have hb : ∀ i, i < 32 → ((a &&& (x &&& (-x))).toBitVec.getLsbD i = true ↔ a.toBitVec.getLsbD i = true ∧ x.toBitVec.getLsbD i = true ∧ ∀ j, j < i → x.toBitVec.getLsbD j = false) := by
    intro i hi
    rw [Int32.toBitVec_and, Int32.toBitVec_and, Int32.toBitVec_neg, BitVec.getLsbD_and, BitVec.getLsbD_and, BitVec.getLsbD_neg, decide_eq_true hi, Bool.true_and, Bool.and_eq_true, Bool.and_eq_true]
    constructor
    · intro ⟨h1, h2, h3⟩
      refine ⟨h1, h2, fun j hj => ?_⟩
      rw [h2, Bool.true_xor, Bool.not_eq_true', decide_eq_false_iff_not] at h3
      cases hc : x.toBitVec.getLsbD j
      · rfl
      · exact absurd ⟨j, hj, hc⟩ h3
    · intro ⟨h1, h2, h3⟩
      refine ⟨h1, h2, ?_⟩
      rw [h2, Bool.true_xor, Bool.not_eq_true', decide_eq_false_iff_not]
      intro ⟨j, hj, hc⟩
      rw [h3 j hj] at hc
      cases hc
  constructor
  · intro h
    apply Classical.byContradiction
    intro hc
    apply h
    apply b_bits
    intro i hi
    rw [hz i]
    cases hv : (a &&& (x &&& (-x))).toBitVec.getLsbD i
    · rfl
    · exact absurd ⟨i, hi, (hb i hi).mp hv⟩ hc
  · intro ⟨i, hi, h1⟩ h
    have h2 := (hb i hi).mpr h1
    rw [h, hz i] at h2
    cases h2
theorem clI_iff {a b : Nat} (ha : a < 2 ^ 31) (hb : b < 2 ^ 31) : clI (nI a) (nI b) = true ↔ latP a b := by
  unfold clI
  rw [decide_eq_true_iff, low_bits]
  have hx : ∀ i, i < 32 → (nI a ^^^ nI b).toBitVec.getLsbD i = (a.testBit i ^^ b.testBit i) := fun i hi => by
    rw [Int32.toBitVec_xor, BitVec.getLsbD_xor, nI_bit hi, nI_bit hi]
  constructor
  · intro ⟨i, hi, h1, h2, h3⟩
    rw [nI_bit hi] at h1
    rw [hx i hi, h1] at h2
    refine ⟨i, h1, by simpa using h2, fun j hj => ?_⟩
    have h4 := h3 j hj
    rw [hx j (by omega)] at h4
    revert h4
    cases a.testBit j <;> cases b.testBit j <;> simp
  · intro ⟨i, h1, h2, h3⟩
    have hi : i < 32 := by
      rcases Nat.lt_or_ge i 32 with z | z
      · exact z
      · rw [Nat.testBit_lt_two_pow (Nat.lt_of_lt_of_le ha (Nat.pow_le_pow_right (by decide) (show 31 ≤ i by omega)))] at h1; cases h1
    refine ⟨i, hi, by rw [nI_bit hi]; exact h1, by rw [hx i hi, h1, h2]; rfl, fun j hj => ?_⟩
    rw [hx j (by omega), h3 j hj]
    cases b.testBit j <;> rfl
theorem latI_iff {a b : Nat} (ha : a < 2 ^ 31) (hb : b < 2 ^ 31) : latI (nI a) (nI b) = true ↔ latP a b := by
  rw [← clI_iff ha hb]
  unfold latI clI
  rw [Bool.and_eq_true, decide_eq_true_iff, decide_eq_true_iff, decide_eq_true_iff, Int32.and_assoc]
  constructor
  · exact fun h => h.2
  · intro h
    refine ⟨fun z => h ?_, h⟩
    rw [z]
    apply b_bits
    intro i hi
    have hz : (0 : Int32).toBitVec.getLsbD i = false := BitVec.getLsbD_zero
    rw [Int32.toBitVec_and, BitVec.getLsbD_and, Int32.toBitVec_and, BitVec.getLsbD_and, hz, Bool.false_and, Bool.and_false]
theorem top_lt {x y i : Nat} (h1 : x.testBit i = false) (h2 : y.testBit i = true) (h3 : ∀ j, i < j → x.testBit j = y.testBit j) : x < y := by
  have e : x / 2 ^ (i + 1) = y / 2 ^ (i + 1) := by
    apply Nat.eq_of_testBit_eq
    intro j
    rw [← Nat.shiftRight_eq_div_pow, ← Nat.shiftRight_eq_div_pow, Nat.testBit_shiftRight, Nat.testBit_shiftRight]
    exact h3 _ (by omega)
  have a : x % 2 ^ (i + 1) < 2 ^ i := by
    apply Nat.lt_pow_two_of_testBit
    intro j hj
    rw [Nat.testBit_mod_two_pow]
    by_cases hji : j < i + 1
    · rw [show j = i by omega, h1, Bool.and_false]
    · rw [decide_eq_false hji]; rfl
  have b : 2 ^ i ≤ y % 2 ^ (i + 1) := by
    apply Nat.ge_two_pow_of_testBit
    rw [Nat.testBit_mod_two_pow, h2, decide_eq_true (Nat.lt_succ_self i)]; rfl
  have c := Nat.div_add_mod x (2 ^ (i + 1))
  have d := Nat.div_add_mod y (2 ^ (i + 1))
  rw [e] at c
  omega
theorem lat_lt {n a b : Nat} (ha : a < 2 ^ n) (h : latP a b) : tur n b n < tur n a n := by
  obtain ⟨i, h1, h2, h3⟩ := h
  have hi : i < n := by
    rcases Nat.lt_or_ge i n with z | z
    · exact z
    · rw [Nat.testBit_lt_two_pow (Nat.lt_of_lt_of_le ha (Nat.pow_le_pow_right (by decide) z))] at h1; cases h1
  apply top_lt (i := n - 1 - i)
  · rw [tur_bit, show n - 1 - (n - 1 - i) = i by omega, h2, Bool.and_false]
  · rw [tur_bit, show n - 1 - (n - 1 - i) = i by omega, h1, decide_eq_true (by omega)]; rfl
  · intro j hj
    rw [tur_bit, tur_bit]
    by_cases hjn : j < n
    · rw [h3 (n - 1 - j) (by omega)]
    · rw [decide_eq_false hjn]; rfl
theorem lat_tot {a b : Nat} (h : ¬ a = b) : latP a b ∨ latP b a := by
  have hx : ∃ i, ¬ a.testBit i = b.testBit i := by
    apply Classical.byContradiction
    intro hc
    apply h
    apply Nat.eq_of_testBit_eq
    intro i
    apply Classical.byContradiction
    intro z
    exact hc ⟨i, z⟩
  obtain ⟨i, h1, h2⟩ := pk_least (fun i => ¬ a.testBit i = b.testBit i) hx
  have h3 : ∀ j, j < i → a.testBit j = b.testBit j := fun j hj => Classical.byContradiction (fun z => h2 j hj z)
  cases ha : a.testBit i <;> cases hb : b.testBit i
  · exact absurd (ha.trans hb.symm) h1
  · exact Or.inr ⟨i, hb, ha, fun j hj => (h3 j hj).symm⟩
  · exact Or.inl ⟨i, ha, hb, h3⟩
  · exact absurd (ha.trans hb.symm) h1
theorem lat_iff {n a b : Nat} (ha : a < 2 ^ n) (hb : b < 2 ^ n) : latP a b ↔ tur n b n < tur n a n := by
  constructor
  · exact lat_lt ha
  · intro h
    rcases lat_tot (a := a) (b := b) (fun e => by rw [e] at h; exact absurd h (Nat.lt_irrefl _)) with z | z
    · exact z
    · exact absurd (lat_lt hb z) (by omega)
theorem clI_tur {n a b : Nat} (hn : n ≤ 12) (ha : a < 2 ^ n) (hb : b < 2 ^ n) : clI (nI a) (nI b) = true ↔ tur n b n < tur n a n := by
  have h2n := p2_le hn
  rw [clI_iff (by omega) (by omega), lat_iff ha hb]
theorem latI_tur {n a b : Nat} (hn : n ≤ 12) (ha : a < 2 ^ n) (hb : b < 2 ^ n) : latI (nI a) (nI b) = true ↔ tur n b n < tur n a n := by
  have h2n := p2_le hn
  rw [latI_iff (by omega) (by omega), lat_iff ha hb]
/-- the place that insert finds parts the list -/
theorem nb_offer {n : Nat} {P : Nat → Prop} {L : List Nat} {q p : Nat} {fd : Nat → Nat} (hn : n ≤ 12) (hq9 : q < 2 ^ n) (hPn : ∀ s, P s → s < 2 ^ n) (h : NbOK P L) (hq : ¬ ∃ x, x ∈ L ∧ sN q x = true) (hl : lstAt fd (L.filter (fun x => !(sN x q)))) (hp : p ≤ (L.filter (fun x => !(sN x q))).length) (hp1 : ∀ j, p ≤ j → j < (L.filter (fun x => !(sN x q))).length → clI (nI (fd j)) (nI q) = true) (hp2 : p = 0 ∨ clI (nI (fd (p - 1))) (nI q) = false) :
    NbOK (fun s => P s ∨ s = q) ((L.filter (fun x => !(sN x q))).take p ++ q :: (L.filter (fun x => !(sN x q))).drop p) := by
  generalize hM : L.filter (fun x => !(sN x q)) = M at hl hp hp1
  have hMP : ∀ x, x ∈ M → x < 2 ^ n ∧ ¬ x = q := fun x hx => by
    rw [← hM, List.mem_filter] at hx
    refine ⟨hPn x (h.1 x hx.1), fun e => hq ⟨x, hx.1, by rw [e]; exact sN_refl q⟩⟩
  have hMs : M.Pairwise (fun a b => clI (nI b) (nI a) = true) := by rw [← hM]; exact h.2.2.2.filter _
  refine nb_ins h hq M hM.symm (fun x hx => ?_) (fun x hx => ?_)
  · obtain ⟨j, hj, e⟩ := List.mem_iff_getElem.mp hx
    rw [List.getElem_drop] at e
    rw [List.length_drop] at hj
    have := hp1 (p + j) (by omega) (by omega)
    rw [← lst_get hl (show p + j < M.length by omega), e] at this
    exact this
  · obtain ⟨j, hj, e⟩ := List.mem_iff_getElem.mp hx
    rw [List.getElem_take] at e
    rw [List.length_take] at hj
    have hxm : x ∈ M := List.mem_of_mem_take hx
    rcases hp2 with z | z
    · omega
    · have hl1 : p - 1 < M.length := by omega
      have hy : M[p - 1] ∈ M := List.getElem_mem hl1
      rw [← lst_get hl hl1] at z
      have hyq : tur n (M[p - 1]) n < tur n q n := by
        have h1 := hMP _ hy
        have h2 : ¬ tur n q n < tur n (M[p - 1]) n := fun w => by rw [(clI_tur hn h1.1 hq9).mpr w] at z; cases z
        have h3 : ¬ tur n (M[p - 1]) n = tur n q n := fun w => h1.2 (tur_inj h1.1 hq9 w)
        omega
      rw [clI_tur hn hq9 (hMP x hxm).1]
      by_cases e2 : j = p - 1
      · subst e2; rw [← e]; exact hyq
      · have h5 := List.pairwise_iff_getElem.mp hMs j (p - 1) (by omega) hl1 (by omega)
        rw [clI_tur hn (hMP _ hy).1 (hMP _ (List.getElem_mem (by omega))).1, e] at h5
        omega
