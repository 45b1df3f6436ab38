/-! bits, turned places, the list of the closed sets -/
theorem bt01 (q k : Nat) : (q / 2 ^ k &&& 1) = if q.testBit k = true then 1 else 0 := by
  by_cases h : q.testBit k = true
  · rw [if_pos h]; exact nx_bit.mpr h
  · rw [if_neg h]
    have h1 : (q / 2 ^ k &&& 1) ≤ 1 := Nat.and_le_right
    have h2 : ¬ (q / 2 ^ k &&& 1) = 1 := fun z => h (nx_bit.mp z)
    omega
theorem bits_mono {p q : Nat} (h : sN p q = true) : ∀ k, bits p k ≤ bits q k
  | 0 => Nat.le_refl _
  | k + 1 => by
    have ih := bits_mono h k
    unfold bits
    rw [bt01, bt01]
    by_cases h1 : p.testBit k = true
    · rw [if_pos h1, if_pos (sN_bit.mp h k h1)]; omega
    · rw [if_neg h1]; omega
theorem bits_strict {p q i : Nat} (h : sN p q = true) (h1 : p.testBit i = false) (h2 : q.testBit i = true) : ∀ k, i < k → bits p k < bits q k
  | 0, hk => absurd hk (Nat.not_lt_zero _)
  | k + 1, hk => by
    unfold bits
    rw [bt01, bt01]
    by_cases he : i = k
    · subst he
      have := bits_mono h i
      rw [if_neg (by rw [h1]; decide), if_pos h2]; omega
    · have ih := bits_strict h h1 h2 k (by omega)
      by_cases h3 : p.testBit k = true
      · rw [if_pos h3, if_pos (sN_bit.mp h k h3)]; omega
      · rw [if_neg h3]; omega
theorem bits_lt {p q : Nat} (hq : q < 4096) (h : sN p q = true) (hne : ¬ p = q) : bits p 12 < bits q 12 := by
  have hx : ∃ i, p.testBit i = false ∧ q.testBit i = true := by
    apply Classical.byContradiction
    intro hc
    apply hne
    apply Nat.eq_of_testBit_eq
    intro i
    cases hb : q.testBit i
    · cases ha : p.testBit i
      · rfl
      · rw [sN_bit.mp h i ha] at hb; cases hb
    · cases ha : p.testBit i
      · exact absurd ⟨i, ha, hb⟩ hc
      · rfl
  obtain ⟨i, h1, h2⟩ := hx
  have hi : i < 12 := by
    rcases Nat.lt_or_ge i 12 with z | z
    · exact z
    · rw [Nat.testBit_lt_two_pow (Nat.lt_of_lt_of_le hq (Nat.pow_le_pow_right (n := 2) (by decide) z))] at h2; cases h2
  exact bits_strict h h1 h2 12 hi
theorem bits_hi {q n : Nat} (h : q < 2 ^ n) : ∀ k, bits q k ≤ n
  | 0 => Nat.zero_le _
  | k + 1 => by
    rcases Nat.lt_or_ge k n with z | z
    · exact Nat.le_trans (bits_le q (k + 1)) z
    · unfold bits
      rw [bt01, if_neg (by rw [Nat.testBit_lt_two_pow (Nat.lt_of_lt_of_le h (Nat.pow_le_pow_right (by decide) z))]; decide)]
      exact bits_hi h k
theorem tur_bit (n p i : Nat) : ∀ k, (tur n p k).testBit i = (decide (i < k) && p.testBit (n - 1 - i))
  | 0 => by simp [tur]
  | k + 1 => by
    have ih := tur_bit n p i k
    unfold tur
    by_cases h1 : p.testBit (n - 1 - k) = true
    · rw [if_pos h1, Nat.testBit_or, ih, Nat.testBit_two_pow]
      by_cases h2 : i = k
      · subst h2; simp [h1]
      · rw [decide_eq_false (p := k = i) (fun z => h2 z.symm), Bool.or_false]
        by_cases h3 : i < k
        · rw [decide_eq_true h3, decide_eq_true (show i < k + 1 by omega)]
        · rw [decide_eq_false h3, decide_eq_false (show ¬ i < k + 1 by omega)]
    · rw [if_neg h1, ih]
      by_cases h2 : i = k
      · subst h2
        have h4 : p.testBit (n - 1 - i) = false := by simpa using h1
        rw [h4]; simp
      · by_cases h3 : i < k
        · rw [decide_eq_true h3, decide_eq_true (show i < k + 1 by omega)]
        · rw [decide_eq_false h3, decide_eq_false (show ¬ i < k + 1 by omega)]
theorem tur_tur {n p : Nat} (h : p < 2 ^ n) : tur n (tur n p n) n = p := by
  apply Nat.eq_of_testBit_eq
  intro i
  rw [tur_bit, tur_bit]
  rcases Nat.lt_or_ge i n with z | z
  · rw [decide_eq_true z, decide_eq_true (show n - 1 - i < n by omega), show n - 1 - (n - 1 - i) = i by omega]; simp
  · rw [decide_eq_false (Nat.not_lt.mpr z), Nat.testBit_lt_two_pow (Nat.lt_of_lt_of_le h (Nat.pow_le_pow_right (by decide) z))]; rfl
theorem tur_inj {n p p' : Nat} (h : p < 2 ^ n) (h' : p' < 2 ^ n) (e : tur n p n = tur n p' n) : p = p' := by rw [← tur_tur h, e, tur_tur h']
theorem CLp_mem {r : Nat → Nat} {n o x : Nat} : ∀ p, x ∈ CLp r n o p ↔ ∃ k, k < p ∧ tur n k n = x ∧ clo r n o x = x
  | 0 => ⟨fun h => absurd h List.not_mem_nil, fun ⟨k, h, _⟩ => absurd h (Nat.not_lt_zero _)⟩
  | p + 1 => by
    have ih := CLp_mem (r := r) (n := n) (o := o) (x := x) p
    unfold CLp
    constructor
    · intro h
      split at h
      · rename_i hc
        rcases List.mem_append.mp h with h | h
        · obtain ⟨k, h1, h2⟩ := ih.mp h
          exact ⟨k, by omega, h2⟩
        · have e := List.mem_singleton.mp h
          exact ⟨p, Nat.lt_succ_self p, e.symm, by rw [e]; exact hc⟩
      · obtain ⟨k, h1, h2⟩ := ih.mp h
        exact ⟨k, by omega, h2⟩
    · intro ⟨k, h1, h2, h3⟩
      by_cases hk : k = p
      · subst hk
        rw [if_pos (by rw [h2]; exact h3)]
        exact List.mem_append_right _ (by rw [h2]; exact List.mem_singleton.mpr rfl)
      · have hm := ih.mpr ⟨k, by omega, h2, h3⟩
        split
        · exact List.mem_append_left _ hm
        · exact hm
def CL (r : Nat → Nat) (n o : Nat) : List Nat := CLp r n o (2 ^ n)
def BL (r : Nat → Nat) (n o : Nat) : List Nat := BLp (ISP r n o) n (2 ^ n)
theorem CL_mem {r : Nat → Nat} {n o x : Nat} : x ∈ CL r n o ↔ x < 2 ^ n ∧ clo r n o x = x := by
  unfold CL
  rw [CLp_mem]
  constructor
  · intro ⟨k, h1, h2, h3⟩; exact ⟨by rw [← h2]; exact tur_lt n k n, h3⟩
  · intro ⟨h1, h2⟩; exact ⟨tur n x n, tur_lt n x n, tur_tur h1, h2⟩
theorem CLp_nodup (r : Nat → Nat) (n o : Nat) : ∀ p, p ≤ 2 ^ n → (CLp r n o p).Nodup
  | 0, _ => List.nodup_nil
  | p + 1, h => by
    have ih := CLp_nodup r n o p (by omega)
    unfold CLp
    split
    · rw [List.nodup_append]
      refine ⟨ih, List.pairwise_singleton _ _, ?_⟩
      intro a ha b hb e
      rw [List.mem_singleton.mp hb] at e
      obtain ⟨k, h1, h2, _⟩ := (CLp_mem p).mp ha
      have := tur_inj (n := n) (p := k) (p' := p) (by omega) (by omega) (h2.trans e)
      omega
    · exact ih
theorem lst_inj {c : Nat → Nat} {L : List Nat} (h : lstAt c L) (hn : L.Nodup) {i j : Nat} (hi : i < L.length) (hj : j < L.length) (e : c i = c j) : i = j := by
  rw [h i hi, h j hj] at e
  rw [List.getD_eq_getElem?_getD, List.getD_eq_getElem?_getD, List.getElem?_eq_getElem hi, List.getElem?_eq_getElem hj] at e
  have e : L[i] = L[j] := e
  have hp := List.pairwise_iff_getElem.mp hn
  rcases Nat.lt_trichotomy i j with z | z | z
  · exact absurd e (hp i j hi hj z)
  · exact z
  · exact absurd e.symm (hp j i hj hi z)
theorem lst_at {c : Nat → Nat} {L : List Nat} (h : lstAt c L) {x : Nat} (hx : x ∈ L) : ∃ j, j < L.length ∧ c j = x := by
  obtain ⟨j, hj, e⟩ := List.mem_iff_getElem.mp hx
  exact ⟨j, hj, by rw [h j hj, List.getD_eq_getElem?_getD, List.getElem?_eq_getElem hj]; exact e⟩
theorem LV_self (r : Nat → Nat) (n o : Nat) : ∀ f c, c < f → LV r n o c ≤ c
  | 0, _, h => absurd h (Nat.not_lt_zero _)
  | f + 1, c, h => by
    rw [LV_eq, mxr_le]
    intro d hd
    split
    · have := LV_self r n o f d (by omega); omega
    · exact Nat.zero_le _
theorem LV_le {r : Nat → Nat} {n o : Nat} (hn : n ≤ 12) (c : Nat) : LV r n o c ≤ 4096 := by
  rw [LV_eq, mxr_le]
  intro d hd
  split
  · rename_i h
    have h1 := LV_self r n o (d + 1) d (Nat.lt_succ_self d)
    have h2 := clo_lt r n o d
    rw [h.1] at h2
    have := p2_le hn
    omega
  · exact Nat.zero_le _
/-- the level of a closed set is what the reference reckons of the list of all of them -/
theorem LV_conc {r : Nat → Nat} {n o : Nat} {conc : Nat → Nat} (h : lstAt conc (CL r n o)) {i : Nat} (hi : i < (CL r n o).length) : LV r n o (conc i) = mlv conc (LV r n o) i (CL r n o).length := by
  have hN : (CL r n o).Nodup := CLp_nodup r n o _ (Nat.le_refl _)
  apply Nat.le_antisymm
  · rw [LV_eq, mxr_le]
    intro d hd
    split
    · rename_i hc
      have hdl : d < 2 ^ n := by have := clo_lt r n o d; rw [hc.1] at this; exact this
      obtain ⟨j, hj, e⟩ := lst_at h (CL_mem.mpr ⟨hdl, hc.1⟩)
      have hne : ¬ j = i := fun z => by rw [z] at e; omega
      have := (mlv_max (conc := conc) (lv := LV r n o) (i := i) (k := (CL r n o).length)).mp (Nat.le_refl _) j hj hne (by rw [e]; exact hc.2)
      rw [e] at this; exact this
    · exact Nat.zero_le _
  · rw [mlv_max]
    intro j hj hne hs
    have hm := CL_mem.mp (lstAt_mem h hj)
    have hd : conc j < conc i := by
      have h1 := sN_le hs
      have h2 : ¬ conc j = conc i := fun e => hne (lst_inj h hN hj hi e)
      omega
    have := mxr_le.mp (Nat.le_of_eq (LV_eq r n o (conc i)).symm) (conc j) hd
    rw [if_pos ⟨hm.2, hs⟩] at this
    exact this
/-- what the reference knows, once it knows -/
def KnOK (r : Nat → Nat) (n o co ba : Nat) (conc lev prem concl : Nat → Nat) : Prop :=
  co = (CL r n o).length ∧ lstAt conc (CL r n o) ∧ (∀ i, i < co → lev i = LV r n o (conc i)) ∧ ba = (BL r n o).length ∧ lstAt prem (BL r n o) ∧ ∀ j, j < ba → concl j = clo r n o (prem j)
theorem clo_push {prem concl : Nat → Nat} {b x : Nat} {g : Nat → Nat} (h : ∀ j, j < b → concl j = g (prem j)) : ∀ j, j < b + 1 → va_up concl b (g x) j = g (va_up prem b x j) := by
  intro j hj
  by_cases h1 : j = b
  · subst h1; rw [va_up_self, va_up_self]
  · rw [va_up_ne _ _ h1, va_up_ne _ _ h1]; exact h j (by omega)
theorem icl_all {n : Nat} {icl : Nat → Bool} {g : Nat → Bool} (h : ∀ j, j < 2 ^ n → icl (tur n j n) = g (tur n j n)) : ∀ q, q < 2 ^ n → icl q = g q := fun q hq => by
  have := h (tur n q n) (tur_lt n q n)
  rw [tur_tur hq] at this
  exact this
