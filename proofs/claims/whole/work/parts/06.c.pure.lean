def pat (S q k : Nat) : Prop := S.testBit k = true ∧ q.testBit k = false ∧ ∀ j, j < k → S.testBit j = q.testBit j
theorem pat_lat {S q k : Nat} (h : pat S q k) : latP S q := ⟨k, h.1, h.2.1, h.2.2⟩
theorem tur_sub_le {n a b : Nat} (ha : a < 2 ^ n) (hb : b < 2 ^ n) (h : sN a b = true) : tur n a n ≤ tur n b n := by
  by_cases e : a = b
  · rw [e]; exact Nat.le_refl _
  · exact Nat.le_of_lt (tur_part ha hb h e)
theorem mod_xor {q c : Nat} (h : q.testBit c = true) : (q % 2 ^ (c + 1)) ^^^ 2 ^ c = q % 2 ^ c := by
  apply Nat.eq_of_testBit_eq; intro i
  rw [xor_pow_bit, Nat.testBit_mod_two_pow, Nat.testBit_mod_two_pow]
  rcases Nat.lt_trichotomy i c with z | z | z
  · rw [decide_eq_true z, decide_eq_true (show i < c + 1 by omega), decide_eq_false (show ¬ c = i by omega)]; simp
  · subst z; rw [decide_eq_true (Nat.lt_succ_self i), h]; simp
  · rw [decide_eq_false (show ¬ i < c + 1 by omega), decide_eq_false (show ¬ i < c by omega), decide_eq_false (show ¬ c = i by omega)]; rfl
theorem mod_keep {q c : Nat} (h : q.testBit c = false) : q % 2 ^ (c + 1) = q % 2 ^ c := by
  apply Nat.eq_of_testBit_eq; intro i
  rw [Nat.testBit_mod_two_pow, Nat.testBit_mod_two_pow]
  rcases Nat.lt_trichotomy i c with z | z | z
  · rw [decide_eq_true z, decide_eq_true (show i < c + 1 by omega)]
  · subst z; rw [h]; simp
  · rw [decide_eq_false (show ¬ i < c + 1 by omega), decide_eq_false (show ¬ i < c by omega)]
theorem low_eq {C b c : Nat} : ((C ^^^ b) &&& (2 ^ c - 1)) = 0 ↔ ∀ j, j < c → C.testBit j = b.testBit j := by
  constructor
  · intro h j hj
    have h1 : ((C ^^^ b) &&& (2 ^ c - 1)).testBit j = false := by rw [h]; exact Nat.zero_testBit j
    rw [Nat.testBit_and, Nat.testBit_xor, Nat.testBit_two_pow_sub_one, decide_eq_true hj, Bool.and_true] at h1
    revert h1
    cases C.testBit j <;> cases b.testBit j <;> simp
  · intro h
    apply Nat.eq_of_testBit_eq; intro i
    rw [Nat.testBit_and, Nat.testBit_xor, Nat.testBit_two_pow_sub_one, Nat.zero_testBit]
    by_cases hi : i < c
    · rw [h i hi]; simp
    · rw [decide_eq_false hi, Bool.and_false]
theorem cb_first {r : Nat → Nat} {n o q : Nat} (hq : q < 2 ^ n) : ∀ c, c ≤ n → (cbF r n o c (q % 2 ^ c) = -1 ∧ ∀ S, S < 2 ^ n → clo r n o S = S → ∀ k, k < c → ¬ pat S q k) ∨ ∃ S k, S < 2 ^ n ∧ clo r n o S = S ∧ k < c ∧ pat S q k ∧ cbF r n o c (q % 2 ^ c) = nI S ∧ ∀ S' k', S' < 2 ^ n → clo r n o S' = S' → k' < c → pat S' q k' → tur n S n ≤ tur n S' n
  | 0, _ => Or.inl ⟨rfl, fun S _ _ k hk => absurd hk (Nat.not_lt_zero _)⟩
  | c + 1, hc => by
    have ih := cb_first (r := r) (o := o) hq c (by omega)
    have hb : (q % 2 ^ (c + 1)).testBit c = q.testBit c := by rw [Nat.testBit_mod_two_pow, decide_eq_true (Nat.lt_succ_self c), Bool.true_and]
    unfold cbF
    rw [hb]
    by_cases h : q.testBit c = true
    · rw [if_pos h, mod_xor h]
      rcases ih with ⟨h1, h2⟩ | ⟨S, k, h1, h2, h3, h4, h5, h6⟩
      · refine Or.inl ⟨h1, fun S hS hcS k hk hp => ?_⟩
        by_cases e : k = c
        · subst e; rw [hp.2.1] at h; cases h
        · exact h2 S hS hcS k (by omega) hp
      · refine Or.inr ⟨S, k, h1, h2, by omega, h4, h5, fun S' k' h7 h8 h9 h10 => ?_⟩
        by_cases e : k' = c
        · subst e; rw [h10.2.1] at h; cases h
        · exact h6 S' k' h7 h8 (by omega) h10
    · have h' : q.testBit c = false := by simpa using h
      rw [if_neg h, mod_keep h']
      have hbb : ∀ j, j < c → (q % 2 ^ c).testBit j = q.testBit j := fun j hj => by rw [Nat.testBit_mod_two_pow, decide_eq_true hj, Bool.true_and]
      have hbl : (q % 2 ^ c) < 2 ^ n := Nat.lt_of_le_of_lt (Nat.mod_le _ _) hq
      have hol : ((q % 2 ^ c) ||| 2 ^ c) < 2 ^ n := or_pow_lt hbl (by omega)
      have hCl := clo_lt r n o ((q % 2 ^ c) ||| 2 ^ c)
      have hCe := clo_ext (r := r) (o := o) hol
      have hin : ∀ S, pat S q c → sN ((q % 2 ^ c) ||| 2 ^ c) S = true := fun S hp => sN_bit.mpr (fun i hi => by
        rw [Nat.testBit_or, Nat.testBit_two_pow, Bool.or_eq_true, Nat.testBit_mod_two_pow, Bool.and_eq_true, decide_eq_true_iff, decide_eq_true_iff] at hi
        rcases hi with hi | hi
        · rw [hp.2.2 i hi.1]; exact hi.2
        · rw [← hi]; exact hp.1)
      have hCS : ∀ S, clo r n o S = S → pat S q c → sN (clo r n o ((q % 2 ^ c) ||| 2 ^ c)) S = true := fun S hS hp => by
        have := clo_mono (r := r) (n := n) (o := o) (hin S hp)
        rw [hS] at this; exact this
      by_cases hcond : ((clo r n o ((q % 2 ^ c) ||| 2 ^ c) ^^^ (q % 2 ^ c)) &&& (2 ^ c - 1)) = 0
      · rw [if_pos hcond]
        have hlow := low_eq.mp hcond
        have hpC : pat (clo r n o ((q % 2 ^ c) ||| 2 ^ c)) q c := by
          refine ⟨sN_bit.mp hCe c ?_, h', fun j hj => by rw [hlow j hj, hbb j hj]⟩
          rw [Nat.testBit_or, Nat.testBit_two_pow_self, Bool.or_true]
        refine Or.inr ⟨_, c, hCl, clo_idem, Nat.lt_succ_self c, hpC, rfl, fun S' k' h7 h8 h9 h10 => ?_⟩
        by_cases e : k' = c
        · subst e; exact tur_sub_le hCl h7 (hCS S' h8 h10)
        · apply Nat.le_of_lt
          apply lat_lt h7
          refine ⟨k', h10.1, by rw [hpC.2.2 k' (by omega)]; exact h10.2.1, fun j hj => by rw [h10.2.2 j hj, hpC.2.2 j (by omega)]⟩
      · rw [if_neg hcond]
        have hno : ∀ S, S < 2 ^ n → clo r n o S = S → ¬ pat S q c := fun S hS hcS hp => hcond (low_eq.mpr (fun j hj => by
          have h1 := sN_bit.mp (hCS S hcS hp) j
          have h2 := sN_bit.mp hCe j
          rw [Nat.testBit_or, Bool.or_eq_true] at h2
          have h3 := hp.2.2 j hj
          have h4 := hbb j hj
          cases hx : (clo r n o ((q % 2 ^ c) ||| 2 ^ c)).testBit j
          · cases hy : (q % 2 ^ c).testBit j
            · rfl
            · rw [h2 (Or.inl hy)] at hx; cases hx
          · rw [h4, ← h3]; exact (h1 hx).symm))
        rcases ih with ⟨h1, h2⟩ | ⟨S, k, h1, h2, h3, h4, h5, h6⟩
        · refine Or.inl ⟨h1, fun S hS hcS k hk hp => ?_⟩
          by_cases e : k = c
          · subst e; exact hno S hS hcS hp
          · exact h2 S hS hcS k (by omega) hp
        · refine Or.inr ⟨S, k, h1, h2, by omega, h4, h5, fun S' k' h7 h8 h9 h10 => ?_⟩
          by_cases e : k' = c
          · subst e; exact absurd h10 (hno S' h7 h8)
          · exact h6 S' k' h7 h8 (by omega) h10
theorem lat_pat {n S q : Nat} (hS : S < 2 ^ n) (h : latP S q) : ∃ k, k < n ∧ pat S q k := by
  obtain ⟨i, h1, h2, h3⟩ := h
  exact ⟨i, bit_lt hS h1, h1, h2, h3⟩
/-- the class's next closed set is the reference's -/
theorem cb_nx {r : Nat → Nat} {n o q : Nat} (hn : n ≤ 12) (hq : q < 2 ^ n) : cbF r n o n q = nxF r n o q (2 ^ n) 0 := by
  have hc := cb_first (r := r) (o := o) hq n (Nat.le_refl _)
  rw [Nat.mod_eq_of_lt hq] at hc
  have hx := nx_first (r := r) (o := o) hn hq (2 ^ n) 0 (by omega)
  rcases hc with ⟨h1, h2⟩ | ⟨S, k, h1, h2, h3, h4, h5, h6⟩
  · rcases hx with ⟨g1, _⟩ | ⟨j, _, g2, g3, g4, g5, _⟩
    · rw [h1, g1]
    · obtain ⟨k, hk, hp⟩ := lat_pat (n := n) (tur_lt n j n) ((lat_iff (tur_lt n j n) hq).mpr (by rw [tur_tur g2]; exact g3))
      exact absurd hp (h2 _ (tur_lt n j n) g4 k hk)
  · have hlt : tur n q n < tur n S n := lat_lt h1 (pat_lat h4)
    rcases hx with ⟨_, g2⟩ | ⟨j, _, g2, g3, g4, g5, g6⟩
    · exact absurd (by rw [tur_tur h1]; exact h2) (g2 (tur n S n) (Nat.zero_le _) (tur_lt n S n) hlt)
    · rw [h5, g5]
      congr 1
      obtain ⟨k', hk', hp'⟩ := lat_pat (n := n) (tur_lt n j n) ((lat_iff (tur_lt n j n) hq).mpr (by rw [tur_tur g2]; exact g3))
      have h7 := h6 _ k' (tur_lt n j n) g4 hk' hp'
      rw [tur_tur g2] at h7
      have h8 : ¬ tur n S n < j := fun z => g6 (tur n S n) (Nat.zero_le _) z hlt (by rw [tur_tur h1]; exact h2)
      have h9 : j = tur n S n := by omega
      rw [h9, tur_tur h1]
/-! the question goes on from where it was -/
theorem fq_skip {r : Nat → Nat} {n o : Nat} {aif ath : Nat → Nat} {ac : Nat} : ∀ d p, p + d ≤ 2 ^ n → (∀ k, p ≤ k → k < p + d → clo r n o (tur n k n) = tur n k n ∨ kpB aif ath ac (tur n k n) = false) → fqF r n o aif ath ac (2 ^ n - p) p = fqF r n o aif ath ac (2 ^ n - (p + d)) (p + d)
  | 0, p, _, _ => rfl
  | d + 1, p, h, hk => by
    rw [show 2 ^ n - p = (2 ^ n - (p + 1)) + 1 by omega, fqF, if_neg (fun z => by
      rcases hk p (Nat.le_refl _) (by omega) with y | y
      · exact z.1 y
      · rw [y] at z; cases z.2)]
    rw [fq_skip d (p + 1) (by omega) (fun k h1 h2 => hk k (by omega) (by omega))]
    rw [show p + 1 + d = p + (d + 1) by omega]
theorem fq_from {r : Nat → Nat} {n o : Nat} {aif ath : Nat → Nat} {ac p : Nat} (hp : p ≤ 2 ^ n) (hk : ∀ k, k < p → clo r n o (tur n k n) = tur n k n ∨ kpB aif ath ac (tur n k n) = false) : fQ r n o aif ath ac = fqF r n o aif ath ac (2 ^ n - p) p := by
  have := fq_skip (r := r) (o := o) (aif := aif) (ath := ath) (ac := ac) p 0 (by omega) (fun k _ h => hk k (by omega))
  rw [Nat.zero_add, Nat.sub_zero] at this
  exact this
/-- what the first place is at which a question is found -/
theorem fq_spec {r : Nat → Nat} {n o : Nat} {aif ath : Nat → Nat} {ac : Nat} : ∀ f p, p + f = 2 ^ n → (fqF r n o aif ath ac f p = -1 ∧ ∀ k, p ≤ k → k < 2 ^ n → clo r n o (tur n k n) = tur n k n ∨ kpB aif ath ac (tur n k n) = false) ∨ ∃ k, p ≤ k ∧ k < 2 ^ n ∧ fqF r n o aif ath ac f p = nI (tur n k n) ∧ ¬ clo r n o (tur n k n) = tur n k n ∧ kpB aif ath ac (tur n k n) = true ∧ ∀ j, p ≤ j → j < k → clo r n o (tur n j n) = tur n j n ∨ kpB aif ath ac (tur n j n) = false
  | 0, p, h => Or.inl ⟨rfl, fun k h1 h2 => by omega⟩
  | f + 1, p, h => by
    unfold fqF
    by_cases hc : ¬ clo r n o (tur n p n) = tur n p n ∧ kpB aif ath ac (tur n p n) = true
    · rw [if_pos hc]
      exact Or.inr ⟨p, Nat.le_refl _, by omega, rfl, hc.1, hc.2, fun j h1 h2 => by omega⟩
    · rw [if_neg hc]
      have hp : clo r n o (tur n p n) = tur n p n ∨ kpB aif ath ac (tur n p n) = false := by
        by_cases h1 : clo r n o (tur n p n) = tur n p n
        · exact Or.inl h1
        · cases h2 : kpB aif ath ac (tur n p n)
          · exact Or.inr rfl
          · exact absurd ⟨h1, h2⟩ hc
      rcases fq_spec (r := r) (n := n) (o := o) (aif := aif) (ath := ath) (ac := ac) f (p + 1) (by omega) with ⟨h1, h2⟩ | ⟨k, h1, h2, h3, h4, h5, h6⟩
      · refine Or.inl ⟨h1, fun k h3 h4 => ?_⟩
        by_cases e : k = p
        · subst e; exact hp
        · exact h2 k (by omega) h4
      · refine Or.inr ⟨k, by omega, h2, h3, h4, h5, fun j h7 h8 => ?_⟩
        by_cases e : j = p
        · subst e; exact hp
        · exact h6 j (by omega) h8
