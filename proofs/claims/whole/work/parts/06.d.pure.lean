/-! the base: the joined closures of the premises in a set -/
def jlF (r : Nat → Nat) (n o q : Nat) : Nat → Nat
  | 0 => 0
  | p + 1 => if ISP r n o p = true ∧ sN p q = true then jlF r n o q p ||| clo r n o p else jlF r n o q p
def JOs (r : Nat → Nat) (n o q : Nat) : Nat := jlF r n o q (q + 1)
theorem jlF_bit {r : Nat → Nat} {n o q i : Nat} : ∀ k, (jlF r n o q k).testBit i = true ↔ ∃ p, p < k ∧ ISP r n o p = true ∧ sN p q = true ∧ (clo r n o p).testBit i = true
  | 0 => by
    unfold jlF
    rw [Nat.zero_testBit]
    exact ⟨fun h => Bool.noConfusion h, fun ⟨p, hp, _⟩ => absurd hp (Nat.not_lt_zero _)⟩
  | k + 1 => by
    have ih := jlF_bit (r := r) (n := n) (o := o) (q := q) (i := i) k
    unfold jlF
    by_cases hc : ISP r n o k = true ∧ sN k q = true
    · rw [if_pos hc, Nat.testBit_or, Bool.or_eq_true, ih]
      constructor
      · intro h
        rcases h with ⟨p, h1, h2⟩ | h
        · exact ⟨p, by omega, h2⟩
        · exact ⟨k, Nat.lt_succ_self k, hc.1, hc.2, h⟩
      · intro ⟨p, h1, h2, h3, h4⟩
        by_cases e : p = k
        · subst e; exact Or.inr h4
        · exact Or.inl ⟨p, by omega, h2, h3, h4⟩
    · rw [if_neg hc, ih]
      constructor
      · intro ⟨p, h1, h2⟩; exact ⟨p, by omega, h2⟩
      · intro ⟨p, h1, h2, h3, h4⟩
        by_cases e : p = k
        · subst e; exact absurd ⟨h2, h3⟩ hc
        · exact ⟨p, by omega, h2, h3, h4⟩
theorem JO_bit {r : Nat → Nat} {n o q i : Nat} : (JOs r n o q).testBit i = true ↔ ∃ p, ISP r n o p = true ∧ sN p q = true ∧ (clo r n o p).testBit i = true := by
  unfold JOs
  rw [jlF_bit]
  constructor
  · intro ⟨p, _, h⟩; exact ⟨p, h⟩
  · intro ⟨p, h1, h2, h3⟩; exact ⟨p, by have := sN_le h2; omega, h1, h2, h3⟩
theorem jpF_bit {jo : Nat → Nat} {q i : Nat} : ∀ k, (jpF jo q k).testBit i = true ↔ ∃ l, l < k ∧ q.testBit l = true ∧ (jo (q ^^^ 2 ^ l)).testBit i = true
  | 0 => by
    unfold jpF
    rw [Nat.zero_testBit]
    exact ⟨fun h => Bool.noConfusion h, fun ⟨p, hp, _⟩ => absurd hp (Nat.not_lt_zero _)⟩
  | k + 1 => by
    have ih := jpF_bit (jo := jo) (q := q) (i := i) k
    unfold jpF
    by_cases hc : q.testBit k = true
    · rw [if_pos hc, Nat.testBit_or, Bool.or_eq_true, ih]
      constructor
      · intro h
        rcases h with ⟨p, h1, h2⟩ | h
        · exact ⟨p, by omega, h2⟩
        · exact ⟨k, Nat.lt_succ_self k, hc, h⟩
      · intro ⟨p, h1, h2, h3⟩
        by_cases e : p = k
        · subst e; exact Or.inr h3
        · exact Or.inl ⟨p, by omega, h2, h3⟩
    · rw [if_neg hc, ih]
      constructor
      · intro ⟨p, h1, h2⟩; exact ⟨p, by omega, h2⟩
      · intro ⟨p, h1, h2, h3⟩
        by_cases e : p = k
        · subst e; exact absurd h2 hc
        · exact ⟨p, by omega, h2, h3⟩
theorem sub_xor {p q k : Nat} (h : sN p q = true) (hk : p.testBit k = false) : sN p (q ^^^ 2 ^ k) = true := sN_bit.mpr (fun i hi => by
  rw [xor_pow_bit]
  by_cases e : k = i
  · subst e; rw [hk] at hi; cases hi
  · rw [decide_eq_false e, Bool.xor_false]; exact sN_bit.mp h i hi)
theorem sub_miss {p q : Nat} (h : sN p q = true) (hne : ¬ p = q) : ∃ k, q.testBit k = true ∧ p.testBit k = false := by
  apply Classical.byContradiction
  intro hc
  apply hne
  apply sN_anti h
  exact sN_bit.mpr (fun i hi => by
    cases hp : p.testBit i
    · exact absurd ⟨i, hi, hp⟩ hc
    · rfl)
theorem jp_bit {r : Nat → Nat} {n o q i : Nat} (hq : q < 2 ^ n) : (jpF (JOs r n o) q n).testBit i = true ↔ ∃ p, ISP r n o p = true ∧ sN p q = true ∧ ¬ p = q ∧ (clo r n o p).testBit i = true := by
  rw [jpF_bit]
  constructor
  · intro ⟨l, h1, h2, h3⟩
    obtain ⟨p, h4, h5, h6⟩ := JO_bit.mp h3
    have hx := xor_part h2
    refine ⟨p, h4, sN_trans h5 hx.1, fun e => ?_, h6⟩
    rw [e] at h5
    exact hx.2 (sN_anti hx.1 h5)
  · intro ⟨p, h1, h2, h3, h4⟩
    obtain ⟨k, h5, h6⟩ := sub_miss h2 h3
    exact ⟨k, bit_lt hq h5, h5, JO_bit.mpr ⟨p, h1, sub_xor h2 h6, h4⟩⟩
theorem JO_eq {r : Nat → Nat} {n o q : Nat} (hq : q < 2 ^ n) : JOs r n o q = if ISP r n o q = true then jpF (JOs r n o) q n ||| clo r n o q else jpF (JOs r n o) q n := by
  apply Nat.eq_of_testBit_eq
  intro i
  apply Bool.eq_iff_iff.mpr
  rw [JO_bit]
  by_cases hi : ISP r n o q = true
  · rw [if_pos hi, Nat.testBit_or, Bool.or_eq_true, jp_bit hq]
    constructor
    · intro ⟨p, h1, h2, h3⟩
      by_cases e : p = q
      · subst e; exact Or.inr h3
      · exact Or.inl ⟨p, h1, h2, e, h3⟩
    · intro h
      rcases h with ⟨p, h1, h2, _, h3⟩ | h
      · exact ⟨p, h1, h2, h3⟩
      · exact ⟨q, hi, sN_refl q, h⟩
  · rw [if_neg hi, jp_bit hq]
    constructor
    · intro ⟨p, h1, h2, h3⟩
      refine ⟨p, h1, h2, fun e => ?_, h3⟩
      rw [e] at h1; exact hi h1
    · intro ⟨p, h1, h2, _, h3⟩; exact ⟨p, h1, h2, h3⟩
theorem JO_lt (r : Nat → Nat) (n o q : Nat) : JOs r n o q < 2 ^ n := by
  apply Nat.lt_pow_two_of_testBit
  intro i hi
  cases h : (JOs r n o q).testBit i
  · rfl
  · obtain ⟨p, _, _, h3⟩ := JO_bit.mp h
    have := bit_lt (clo_lt r n o p) h3
    omega
theorem ISP_jo {r : Nat → Nat} {n o q : Nat} (hq : q < 2 ^ n) : ISP r n o q = (decide (¬ clo r n o q = q) && sN (jpF (JOs r n o) q n) q) := by
  rw [ISP_eq]
  congr 1
  apply Bool.eq_iff_iff.mpr
  unfold kpP
  rw [decide_eq_true_iff, sN_bit]
  constructor
  · intro h i hi
    obtain ⟨p, h1, h2, h3, h4⟩ := (jp_bit hq).mp hi
    exact sN_bit.mp (h p (by have := sN_le h2; omega) h2 h1) i h4
  · intro h p hp hs hi
    exact sN_bit.mpr (fun i hci => h i ((jp_bit hq).mpr ⟨p, hi, hs, by omega, hci⟩))
/-! neighbours: lists in order with the same members are the same -/
theorem lst_ext {key : Nat → Nat} : ∀ {L M : List Nat}, L.Pairwise (fun a b => key a < key b) → M.Pairwise (fun a b => key a < key b) → (∀ x, x ∈ L ↔ x ∈ M) → L = M
  | [], [], _, _, _ => rfl
  | [], b :: M, _, _, h => absurd ((h b).mpr List.mem_cons_self) List.not_mem_nil
  | a :: L, [], _, _, h => absurd ((h a).mp List.mem_cons_self) List.not_mem_nil
  | a :: L, b :: M, hL, hM, h => by
    rw [List.pairwise_cons] at hL hM
    have e : a = b := by
      rcases List.mem_cons.mp ((h a).mp List.mem_cons_self) with z | z
      · exact z
      · rcases List.mem_cons.mp ((h b).mpr List.mem_cons_self) with y | y
        · exact y.symm
        · have h1 := hM.1 a z
          have h2 := hL.1 b y
          omega
    subst e
    rw [lst_ext hL.2 hM.2 (fun x => ?_)]
    constructor
    · intro hx
      rcases List.mem_cons.mp ((h x).mp (List.mem_cons_of_mem _ hx)) with z | z
      · rw [z] at hx; exact absurd (hL.1 a hx) (Nat.lt_irrefl _)
      · exact z
    · intro hx
      rcases List.mem_cons.mp ((h x).mpr (List.mem_cons_of_mem _ hx)) with z | z
      · rw [z] at hx; exact absurd (hM.1 a hx) (Nat.lt_irrefl _)
      · exact z
