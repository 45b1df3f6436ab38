/-! what follows: passes until nothing changes -/
theorem isF_uniq {prem concl : Nat → Nat} {L q a b : Nat} (ha : isF prem concl L q a) (hb : isF prem concl L q b) : a = b := sN_anti (ha.2.2 b hb.1 hb.2.1) (hb.2.2 a ha.1 ha.2.1)
theorem apF_sub {prem concl : Nat → Nat} {g : Nat} : ∀ i, sN g (apF prem concl i g) = true
  | 0 => sN_refl g
  | i + 1 => by
    have ih := apF_sub (prem := prem) (concl := concl) (g := g) i
    unfold apF
    split
    · exact sN_trans ih sN_or
    · exact ih
theorem apF_min {prem concl : Nat → Nat} {L g S : Nat} (hg : sN g S = true) (hS : kpB prem concl L S = true) : ∀ i, i ≤ L → sN (apF prem concl i g) S = true
  | 0, _ => hg
  | i + 1, h => by
    have ih := apF_min hg hS i (by omega)
    unfold apF
    split
    · rename_i hp; exact fl_min (by omega) hp ih hS
    · exact ih
theorem apF_step {prem concl : Nat → Nat} {g : Nat} (i : Nat) : sN (apF prem concl i g) (apF prem concl (i + 1) g) = true := by
  show sN _ (if sN (prem i) (apF prem concl i g) = true then apF prem concl i g ||| concl i else apF prem concl i g) = true
  split
  · exact sN_or
  · exact sN_refl _
theorem apF_up {prem concl : Nat → Nat} {g i : Nat} : ∀ k, sN (apF prem concl i g) (apF prem concl (i + k) g) = true
  | 0 => sN_refl _
  | k + 1 => sN_trans (apF_up k) (apF_step (i + k))
theorem apF_fix {prem concl : Nat → Nat} {L g : Nat} (h : apF prem concl L g = g) : kpB prem concl L g = true := by
  unfold kpB
  apply decide_eq_true
  intro i hi hp
  have h1 : apF prem concl i g = g := by
    apply sN_anti
    · have := apF_up (prem := prem) (concl := concl) (g := g) (i := i) (L - i)
      rw [show i + (L - i) = L by omega, h] at this; exact this
    · exact apF_sub i
  have h2 : apF prem concl (i + 1) g = g := by
    apply sN_anti
    · have := apF_up (prem := prem) (concl := concl) (g := g) (i := i + 1) (L - (i + 1))
      rw [show i + 1 + (L - (i + 1)) = L by omega, h] at this; exact this
    · exact apF_sub (i + 1)
  have h3 : apF prem concl (i + 1) g = apF prem concl i g ||| concl i := by
    show (if sN (prem i) (apF prem concl i g) = true then apF prem concl i g ||| concl i else apF prem concl i g) = _
    rw [if_pos (by rw [h1]; exact hp)]
  rw [h2, h1] at h3
  exact sN_bit.mpr (fun j hj => by rw [h3, Nat.testBit_or, hj, Bool.or_true])
theorem lkF_isF {prem concl : Nat → Nat} {n L q : Nat} (hn : n ≤ 12) (hc : ∀ j, j < L → concl j < 2 ^ n) : ∀ f g, g < 2 ^ n → sN q g = true → (∀ S, sN q S = true → kpB prem concl L S = true → sN g S = true) → n - bits g 12 < f → isF prem concl L q (lkF prem concl L f g)
  | 0, _, _, _, _, h => absurd h (Nat.not_lt_zero _)
  | f + 1, g, hg, hq, hm, hf => by
    unfold lkF
    by_cases h : apF prem concl L g = g
    · rw [if_pos h]; exact ⟨hq, apF_fix h, hm⟩
    · rw [if_neg h]
      have hl := apF_lt (prem := prem) hg L hc
      have h2n := p2_le hn
      have hb := bits_lt (p := g) (q := apF prem concl L g) (by omega) (apF_sub L) (fun e => h e.symm)
      have hb2 := bits_hi hl 12
      exact lkF_isF hn hc f _ hl (sN_trans hq (apF_sub L)) (fun S h1 h2 => apF_min (hm S h1 h2) h2 L (Nat.le_refl _)) (by omega)
theorem lk_13 {prem concl : Nat → Nat} {n L q : Nat} (hn : n ≤ 12) (hq : q < 2 ^ n) (hc : ∀ j, j < L → concl j < 2 ^ n) : isF prem concl L q (lkF prem concl L 13 q) := lkF_isF hn hc 13 q hq (sN_refl q) (fun _ h _ => h) (by omega)
theorem kpB_congr {prem concl prem' concl' : Nat → Nat} {L q : Nat} (h1 : ∀ j, j < L → prem j = prem' j) (h2 : ∀ j, j < L → concl j = concl' j) : kpB prem concl L q = kpB prem' concl' L q := by
  unfold kpB
  congr 1
  apply propext
  constructor
  · intro h j hj; rw [← h1 j hj, ← h2 j hj]; exact h j hj
  · intro h j hj; rw [h1 j hj, h2 j hj]; exact h j hj
theorem isF_congr {prem concl prem' concl' : Nat → Nat} {L q g : Nat} (h1 : ∀ j, j < L → prem j = prem' j) (h2 : ∀ j, j < L → concl j = concl' j) (h : isF prem concl L q g) : isF prem' concl' L q g := ⟨h.1, by rw [← kpB_congr h1 h2]; exact h.2.1, fun S h3 h4 => h.2.2 S h3 (by rw [kpB_congr h1 h2]; exact h4)⟩
/-! the next closed set -/
/-- the first closed set behind place p, or none -/
theorem nx_first {r : Nat → Nat} {n o q : Nat} (hn : n ≤ 12) (hq : q < 2 ^ n) : ∀ f p, p + f = 2 ^ n → (nxF r n o q f p = -1 ∧ ∀ k, p ≤ k → k < 2 ^ n → tur n q n < k → ¬ clo r n o (tur n k n) = tur n k n) ∨ ∃ k, p ≤ k ∧ k < 2 ^ n ∧ tur n q n < k ∧ clo r n o (tur n k n) = tur n k n ∧ nxF r n o q f p = nI (tur n k n) ∧ ∀ j, p ≤ j → j < k → tur n q n < j → ¬ clo r n o (tur n j n) = tur n j n
  | 0, p, h => Or.inl ⟨rfl, fun k h1 h2 => by omega⟩
  | f + 1, p, h => by
    have hl : latI (nI (tur n p n)) (nI q) = true ↔ tur n q n < p := by rw [latI_tur hn (tur_lt n p n) hq, tur_tur (by omega)]
    unfold nxF
    by_cases hc : latI (nI (tur n p n)) (nI q) = true ∧ clo r n o (tur n p n) = tur n p n
    · rw [if_pos hc]
      exact Or.inr ⟨p, Nat.le_refl _, by omega, hl.mp hc.1, hc.2, rfl, fun j h1 h2 => by omega⟩
    · rw [if_neg hc]
      rcases nx_first hn hq f (p + 1) (by omega) with ⟨h1, h2⟩ | ⟨k, h1, h2, h3, h4, h5, h6⟩
      · refine Or.inl ⟨h1, fun k h3 h4 h5 => ?_⟩
        by_cases e : k = p
        · subst e; exact fun z => hc ⟨hl.mpr h5, z⟩
        · exact h2 k (by omega) h4 h5
      · refine Or.inr ⟨k, by omega, h2, h3, h4, h5, fun j h7 h8 h9 => ?_⟩
        by_cases e : j = p
        · subst e; exact fun z => hc ⟨hl.mpr h9, z⟩
        · exact h6 j (by omega) h8 h9
