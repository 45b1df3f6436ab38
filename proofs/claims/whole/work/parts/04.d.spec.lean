/-! the class: Neighbours -/
def pfB (fd : Nat → Nat) (z q : Nat) : Bool := !decide (∀ j, j < z → sN q (fd j) = false)
theorem lst_get {c : Nat → Nat} {L : List Nat} (h : lstAt c L) {j : Nat} (hj : j < L.length) : L[j] = c j := by
  rw [h j hj, List.getD_eq_getElem?_getD, List.getElem?_eq_getElem hj]; rfl
theorem lst_of {c : Nat → Nat} {L : List Nat} (h : ∀ j (hj : j < L.length), L[j] = c j) : lstAt c L := by
  intro j hj
  rw [List.getD_eq_getElem?_getD, List.getElem?_eq_getElem hj]; exact (h j hj).symm
theorem pfB_iff {fd : Nat → Nat} {L : List Nat} (h : lstAt fd L) {q : Nat} : pfB fd L.length q = true ↔ ∃ x, x ∈ L ∧ sN q x = true := by
  unfold pfB
  rw [Bool.not_eq_true', decide_eq_false_iff_not]
  constructor
  · intro hn
    apply Classical.byContradiction
    intro hc
    apply hn
    intro j hj
    cases hs : sN q (fd j)
    · rfl
    · exact absurd ⟨fd j, lstAt_mem h hj, hs⟩ hc
  · intro ⟨x, hx, hs⟩ hn
    obtain ⟨j, hj, e⟩ := lst_at h hx
    rw [← e, hn j hj] at hs
    cases hs
theorem dr_step {fd fd1 : Nat → Nat} {L : List Nat} {k c : Nat} {p : Nat → Bool} (hL : lstAt fd L) (hk : k < L.length) (h1 : c = ((L.take k).filter p).length) (h2 : lstAt fd1 ((L.take k).filter p)) (h3 : ∀ j, k ≤ j → fd1 j = fd j) :
    (p (fd k) = true → c + 1 = ((L.take (k + 1)).filter p).length ∧ lstAt (va_up fd1 c (fd1 k)) ((L.take (k + 1)).filter p)) ∧ (p (fd k) = false → c = ((L.take (k + 1)).filter p).length ∧ lstAt fd1 ((L.take (k + 1)).filter p)) := by
  have e : L.take (k + 1) = L.take k ++ [fd k] := by rw [List.take_succ_eq_append_getElem hk, lst_get hL hk]
  rw [e, List.filter_append]
  constructor
  · intro h
    rw [List.filter_cons_of_pos h, List.filter_nil, h3 k (Nat.le_refl _)]
    refine ⟨by rw [List.length_append, h1]; rfl, ?_⟩
    rw [h1]
    exact lstAt_push h2
  · intro h
    rw [List.filter_cons_of_neg (by rw [h]; decide), List.filter_nil, List.append_nil]
    exact ⟨h1, h2⟩
theorem dr_le {L : List Nat} {k : Nat} {p : Nat → Bool} : ((L.take k).filter p).length ≤ k := Nat.le_trans (List.length_filter_le _ _) (by rw [List.length_take]; exact Nat.min_le_left _ _)
theorem in_end {fd fd1 : Nat → Nat} {L : List Nat} {p q : Nat} (hL : lstAt fd L) (hp : p ≤ L.length) (h1 : ∀ j, j < p → fd1 j = fd j) (h2 : ∀ j, p < j → j ≤ L.length → fd1 j = fd (j - 1)) : lstAt (va_up fd1 p q) (L.take p ++ q :: L.drop p) := by
  apply lst_of
  intro j hj
  have hl : (L.take p).length = p := by rw [List.length_take]; omega
  rw [List.length_append, hl, List.length_cons, List.length_drop] at hj
  by_cases h : j < p
  · rw [List.getElem_append_left (by rw [hl]; exact h), List.getElem_take, va_up_ne _ _ (by omega), h1 j h]
    exact lst_get hL (by omega)
  · rw [List.getElem_append_right (by rw [hl]; omega)]
    by_cases e : j = p
    · subst e
      rw [va_up_self]
      simp [hl]
    · rw [va_up_ne _ _ e, h2 j (by omega) (by omega)]
      have e2 : j - (L.take p).length = (j - p - 1) + 1 := by rw [hl]; omega
      rw [← lst_get hL (show j - 1 < L.length by omega)]
      simp only [e2, List.getElem_cons_succ, List.getElem_drop]
      congr 1
      omega
/-- found: the greatest ones of those with P, in order -/
def NbOK (P : Nat → Prop) (L : List Nat) : Prop := (∀ x, x ∈ L → P x) ∧ (∀ s, P s → ∃ x, x ∈ L ∧ sN s x = true) ∧ (∀ x y, x ∈ L → y ∈ L → sN x y = true → x = y) ∧ L.Pairwise (fun a b => clI (nI b) (nI a) = true)
theorem nb_0 {P : Nat → Prop} (h : ∀ s, ¬ P s) : NbOK P [] := ⟨fun x hx => absurd hx List.not_mem_nil, fun s hs => absurd hs (h s), fun x _ hx => absurd hx List.not_mem_nil, List.Pairwise.nil⟩
theorem nb_keep {P : Nat → Prop} {L : List Nat} {q : Nat} (h : NbOK P L) (hq : ∃ x, x ∈ L ∧ sN q x = true) : NbOK (fun s => P s ∨ s = q) L := by
  obtain ⟨h1, h2, h3, h4⟩ := h
  refine ⟨fun x hx => Or.inl (h1 x hx), fun s hs => ?_, h3, h4⟩
  rcases hs with hs | hs
  · exact h2 s hs
  · rw [hs]; exact hq
theorem nb_ins {P : Nat → Prop} {L : List Nat} {q p : Nat} (h : NbOK P L) (hq : ¬ ∃ x, x ∈ L ∧ sN q x = true) (M : List Nat) (hM : M = L.filter (fun x => !(sN x q))) (hp1 : ∀ x, x ∈ M.drop p → clI (nI x) (nI q) = true) (hp2 : ∀ x, x ∈ M.take p → clI (nI q) (nI x) = true) : NbOK (fun s => P s ∨ s = q) (M.take p ++ q :: M.drop p) := by
  obtain ⟨h1, h2, h3, h4⟩ := h
  have hmem : ∀ x, x ∈ M.take p ++ q :: M.drop p ↔ x ∈ M ∨ x = q := by
    intro x
    have e : x ∈ M ↔ x ∈ M.take p ++ M.drop p := by rw [List.take_append_drop]
    rw [e, List.mem_append, List.mem_cons, List.mem_append]
    constructor
    · intro z; rcases z with z | z | z
      · exact Or.inl (Or.inl z)
      · exact Or.inr z
      · exact Or.inl (Or.inr z)
    · intro z; rcases z with (z | z) | z
      · exact Or.inl z
      · exact Or.inr (Or.inr z)
      · exact Or.inr (Or.inl z)
  have hMm : ∀ x, x ∈ M ↔ x ∈ L ∧ sN x q = false := by
    intro x; rw [hM, List.mem_filter]; simp
  refine ⟨fun x hx => ?_, fun s hs => ?_, fun x y hx hy hs => ?_, ?_⟩
  · rcases (hmem x).mp hx with z | z
    · exact Or.inl (h1 x ((hMm x).mp z).1)
    · exact Or.inr z
  · rcases hs with hs | hs
    · obtain ⟨x, hx, hsx⟩ := h2 s hs
      cases hb : sN x q
      · exact ⟨x, (hmem x).mpr (Or.inl ((hMm x).mpr ⟨hx, hb⟩)), hsx⟩
      · exact ⟨q, (hmem q).mpr (Or.inr rfl), sN_trans hsx hb⟩
    · exact ⟨q, (hmem q).mpr (Or.inr rfl), by rw [hs]; exact sN_refl q⟩
  · rcases (hmem x).mp hx with zx | zx <;> rcases (hmem y).mp hy with zy | zy
    · exact h3 x y ((hMm x).mp zx).1 ((hMm y).mp zy).1 hs
    · rw [zy, ((hMm x).mp zx).2] at hs; cases hs
    · rw [zx] at hs
      exact absurd ⟨y, ((hMm y).mp zy).1, hs⟩ hq
    · rw [zx, zy]
  · have hMp : M.Pairwise (fun a b => clI (nI b) (nI a) = true) := by rw [hM]; exact h4.filter _
    have hsp : (M.take p ++ M.drop p).Pairwise (fun a b => clI (nI b) (nI a) = true) := by rw [List.take_append_drop]; exact hMp
    rw [List.pairwise_append] at hsp ⊢
    refine ⟨hsp.1, List.pairwise_cons.mpr ⟨fun b hb => hp1 b hb, hsp.2.1⟩, fun a ha b hb => ?_⟩
    rcases List.mem_cons.mp hb with z | z
    · rw [z]; exact hp2 a ha
    · exact hsp.2.2 a ha b z
