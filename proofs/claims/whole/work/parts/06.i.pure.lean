/-! towards the law: the same answers -/
theorem nd_perm : ∀ {L M : List Nat}, L.Nodup → (∀ x, x ∈ L → x ∈ M) → M.length ≤ L.length → L.Perm M
  | [], M, _, _, hl => by
    have : M = [] := List.eq_nil_of_length_eq_zero (Nat.le_zero.mp hl)
    rw [this]
  | a :: t, M, hn, hs, hl => by
    rw [List.nodup_cons] at hn
    have ha : a ∈ M := hs a List.mem_cons_self
    have hp := List.perm_cons_erase ha
    have he : (M.erase a).length = M.length - 1 := by rw [List.length_erase]; simp [ha]
    have hl2 : M.length ≤ t.length + 1 := hl
    have ih := nd_perm (L := t) (M := M.erase a) hn.2 (fun x hx => (List.mem_erase_of_ne (a := x) (b := a) (fun e => hn.1 (by rw [← e]; exact hx))).mpr (hs x (List.mem_cons_of_mem _ hx))) (by omega)
    exact (ih.cons a).trans hp.symm
def frL (c : Nat → Nat) (k : Nat) : List Nat := (List.range k).map c
theorem frL_s (c : Nat → Nat) (k : Nat) : frL c (k + 1) = frL c k ++ [c k] := by unfold frL; rw [List.range_succ, List.map_append]; rfl
theorem frL_mem {c : Nat → Nat} {k x : Nat} : x ∈ frL c k ↔ ∃ j, j < k ∧ c j = x := by
  unfold frL
  rw [List.mem_map]
  constructor
  · intro ⟨j, h1, h2⟩; exact ⟨j, List.mem_range.mp h1, h2⟩
  · intro ⟨j, h1, h2⟩; exact ⟨j, List.mem_range.mpr h1, h2⟩
theorem frL_len (c : Nat → Nat) (k : Nat) : (frL c k).length = k := by unfold frL; rw [List.length_map, List.length_range]
theorem frq_s (r : Nat → Nat) (o : Nat) (c : Nat → Nat) (x : Int32) (k : Nat) : frq r o c x (k + 1) = if nI (bits (ext r (c k) o) 20) < x then frq r o c x k else frq r o c x k + 1 := rfl
theorem frq_len {r : Nat → Nat} {o : Nat} {c : Nat → Nat} {x : Int32} : ∀ k, frq r o c x k = ((frL c k).filter (fun q => !decide (nI (bits (ext r q o) 20) < x))).length
  | 0 => rfl
  | k + 1 => by
    have ih := frq_len (r := r) (o := o) (c := c) (x := x) k
    rw [frL_s, List.filter_append, List.length_append, ← ih, frq_s]
    by_cases h : nI (bits (ext r (c k) o) 20) < x
    · rw [if_pos h, List.filter_cons_of_neg (by rw [decide_eq_true h]; decide)]; rfl
    · rw [if_neg h, List.filter_cons_of_pos (by rw [decide_eq_false h]; decide)]; rfl
theorem frL_lst {c : Nat → Nat} {L : List Nat} (h : lstAt c L) : frL c L.length = L := by
  apply List.ext_getElem
  · rw [frL_len]
  · intro j h1 h2
    rw [lst_get h h2]
    simp [frL]
/-- frequent: any order of the closed sets counts the same -/
theorem frq_same {r : Nat → Nat} {n o z : Nat} {g : Nat → Option Nat} {mem conc : Nat → Nat} {x : Int32} (hf : FamOK n g mem z) (hgc : ∀ q, q < 2 ^ n → (gB g q = true ↔ clo r n o q = q)) (hl : lstAt conc (CL r n o)) : frq r o mem x z = frq r o conc x (CL r n o).length := by
  rw [frq_len, frq_len, frL_lst hl]
  have hz := CL_size hf hgc
  have hp : (CL r n o).Perm (frL mem z) := by
    apply nd_perm (CLp_nodup r n o _ (Nat.le_refl _))
    · intro q hq
      have h1 := CL_mem.mp hq
      exact frL_mem.mpr (hf.2.2.1 q h1.1 ((hgc q h1.1).mpr h1.2))
    · rw [frL_len]; exact Nat.le_of_eq hz.symm
  exact ((hp.filter _).length_eq).symm
/-- holds -/
theorem holds_same {r : Nat → Nat} {n o a b : Nat} (hb : b < 2 ^ n) : sN b (clo r n o a) = decide (∀ k, k < o → sN a (r k) = true → sN b (r k) = true) := by
  apply Bool.eq_iff_iff.mpr
  rw [decide_eq_true_iff]
  constructor
  · intro h k hk hs
    exact sN_trans h (clo_row hk hs)
  · intro h
    exact sN_bit.mpr (fun i hi => clo_bit.mpr ⟨bit_lt hb hi, fun j hj hs => sN_bit.mp (h j hj hs) i hi⟩)
/-- the greatest level is that of all attributes -/
theorem top_level {r : Nat → Nat} {n o co : Nat} {conc lev : Nat → Nat} (hl : lstAt conc (CL r n o)) (hc : co = (CL r n o).length) (hv : ∀ i, i < co → lev i = LV r n o (conc i)) : mxr lev co = LV r n o (2 ^ n - 1) := by
  have ht : 2 ^ n - 1 < 2 ^ n := Nat.sub_lt (Nat.two_pow_pos n) (by decide)
  apply Nat.le_antisymm
  · rw [mxr_le]
    intro i hi
    rw [hv i hi]
    have hm := CL_mem.mp (lstAt_mem hl (by rw [← hc]; exact hi))
    by_cases e : conc i = 2 ^ n - 1
    · rw [e]; exact Nat.le_refl _
    · have hs : sN (conc i) (2 ^ n - 1) = true := sN_bit.mpr (fun j hj => by rw [Nat.testBit_two_pow_sub_one, decide_eq_true (bit_lt hm.1 hj)])
      have := LV_le_of hm.2 hs e
      omega
  · obtain ⟨j, hj, e⟩ := lst_at hl (CL_mem.mpr ⟨ht, clo_top r n o⟩)
    have := mxr_le.mp (Nat.le_refl (mxr lev co)) j (by rw [hc]; exact hj)
    rw [hv j (by rw [hc]; exact hj), e] at this
    exact this
/-- the asking: what lies before the question stays done -/
def doneTo (r : Nat → Nat) (n o : Nat) (aif ath : Nat → Nat) (ac p : Nat) : Prop := ∀ k, k < p → clo r n o (tur n k n) = tur n k n ∨ kpB aif ath ac (tur n k n) = false
theorem kpB_more {aif ath : Nat → Nat} {ac a b q : Nat} (h : kpB aif ath ac q = false) : kpB (va_up aif ac a) (va_up ath ac b) (ac + 1) q = false := by
  unfold kpB at *
  rw [decide_eq_false_iff_not] at h ⊢
  intro z
  apply h
  intro i hi hs
  have := z i (by omega)
  rw [va_up_ne _ _ (by omega), va_up_ne _ _ (by omega)] at this
  exact this hs
theorem kpB_own {r : Nat → Nat} {n o : Nat} {aif ath : Nat → Nat} {ac t : Nat} (ht : t < 2 ^ n) (h : ¬ clo r n o t = t) : kpB (va_up aif ac t) (va_up ath ac (clo r n o t)) (ac + 1) t = false := by
  unfold kpB
  rw [decide_eq_false_iff_not]
  intro z
  have := z ac (Nat.lt_succ_self _)
  rw [va_up_self, va_up_self] at this
  exact h (sN_anti (this (sN_refl t)) (clo_ext ht))
theorem done_yes {r : Nat → Nat} {n o : Nat} {aif ath : Nat → Nat} {ac p a b : Nat} (h : doneTo r n o aif ath ac p) : doneTo r n o (va_up aif ac a) (va_up ath ac b) (ac + 1) p := fun k hk => (h k hk).imp id kpB_more
theorem done_no {r : Nat → Nat} {n o w : Nat} {aif ath : Nat → Nat} {ac p : Nat} (h : doneTo r n o aif ath ac p) : doneTo (va_up r o w) n (o + 1) aif ath ac p := fun k hk => (h k hk).imp (fun z => (clo_more (tur_lt n k n)).mpr (Or.inl (by rw [clo_up]; exact z))) id
theorem ask_yes {r : Nat → Nat} {n o : Nat} {aif ath : Nat → Nat} {ac p a b : Nat} (hp : p ≤ 2 ^ n) (h : doneTo r n o aif ath ac p) : fQ r n o (va_up aif ac a) (va_up ath ac b) (ac + 1) = fqF r n o (va_up aif ac a) (va_up ath ac b) (ac + 1) (2 ^ n - p) p := fq_from hp (done_yes h)
theorem ask_no {r : Nat → Nat} {n o w : Nat} {aif ath : Nat → Nat} {ac p : Nat} (hp : p ≤ 2 ^ n) (h : doneTo r n o aif ath ac p) : fQ (va_up r o w) n (o + 1) aif ath ac = fqF (va_up r o w) n (o + 1) aif ath ac (2 ^ n - p) p := fq_from hp (done_no h)
theorem fQ_case (r : Nat → Nat) (n o : Nat) (aif ath : Nat → Nat) (ac : Nat) : fQ r n o aif ath ac = -1 ∨ ∃ p, p < 2 ^ n ∧ fQ r n o aif ath ac = nI (tur n p n) ∧ ¬ clo r n o (tur n p n) = tur n p n ∧ kpB aif ath ac (tur n p n) = true ∧ doneTo r n o aif ath ac p := by
  rcases fq_spec (r := r) (n := n) (o := o) (aif := aif) (ath := ath) (ac := ac) (2 ^ n) 0 (by omega) with ⟨h1, _⟩ | ⟨k, _, h2, h3, h4, h5, h6⟩
  · exact Or.inl h1
  · exact Or.inr ⟨k, h2, h3, h4, h5, fun j hj => h6 j (Nat.zero_le _) hj⟩
