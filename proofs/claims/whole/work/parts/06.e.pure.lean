/-! concepts right above and right below -/
def alF (conc : Nat → Nat) (co i : Nat) : Nat → List Nat
  | 0 => []
  | j + 1 => if raB conc co j i = true then alF conc co i j ++ [conc j] else alF conc co i j
def blF (conc : Nat → Nat) (co i : Nat) : Nat → List Nat
  | 0 => []
  | j + 1 => if raB conc co i j = true then blF conc co i j ++ [conc j] else blF conc co i j
theorem alF_len (conc : Nat → Nat) (co i : Nat) : ∀ k, (alF conc co i k).length ≤ k
  | 0 => Nat.le_refl _
  | k + 1 => by
    have := alF_len conc co i k
    unfold alF
    split
    · rw [List.length_append]; exact Nat.succ_le_succ this
    · omega
theorem alF_mem {conc : Nat → Nat} {co i x : Nat} : ∀ k, x ∈ alF conc co i k ↔ ∃ j, j < k ∧ conc j = x ∧ raB conc co j i = true
  | 0 => ⟨fun h => absurd h List.not_mem_nil, fun ⟨j, hj, _⟩ => absurd hj (Nat.not_lt_zero _)⟩
  | k + 1 => by
    have ih := alF_mem (conc := conc) (co := co) (i := i) (x := x) k
    unfold alF
    by_cases h : raB conc co k i = true
    · rw [if_pos h, List.mem_append, ih, List.mem_singleton]
      constructor
      · intro z; rcases z with ⟨j, h1, h2⟩ | z
        · exact ⟨j, by omega, h2⟩
        · exact ⟨k, Nat.lt_succ_self k, z.symm, h⟩
      · intro ⟨j, h1, h2, h3⟩
        by_cases e : j = k
        · subst e; exact Or.inr h2.symm
        · exact Or.inl ⟨j, by omega, h2, h3⟩
    · rw [if_neg h, ih]
      constructor
      · intro ⟨j, h1, h2⟩; exact ⟨j, by omega, h2⟩
      · intro ⟨j, h1, h2, h3⟩
        by_cases e : j = k
        · subst e; exact absurd h3 h
        · exact ⟨j, by omega, h2, h3⟩
theorem blF_mem {conc : Nat → Nat} {co i x : Nat} : ∀ k, x ∈ blF conc co i k ↔ ∃ j, j < k ∧ conc j = x ∧ raB conc co i j = true
  | 0 => ⟨fun h => absurd h List.not_mem_nil, fun ⟨j, hj, _⟩ => absurd hj (Nat.not_lt_zero _)⟩
  | k + 1 => by
    have ih := blF_mem (conc := conc) (co := co) (i := i) (x := x) k
    unfold blF
    by_cases h : raB conc co i k = true
    · rw [if_pos h, List.mem_append, ih, List.mem_singleton]
      constructor
      · intro z; rcases z with ⟨j, h1, h2⟩ | z
        · exact ⟨j, by omega, h2⟩
        · exact ⟨k, Nat.lt_succ_self k, z.symm, h⟩
      · intro ⟨j, h1, h2, h3⟩
        by_cases e : j = k
        · subst e; exact Or.inr h2.symm
        · exact Or.inl ⟨j, by omega, h2, h3⟩
    · rw [if_neg h, ih]
      constructor
      · intro ⟨j, h1, h2⟩; exact ⟨j, by omega, h2⟩
      · intro ⟨j, h1, h2, h3⟩
        by_cases e : j = k
        · subst e; exact absurd h3 h
        · exact ⟨j, by omega, h2, h3⟩
theorem alF_s (conc : Nat → Nat) (co i j : Nat) : alF conc co i (j + 1) = if raB conc co j i = true then alF conc co i j ++ [conc j] else alF conc co i j := rfl
theorem alF_pre {conc : Nat → Nat} {co i t j : Nat} (ht : t < (alF conc co i j).length) : ∀ d, t < (alF conc co i (j + d)).length ∧ (alF conc co i (j + d)).getD t 0 = (alF conc co i j).getD t 0
  | 0 => ⟨ht, rfl⟩
  | d + 1 => by
    have ih := alF_pre ht d
    rw [← Nat.add_assoc, alF_s]
    by_cases h : raB conc co (j + d) i = true
    · rw [if_pos h]
      refine ⟨by rw [List.length_append]; exact Nat.lt_of_lt_of_le ih.1 (Nat.le_add_right _ _), ?_⟩
      rw [← ih.2, List.getD_eq_getElem?_getD, List.getD_eq_getElem?_getD, List.getElem?_append_left ih.1]
    · rw [if_neg h]; exact ih
theorem no_eq {a : Nat} {w : Int32} (ha : a < 2 ^ 31) (hw : w < 0) : ¬ nI a = w := fun e => by
  rw [← e] at hw; exact nI_pos ha hw
theorem cp_3 {conc : Nat → Nat} {co i : Nat} (hc : co ≤ 4096) : ∀ f j b, j + f = co → cpF conc co i 3 f j (alF conc co i j).length b = nI (alF conc co i co).length
  | 0, j, b, h => by
    rw [show j = co by omega]
    unfold cpF
    rw [if_pos rfl]
  | f + 1, j, b, h => by
    have hl := alF_len conc co i j
    have ih := fun b' => cp_3 (conc := conc) (co := co) (i := i) hc f (j + 1) b' (by omega)
    unfold cpF
    by_cases hr : raB conc co j i = true
    · rw [if_pos hr, if_neg (no_eq (by omega) (by decide))]
      rw [show alF conc co i (j + 1) = alF conc co i j ++ [conc j] by rw [alF, if_pos hr], List.length_append] at ih
      exact ih _
    · rw [if_neg hr]
      rw [show alF conc co i (j + 1) = alF conc co i j by rw [alF, if_neg hr]] at ih
      exact ih _
theorem cp_4 {conc : Nat → Nat} {co i : Nat} (hc : co ≤ 4096) : ∀ f j a, a ≤ j → j + f = co → cpF conc co i 4 f j a (blF conc co i j).length = nI (blF conc co i co).length
  | 0, j, a, _, h => by
    rw [show j = co by omega]
    unfold cpF
    rw [if_neg (by decide), if_pos rfl]
  | f + 1, j, a, ha, h => by
    have hb : (if raB conc co i j = true then (blF conc co i j).length + 1 else (blF conc co i j).length) = (blF conc co i (j + 1)).length := by
      rw [blF]
      split
      · rw [List.length_append]; rfl
      · rfl
    unfold cpF
    rw [hb]
    split
    · rw [if_neg (no_eq (by omega) (by decide))]
      exact cp_4 hc f (j + 1) (a + 1) (by omega) (by omega)
    · exact cp_4 hc f (j + 1) a (by omega) (by omega)
theorem cp_5 {conc : Nat → Nat} {co i t : Nat} (hc : co ≤ 4096) (ht : t + 5 < 2 ^ 31) : ∀ f j b, j + f = co → (alF conc co i j).length ≤ t → cpF conc co i (nI (t + 5)) f j (alF conc co i j).length b = if t < (alF conc co i co).length then nI ((alF conc co i co).getD t 0) else -1
  | 0, j, b, h, hle => by
    have e : j = co := by omega
    subst e
    unfold cpF
    rw [if_neg (fun z => by have := (nI_eq (a := t + 5) (b := 3) ht (by decide)).mp z; omega), if_neg (fun z => by have := (nI_eq (a := t + 5) (b := 4) ht (by decide)).mp z; omega), if_neg (by omega)]
  | f + 1, j, b, h, hle => by
    have hl := alF_len conc co i j
    have e5 : nI (t + 5) - (5 : Int32) = nI t := by rw [show nI (t + 5) - (5 : Int32) = nI (t + 5 - 5) from pk_sub (a := t + 5) (b := 5) (by omega), Nat.add_sub_cancel]
    unfold cpF
    by_cases hr : raB conc co j i = true
    · rw [if_pos hr, e5]
      have e1 : alF conc co i (j + 1) = alF conc co i j ++ [conc j] := by rw [alF, if_pos hr]
      by_cases he : (alF conc co i j).length = t
      · rw [if_pos (by rw [he])]
        have h1 : t < (alF conc co i (j + 1)).length := by rw [e1, List.length_append, ← he]; exact Nat.lt_succ_self _
        have h2 := alF_pre h1 f
        rw [show j + 1 + f = co by omega] at h2
        rw [if_pos h2.1, h2.2, e1, ← he]
        simp
      · rw [if_neg (fun z => he ((nI_eq (by omega) (by omega)).mp z))]
        have ih := cp_5 (conc := conc) (co := co) (i := i) hc ht f (j + 1) (if raB conc co i j = true then b + 1 else b) (by omega) (by rw [e1, List.length_append]; show (alF conc co i j).length + 1 ≤ t; omega)
        rw [e1, List.length_append] at ih
        exact ih
    · rw [if_neg hr]
      have e1 : alF conc co i (j + 1) = alF conc co i j := by rw [alF, if_neg hr]
      have ih := cp_5 (conc := conc) (co := co) (i := i) hc ht f (j + 1) (if raB conc co i j = true then b + 1 else b) (by omega) (by rw [e1]; exact hle)
      rw [e1] at ih
      exact ih
theorem CLp_sort (r : Nat → Nat) (n o : Nat) : ∀ p, p ≤ 2 ^ n → (CLp r n o p).Pairwise (fun a b => tur n a n < tur n b n)
  | 0, _ => List.Pairwise.nil
  | p + 1, h => by
    have ih := CLp_sort r n o p (by omega)
    unfold CLp
    split
    · rw [List.pairwise_append]
      refine ⟨ih, List.pairwise_singleton _ _, fun a ha b hb => ?_⟩
      rw [List.mem_singleton.mp hb]
      obtain ⟨k, h1, h2, _⟩ := (CLp_mem p).mp ha
      rw [← h2, tur_tur (by omega), tur_tur (by omega)]
      exact h1
    · exact ih
theorem conc_lt {r : Nat → Nat} {n o : Nat} {conc : Nat → Nat} (hl : lstAt conc (CL r n o)) {i j : Nat} (hij : i < j) (hj : j < (CL r n o).length) : tur n (conc i) n < tur n (conc j) n := by
  have h := List.pairwise_iff_getElem.mp (CLp_sort r n o _ (Nat.le_refl _)) i j (Nat.lt_trans hij hj) hj hij
  have e1 := lst_get hl (Nat.lt_trans hij hj)
  have e2 := lst_get hl hj
  rw [← e1, ← e2]
  exact h
theorem alF_sort {r : Nat → Nat} {n o i : Nat} {conc : Nat → Nat} (hl : lstAt conc (CL r n o)) : ∀ k, k ≤ (CL r n o).length → (alF conc (CL r n o).length i k).Pairwise (fun a b => tur n a n < tur n b n)
  | 0, _ => List.Pairwise.nil
  | k + 1, h => by
    have ih := alF_sort (i := i) hl k (by omega)
    unfold alF
    split
    · rw [List.pairwise_append]
      refine ⟨ih, List.pairwise_singleton _ _, fun a ha b hb => ?_⟩
      rw [List.mem_singleton.mp hb]
      obtain ⟨j, h1, h2, _⟩ := (alF_mem k).mp ha
      rw [← h2]
      exact conc_lt hl h1 (by omega)
    · exact ih
theorem blF_nodup {r : Nat → Nat} {n o i : Nat} {conc : Nat → Nat} (hl : lstAt conc (CL r n o)) : ∀ k, k ≤ (CL r n o).length → (blF conc (CL r n o).length i k).Nodup
  | 0, _ => List.nodup_nil
  | k + 1, h => by
    have ih := blF_nodup (i := i) hl k (by omega)
    unfold blF
    split
    · rw [List.nodup_append]
      refine ⟨ih, List.pairwise_singleton _ _, fun a ha b hb e => ?_⟩
      rw [List.mem_singleton.mp hb] at e
      obtain ⟨j, h1, h2, _⟩ := (blF_mem k).mp ha
      have := conc_lt hl h1 (by omega)
      rw [h2, e] at this
      exact Nat.lt_irrefl _ this
    · exact ih
/-- x lies right above q among the closed sets -/
def rA (r : Nat → Nat) (n o x q : Nat) : Prop := x < 2 ^ n ∧ clo r n o x = x ∧ sN x q = true ∧ ¬ x = q ∧ ∀ y, y < 2 ^ n → clo r n o y = y → sN x y = true → sN y q = true → y = x ∨ y = q
theorem raB_iff {r : Nat → Nat} {n o : Nat} {conc : Nat → Nat} (hl : lstAt conc (CL r n o)) {i j : Nat} (hi : i < (CL r n o).length) (hj : j < (CL r n o).length) : raB conc (CL r n o).length j i = true ↔ rA r n o (conc j) (conc i) := by
  have hN : (CL r n o).Nodup := CLp_nodup r n o _ (Nat.le_refl _)
  unfold raB
  rw [decide_eq_true_iff]
  have hmj := CL_mem.mp (lstAt_mem hl hj)
  constructor
  · intro ⟨h1, h2, h3⟩
    refine ⟨hmj.1, hmj.2, h2, fun e => h1 (lst_inj hl hN hj hi e), fun y hy hc hs1 hs2 => ?_⟩
    obtain ⟨k, hk, e⟩ := lst_at hl (CL_mem.mpr ⟨hy, hc⟩)
    apply Classical.byContradiction
    intro hn
    have := h3 k hk (fun z => hn (Or.inr (by rw [← e, z]))) (fun z => hn (Or.inl (by rw [← e, z]))) (by rw [e]; exact hs1)
    rw [e, hs2] at this; cases this
  · intro ⟨_, _, h3, h4, h5⟩
    refine ⟨fun e => h4 (by rw [e]), h3, fun k hk hki hkj hs => ?_⟩
    cases hb : sN (conc k) (conc i)
    · rfl
    · have hm := CL_mem.mp (lstAt_mem hl hk)
      rcases h5 (conc k) hm.1 hm.2 hs hb with z | z
      · exact absurd (lst_inj hl hN hk hj z) hkj
      · exact absurd (lst_inj hl hN hk hi z) hki
/-- what the class found above is what lies right above -/
theorem ab_mem {r : Nat → Nat} {n o q : Nat} {L : List Nat} (hq : q < 2 ^ n) (hc : clo r n o q = q) (h : NbOK (P_ab r q o) L) (x : Nat) : x ∈ L ↔ rA r n o x q := by
  obtain ⟨h1, h2, h3, _⟩ := h
  have hP : ∀ s, P_ab r q o s → s < 2 ^ n ∧ clo r n o s = s ∧ sN s q = true ∧ ¬ s = q := fun s ⟨i, hi, e, hne⟩ => by
    rw [← e]; rw [← e] at hne
    exact ⟨Nat.lt_of_le_of_lt Nat.and_le_left hq, clo_meet hq hc hi, sN_and_l _ _, hne⟩
  constructor
  · intro hx
    have hp := hP x (h1 x hx)
    refine ⟨hp.1, hp.2.1, hp.2.2.1, hp.2.2.2, fun y hy hcy hs1 hs2 => ?_⟩
    by_cases e : y = q
    · exact Or.inr e
    · obtain ⟨k, hk, g1, g2⟩ := clo_below hq hcy hs2 e
      obtain ⟨x', hx', g3⟩ := h2 (q &&& r k) ⟨k, hk, rfl, g2⟩
      have e2 := h3 x x' hx hx' (sN_trans hs1 (sN_trans g1 g3))
      rw [← e2] at g3
      exact Or.inl (sN_anti (sN_trans g1 g3) hs1)
  · intro ⟨g1, g2, g3, g4, g5⟩
    obtain ⟨k, hk, f1, f2⟩ := clo_below hq g2 g3 g4
    have hs := hP (q &&& r k) ⟨k, hk, rfl, f2⟩
    rcases g5 _ hs.1 hs.2.1 f1 hs.2.2.1 with z | z
    · obtain ⟨x', hx', f3⟩ := h2 x ⟨k, hk, z, g4⟩
      have hp := hP x' (h1 x' hx')
      rcases g5 x' hp.1 hp.2.1 f3 hp.2.2.1 with y | y
      · rw [← y]; exact hx'
      · exact absurd y hp.2.2.2
    · exact absurd z f2
theorem ab_list {r : Nat → Nat} {n o i : Nat} {conc : Nat → Nat} {L : List Nat} (hn : n ≤ 12) (hl : lstAt conc (CL r n o)) (hi : i < (CL r n o).length) (h : NbOK (P_ab r (conc i) o) L) : alF conc (CL r n o).length i (CL r n o).length = L := by
  have hm := CL_mem.mp (lstAt_mem hl hi)
  apply lst_ext (key := fun x => tur n x n) (alF_sort hl _ (Nat.le_refl _))
  · refine List.Pairwise.imp_of_mem ?_ h.2.2.2
    intro a b ha hb hab
    exact (clI_tur hn ((ab_mem hm.1 hm.2 h b).mp hb).1 ((ab_mem hm.1 hm.2 h a).mp ha).1).mp hab
  · intro x
    rw [alF_mem, ab_mem hm.1 hm.2 h]
    constructor
    · intro ⟨j, hj, e, hr⟩
      rw [← e]; exact (raB_iff hl hi hj).mp hr
    · intro hr
      obtain ⟨j, hj, e⟩ := lst_at hl (CL_mem.mpr ⟨hr.1, hr.2.1⟩)
      exact ⟨j, hj, e, (raB_iff hl hi hj).mpr (by rw [e]; exact hr)⟩
/-! complements -/
theorem cp_bit {n c i : Nat} : ((2 ^ n - 1) ^^^ c).testBit i = (decide (i < n) ^^ c.testBit i) := by rw [Nat.testBit_xor, Nat.testBit_two_pow_sub_one]
theorem cp_cp (n c : Nat) : (2 ^ n - 1) ^^^ ((2 ^ n - 1) ^^^ c) = c := by rw [← Nat.xor_assoc, Nat.xor_self, Nat.zero_xor]
theorem cp_lt {n c : Nat} (h : c < 2 ^ n) : (2 ^ n - 1) ^^^ c < 2 ^ n := Nat.xor_lt_two_pow (Nat.sub_lt (Nat.two_pow_pos n) (by decide)) h
theorem cp_sub {n a b : Nat} (ha : a < 2 ^ n) (h : sN a b = true) : sN ((2 ^ n - 1) ^^^ b) ((2 ^ n - 1) ^^^ a) = true ∨ ¬ b < 2 ^ n := by
  by_cases hb : b < 2 ^ n
  · left
    exact sN_bit.mpr (fun i hi => by
      rw [cp_bit] at hi ⊢
      by_cases hin : i < n
      · rw [decide_eq_true hin] at hi ⊢
        have hbi : b.testBit i = false := by simpa using hi
        cases hai : a.testBit i
        · rfl
        · rw [sN_bit.mp h i hai] at hbi; cases hbi
      · rw [decide_eq_false hin, Bool.false_xor] at hi
        exact absurd (bit_lt hb hi) hin)
  · right; exact hb
theorem cp_sub' {n a b : Nat} (ha : a < 2 ^ n) (hb : b < 2 ^ n) (h : sN a b = true) : sN ((2 ^ n - 1) ^^^ b) ((2 ^ n - 1) ^^^ a) = true := by
  rcases cp_sub ha h with z | z
  · exact z
  · exact absurd hb z
/-- what the class found below is what lies right below -/
theorem be_mem {r : Nat → Nat} {n o q : Nat} {L : List Nat} (hq : q < 2 ^ n) (hc : clo r n o q = q) (h : NbOK (P_be r n o q n) L) (y : Nat) : (y < 2 ^ n ∧ ((2 ^ n - 1) ^^^ y) ∈ L) ↔ (y < 2 ^ n ∧ clo r n o y = y ∧ rA r n o q y) := by
  obtain ⟨h1, h2, h3, _⟩ := h
  have hC : ∀ k, q.testBit k = false → k < n → clo r n o (q ||| 2 ^ k) < 2 ^ n ∧ sN q (clo r n o (q ||| 2 ^ k)) = true ∧ ¬ q = clo r n o (q ||| 2 ^ k) := fun k hk hkn => by
    have hol := or_pow_lt hq hkn
    have he := clo_ext (r := r) (o := o) hol
    refine ⟨clo_lt _ _ _ _, sN_trans sN_or he, fun e => ?_⟩
    have : (clo r n o (q ||| 2 ^ k)).testBit k = true := sN_bit.mp he k (by rw [Nat.testBit_or, Nat.testBit_two_pow_self, Bool.or_true])
    rw [← e, hk] at this; cases this
  have hlow : ∀ m, m < 2 ^ n → clo r n o m = m → sN q m = true → ¬ q = m → ∃ k, k < n ∧ q.testBit k = false ∧ sN (clo r n o (q ||| 2 ^ k)) m = true := fun m hm hcm hs hne => by
    obtain ⟨k, h4, h5⟩ := sub_miss hs hne
    refine ⟨k, bit_lt hm h4, h5, ?_⟩
    have h6 : sN (q ||| 2 ^ k) m = true := sN_or_l hs (sN_bit.mpr (fun i hi => by
      rw [Nat.testBit_two_pow, decide_eq_true_iff] at hi
      rw [← hi]; exact h4))
    have h7 := clo_mono (r := r) (n := n) (o := o) h6
    rw [hcm] at h7; exact h7
  constructor
  · intro ⟨hy, hx⟩
    obtain ⟨k, hk, hb, e⟩ := h1 _ hx
    have ey : clo r n o (q ||| 2 ^ k) = y := by
      have := congrArg (fun z => (2 ^ n - 1) ^^^ z) e
      simp only [cp_cp] at this
      exact this
    have hCk := hC k hb hk
    rw [ey] at hCk
    refine ⟨hy, by rw [← ey]; exact clo_idem, hq, hc, hCk.2.1, hCk.2.2, fun m hm hcm hs1 hs2 => ?_⟩
    by_cases em : m = q
    · exact Or.inl em
    · obtain ⟨k', hk', hb', hs'⟩ := hlow m hm hcm hs1 (fun z => em z.symm)
      obtain ⟨x', hx', hsx⟩ := h2 _ ⟨k', hk', hb', rfl⟩
      have hC' := hC k' hb' hk'
      have s1 : sN ((2 ^ n - 1) ^^^ y) ((2 ^ n - 1) ^^^ clo r n o (q ||| 2 ^ k')) = true := cp_sub' hC'.1 hy (sN_trans hs' hs2)
      have e2 := h3 _ x' hx hx' (sN_trans s1 hsx)
      rw [← e2] at hsx
      have s2 := cp_sub' (n := n) (cp_lt hC'.1) (cp_lt hy) hsx
      rw [cp_cp, cp_cp] at s2
      exact Or.inr (sN_anti hs2 (sN_trans s2 hs'))
  · intro ⟨hy, hcy, _, _, g3, g4, g5⟩
    refine ⟨hy, ?_⟩
    obtain ⟨k, hk, hb, hs⟩ := hlow y hy hcy g3 g4
    have hCk := hC k hb hk
    have ek : clo r n o (q ||| 2 ^ k) = y := by
      rcases g5 _ hCk.1 clo_idem hCk.2.1 hs with z | z
      · exact absurd z.symm hCk.2.2
      · exact z
    obtain ⟨x', hx', hsx⟩ := h2 ((2 ^ n - 1) ^^^ y) ⟨k, hk, hb, by rw [ek]⟩
    obtain ⟨k', hk', hb', e'⟩ := h1 x' hx'
    have hC' := hC k' hb' hk'
    rw [← e'] at hsx
    have s2 := cp_sub' (n := n) (cp_lt hy) (cp_lt hC'.1) hsx
    rw [cp_cp, cp_cp] at s2
    rcases g5 _ hC'.1 clo_idem hC'.2.1 s2 with z | z
    · exact absurd z.symm hC'.2.2
    · rw [z] at e'; rw [e']; exact hx'
theorem be_len {r : Nat → Nat} {n o i : Nat} {conc : Nat → Nat} {L : List Nat} (hn : n ≤ 12) (hl : lstAt conc (CL r n o)) (hi : i < (CL r n o).length) (h : NbOK (P_be r n o (conc i) n) L) : (blF conc (CL r n o).length i (CL r n o).length).length = L.length := by
  have hm := CL_mem.mp (lstAt_mem hl hi)
  have hLn : ∀ x, x ∈ L → x < 2 ^ n := fun x hx => be_lt x (h.1 x hx)
  have hnd : (L.map (fun x => (2 ^ n - 1) ^^^ x)).Nodup := by
    rw [List.nodup_iff_pairwise_ne, List.pairwise_map]
    refine List.Pairwise.imp_of_mem ?_ h.2.2.2
    intro a b ha hb hab e
    have e2 := congrArg (fun z => (2 ^ n - 1) ^^^ z) e
    simp only [cp_cp] at e2
    rw [e2, clI_tur hn (hLn b hb) (hLn b hb)] at hab
    exact Nat.lt_irrefl _ hab
  have hp : (blF conc (CL r n o).length i (CL r n o).length).Perm (L.map (fun x => (2 ^ n - 1) ^^^ x)) := by
    rw [List.perm_ext_iff_of_nodup (blF_nodup hl _ (Nat.le_refl _)) hnd]
    intro y
    rw [blF_mem, List.mem_map]
    have hb := be_mem hm.1 hm.2 h y
    constructor
    · intro ⟨j, hj, e, hr⟩
      have hmj := CL_mem.mp (lstAt_mem hl hj)
      rw [e] at hmj
      have hr2 := (raB_iff hl hj hi).mp hr
      rw [e] at hr2
      exact ⟨_, (hb.mpr ⟨hmj.1, hmj.2, hr2⟩).2, cp_cp n y⟩
    · intro ⟨x, hx, e⟩
      have ex : (2 ^ n - 1) ^^^ y = x := by rw [← e]; exact cp_cp n x
      have hy : y < 2 ^ n := by rw [← e]; exact cp_lt (hLn x hx)
      have hr := hb.mp ⟨hy, by rw [ex]; exact hx⟩
      obtain ⟨j, hj, e2⟩ := lst_at hl (CL_mem.mpr ⟨hy, hr.2.1⟩)
      exact ⟨j, hj, e2, (raB_iff hl hj hi).mpr (by rw [e2]; exact hr.2.2)⟩
  rw [hp.length_eq, List.length_map]
