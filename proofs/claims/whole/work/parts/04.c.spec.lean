/-- the level of q by the levels of its common parts with the rows, up to row k -/
def lfS (r : Nat → Nat) (lv : Nat → Nat) (q : Nat) : Nat → Nat
  | 0 => 0
  | k + 1 => if (q &&& r k) = q then lfS r lv q k else if lfS r lv q k < lv (q &&& r k) + 1 then lv (q &&& r k) + 1 else lfS r lv q k
theorem lfS_le {r lv : Nat → Nat} {q M : Nat} (h : ∀ x, lv x ≤ M) : ∀ k, lfS r lv q k ≤ M + 1
  | 0 => Nat.zero_le _
  | k + 1 => by
    have ih := lfS_le (r := r) (q := q) h k
    unfold lfS
    split
    · exact ih
    · split
      · exact Nat.succ_le_succ (h _)
      · exact ih
theorem mx_nI {a b : Nat} (ha : a < 2 ^ 31) (hb : b < 2 ^ 31) : (if nI a < nI b then nI b else nI a) = nI (if a < b then b else a) := by
  by_cases h : a < b
  · rw [if_pos h, if_pos ((nI_ltI ha hb).mpr h)]
  · rw [if_neg h, if_neg (fun z => h ((nI_ltI ha hb).mp z))]
theorem mn_nI {a b : Nat} (ha : a < 2 ^ 31) (hb : b < 2 ^ 31) : (if nI b < nI a then nI b else nI a) = nI (min a b) := by
  by_cases h : b < a
  · rw [if_pos ((nI_ltI hb ha).mpr h), Nat.min_eq_right (by omega)]
  · rw [if_neg (fun z => h ((nI_ltI hb ha).mp z)), Nat.min_eq_left (by omega)]
theorem lvO_get {x : Option Nat} {v : Nat} (h : x = some v) : lvO x = nI v := by rw [h]; rfl
theorem gB_some {g : Nat → Option Nat} {q : Nat} (h : gB g q = true) : ∃ v, g q = some v := Option.isSome_iff_exists.mp h
theorem gB_up {g : Nat → Option Nat} {q v : Nat} (h : gB g q = true) (x : Nat) : gB (va_up g q (some v)) x = gB g x := by
  by_cases e : x = q
  · subst e; unfold gB; rw [va_up_self]; exact h.symm
  · unfold gB; rw [va_up_ne _ _ e]
theorem BLp_mem {ip : Nat → Bool} {n x : Nat} : ∀ p, x ∈ BLp ip n p ↔ ∃ k, k < p ∧ tur n k n = x ∧ ip x = true
  | 0 => ⟨fun h => absurd h List.not_mem_nil, fun ⟨k, h, _⟩ => absurd h (Nat.not_lt_zero _)⟩
  | p + 1 => by
    have ih := BLp_mem (ip := ip) (n := n) (x := x) p
    unfold BLp
    constructor
    · intro h
      split at h
      · rename_i hc
        rcases List.mem_append.mp h with h | h
        · obtain ⟨k, h1, h2⟩ := ih.mp h
          exact ⟨k, by omega, h2⟩
        · have e := List.mem_singleton.mp h
          exact ⟨p, Nat.lt_succ_self p, e.symm, by rw [e]; exact hc⟩
      · obtain ⟨k, h1, h2⟩ := ih.mp h
        exact ⟨k, by omega, h2⟩
    · intro ⟨k, h1, h2, h3⟩
      by_cases hk : k = p
      · subst hk
        rw [if_pos (by rw [h2]; exact h3)]
        exact List.mem_append_right _ (by rw [h2]; exact List.mem_singleton.mpr rfl)
      · have hm := ih.mpr ⟨k, by omega, h2, h3⟩
        split
        · exact List.mem_append_left _ hm
        · exact hm
theorem BL_mem {ip : Nat → Bool} {n x : Nat} : x ∈ BLp ip n (2 ^ n) ↔ x < 2 ^ n ∧ ip x = true := by
  rw [BLp_mem]
  constructor
  · intro ⟨k, h1, h2, h3⟩; exact ⟨by rw [← h2]; exact tur_lt n k n, h3⟩
  · intro ⟨h1, h2⟩; exact ⟨tur n x n, tur_lt n x n, tur_tur h1, h2⟩
/-- in the list, what has the earlier place comes first -/
theorem BLp_before {ip : Nat → Bool} {n : Nat} {c : Nat → Nat} : ∀ p, p ≤ 2 ^ n → lstAt c (BLp ip n p) → ∀ i, i < (BLp ip n p).length → ∀ x, x < 2 ^ n → ip x = true → tur n x n < tur n (c i) n → ∃ j, j < i ∧ c j = x
  | 0, _, _ => fun i hi => absurd hi (Nat.not_lt_zero _)
  | p + 1, hp, hl => by
    intro i hi x hx hix hlt
    unfold BLp at hl hi
    split at hl
    · rename_i hc
      rw [if_pos hc] at hi
      rw [List.length_append] at hi
      have hi : i < (BLp ip n p).length + 1 := hi
      have hl2 : lstAt c (BLp ip n p) := by
        intro j hj
        have h1 := hl j (by rw [List.length_append]; exact Nat.lt_of_lt_of_le hj (Nat.le_add_right _ _))
        rw [h1]
        simp [List.getElem?_append_left hj]
      by_cases hi2 : i < (BLp ip n p).length
      · exact BLp_before p (by omega) hl2 i hi2 x hx hix hlt
      · have hie : i = (BLp ip n p).length := by omega
        have hci : c i = tur n p n := by
          have h1 := hl i (by rw [List.length_append]; exact hi)
          rw [h1, hie]; simp
        rw [hci, tur_tur (by omega)] at hlt
        have hm : x ∈ BLp ip n p := (BLp_mem p).mpr ⟨tur n x n, hlt, tur_tur hx, hix⟩
        obtain ⟨j, hj, e⟩ := lst_at hl2 hm
        exact ⟨j, by omega, e⟩
    · rename_i hc
      rw [if_neg hc] at hi
      exact BLp_before p (by omega) hl i hi x hx hix hlt
/-- a part comes before the whole -/
theorem tur_part {n a b : Nat} (ha : a < 2 ^ n) (hb : b < 2 ^ n) (h : sN a b = true) (hne : ¬ a = b) : tur n a n < tur n b n := by
  have h1 : sN (tur n a n) (tur n b n) = true := sN_bit.mpr (fun i hi => by
    rw [tur_bit, Bool.and_eq_true] at hi ⊢
    exact ⟨hi.1, sN_bit.mp h _ hi.2⟩)
  have h2 := sN_le h1
  have h3 : ¬ tur n a n = tur n b n := fun e => hne (tur_inj ha hb e)
  omega
theorem sN_and_l (a b : Nat) : sN (a &&& b) a = true := sN_bit.mpr (fun i h => by rw [Nat.testBit_and] at h; simp at h; exact h.1)
/-- how many of the first N are some -/
def cnt (f : Nat → Bool) : Nat → Nat
  | 0 => 0
  | k + 1 => if f k = true then cnt f k + 1 else cnt f k
theorem cnt_le (f : Nat → Bool) : ∀ k, cnt f k ≤ k
  | 0 => Nat.le_refl _
  | k + 1 => by
    have := cnt_le f k
    unfold cnt
    split <;> omega
theorem cnt_lt {f : Nat → Bool} {q : Nat} (h : f q = false) : ∀ k, q < k → cnt f k < k
  | 0, hk => absurd hk (Nat.not_lt_zero _)
  | k + 1, hk => by
    unfold cnt
    by_cases e : q = k
    · subst e
      rw [if_neg (by rw [h]; decide)]
      have := cnt_le f q; omega
    · have ih := cnt_lt h k (by omega)
      split <;> omega
theorem cnt_congr {f g : Nat → Bool} : ∀ k, (∀ j, j < k → f j = g j) → cnt f k = cnt g k
  | 0, _ => rfl
  | k + 1, h => by
    unfold cnt
    rw [cnt_congr k (fun j hj => h j (by omega)), h k (by omega)]
theorem cnt_up {f g : Nat → Bool} {q : Nat} (h : f q = false) (hq : g q = true) (ho : ∀ j, ¬ j = q → g j = f j) : ∀ k, q < k → cnt g k = cnt f k + 1
  | 0, hk => absurd hk (Nat.not_lt_zero _)
  | k + 1, hk => by
    unfold cnt
    by_cases e : q = k
    · subst e
      rw [if_pos hq, if_neg (by rw [h]; decide), cnt_congr q (fun j hj => ho j (by omega))]
    · rw [cnt_up h hq ho k (by omega), ho k (fun z => e z.symm)]
      split <;> rfl
/-- a family: its members and their marks -/
def FamOK (n : Nat) (g : Nat → Option Nat) (mem : Nat → Nat) (sz : Nat) : Prop :=
  sz = cnt (gB g) (2 ^ n) ∧ (∀ j, j < sz → mem j < 2 ^ n ∧ gB g (mem j) = true) ∧ (∀ q, q < 2 ^ n → gB g q = true → ∃ j, j < sz ∧ mem j = q) ∧ (∀ j v, g j = some v → v ≤ 4096)
theorem fam_lt {n : Nat} {g : Nat → Option Nat} {mem : Nat → Nat} {sz q : Nat} (h : FamOK n g mem sz) (hq : q < 2 ^ n) (hn : (g q).isNone = true) : sz < 2 ^ n := by
  rw [h.1]; exact cnt_lt (gB_n hn) _ hq
theorem fam_inc {n : Nat} {g : Nat → Option Nat} {mem : Nat → Nat} {sz q : Nat} (h : FamOK n g mem sz) (hq : q < 2 ^ n) : FamOK n (incG g q) (incM g q sz mem) (incS g q sz) := by
  unfold incG incM incS
  by_cases hn : (g q).isNone = true
  · rw [if_pos hn, if_pos hn, if_pos hn]
    obtain ⟨h1, h2, h3, h4⟩ := h
    have hgo : ∀ j, ¬ j = q → gB (va_up g q (some 0)) j = gB g j := fun j e => by unfold gB; rw [va_up_ne _ _ e]
    have hgq : gB (va_up g q (some 0)) q = true := by unfold gB; rw [va_up_self]; rfl
    refine ⟨?_, ?_, ?_, ?_⟩
    · rw [cnt_up (gB_n hn) hgq hgo _ hq, h1]
    · intro j hj
      by_cases e : j = sz
      · subst e; rw [va_up_self]; exact ⟨hq, hgq⟩
      · rw [va_up_ne _ _ e]
        have h5 := h2 j (by omega)
        refine ⟨h5.1, ?_⟩
        by_cases e2 : mem j = q
        · rw [e2]; exact hgq
        · rw [hgo _ e2]; exact h5.2
    · intro x hx hgx
      by_cases e : x = q
      · exact ⟨sz, Nat.lt_succ_self _, by rw [va_up_self, e]⟩
      · rw [hgo x e] at hgx
        obtain ⟨j, hj, e2⟩ := h3 x hx hgx
        exact ⟨j, by omega, by rw [va_up_ne _ _ (by omega)]; exact e2⟩
    · intro j v hv
      by_cases e : j = q
      · subst e; rw [va_up_self] at hv; cases hv; exact Nat.zero_le _
      · rw [va_up_ne _ _ e] at hv; exact h4 j v hv
  · rw [if_neg hn, if_neg hn, if_neg hn]; exact h
theorem incG_B {g : Nat → Option Nat} {q x : Nat} : gB (incG g q) x = (gB g x || decide (x = q)) := by
  unfold incG
  by_cases hn : (g q).isNone = true
  · rw [if_pos hn]
    by_cases e : x = q
    · subst e; unfold gB; rw [va_up_self]; simp
    · unfold gB; rw [va_up_ne _ _ e]; simp [e]
  · rw [if_neg hn]
    by_cases e : x = q
    · subst e; rw [gB_s hn]; rfl
    · simp [e]
theorem incM_keep {g : Nat → Option Nat} {q sz j : Nat} {mem : Nat → Nat} (h : j < sz) : incM g q sz mem j = mem j := by
  unfold incM
  split
  · exact va_up_ne _ _ (by omega)
  · rfl
theorem incS_ge (g : Nat → Option Nat) (q sz : Nat) : sz ≤ incS g q sz := by
  unfold incS
  split <;> omega
theorem meet_step {n w k : Nat} {g g1 : Nat → Option Nat} {mem mem1 : Nat → Nat} (h : ∀ x, x < 2 ^ n → (gB g1 x = true ↔ gB g x = true ∨ ∃ j, j < k ∧ (mem j &&& w) = x)) (hm : mem1 k = mem k) : ∀ x, x < 2 ^ n → (gB (incG g1 (mem1 k &&& w)) x = true ↔ gB g x = true ∨ ∃ j, j < k + 1 ∧ (mem j &&& w) = x) := by
  intro x hx
  rw [incG_B, Bool.or_eq_true, decide_eq_true_iff, h x hx, hm]
  constructor
  · intro z
    rcases z with (z | ⟨j, hj, e⟩) | z
    · exact Or.inl z
    · exact Or.inr ⟨j, by omega, e⟩
    · exact Or.inr ⟨k, Nat.lt_succ_self k, z.symm⟩
  · intro z
    rcases z with z | ⟨j, hj, e⟩
    · exact Or.inl (Or.inl z)
    · by_cases hk : j = k
      · subst hk; exact Or.inr e.symm
      · exact Or.inl (Or.inr ⟨j, by omega, e⟩)
theorem meet_end {n w k z : Nat} {g g1 : Nat → Option Nat} {mem : Nat → Nat} (hf : FamOK n g mem z) (hk : k = z) (h : ∀ x, x < 2 ^ n → (gB g1 x = true ↔ gB g x = true ∨ ∃ j, j < k ∧ (mem j &&& w) = x)) : ∀ x, x < 2 ^ n → (gB g1 x = true ↔ gB g x = true ∨ ∃ p, p < 2 ^ n ∧ gB g p = true ∧ (p &&& w) = x) := by
  intro x hx
  subst hk
  rw [h x hx]
  constructor
  · intro z
    rcases z with z | ⟨j, hj, e⟩
    · exact Or.inl z
    · have h1 := hf.2.1 j hj
      exact Or.inr ⟨mem j, h1.1, h1.2, e⟩
  · intro z
    rcases z with z | ⟨p, hp, hg, e⟩
    · exact Or.inl z
    · obtain ⟨j, hj, e2⟩ := hf.2.2.1 p hp hg
      exact Or.inr ⟨j, hj, by rw [e2]; exact e⟩
def filG (g : Nat → Option Nat) (N : Nat) : Nat → Option Nat := fun j => if j < N then none else g j
theorem filG_0 (g : Nat → Option Nat) : g = filG g 0 := by funext j; unfold filG; rw [if_neg (Nat.not_lt_zero _)]
theorem filG_s (g : Nat → Option Nat) (k : Nat) : va_up (filG g k) k none = filG g (k + 1) := by
  funext j; unfold va_up filG
  by_cases h : j = k
  · subst h; rw [if_pos rfl, if_pos (Nat.lt_succ_self _)]
  · rw [if_neg h]
    by_cases h2 : j < k
    · rw [if_pos h2, if_pos (by omega)]
    · rw [if_neg h2, if_neg (by omega)]
theorem filG_n {g : Nat → Option Nat} {N j : Nat} (h : j < N) : filG g N j = none := by unfold filG; rw [if_pos h]
theorem filG_b {g : Nat → Option Nat} {N : Nat} (h : ∀ j v, g j = some v → v ≤ 4096) : ∀ j v, filG g N j = some v → v ≤ 4096 := by
  intro j v hv
  unfold filG at hv
  split at hv
  · cases hv
  · exact h j v hv
theorem cnt_none {f : Nat → Bool} : ∀ k, (∀ j, j < k → f j = false) → cnt f k = 0
  | 0, _ => rfl
  | k + 1, h => by
    unfold cnt
    rw [if_neg (by rw [h k (Nat.lt_succ_self k)]; decide)]
    exact cnt_none k (fun j hj => h j (by omega))
theorem fam_empty {a N : Nat} {g : Nat → Option Nat} {mem : Nat → Nat} (hN : 2 ^ a ≤ N) (h : ∀ j v, g j = some v → v ≤ 4096) : FamOK a (filG g N) mem 0 := by
  have hf : ∀ j, j < 2 ^ a → gB (filG g N) j = false := fun j hj => by unfold gB; rw [filG_n (by omega)]; rfl
  exact ⟨(cnt_none _ hf).symm, fun j hj => absurd hj (Nat.not_lt_zero _), fun q hq hg => Bool.noConfusion ((hf q hq).symm.trans hg), filG_b h⟩
theorem one_B {a N : Nat} {g : Nat → Option Nat} (hN : 2 ^ a ≤ N) : ∀ x, x < 2 ^ a → (gB (incG (filG g N) (2 ^ a - 1)) x = true ↔ x = 2 ^ a - 1) := by
  intro x hx
  have hf : gB (filG g N) x = false := by unfold gB; rw [filG_n (by omega)]; rfl
  rw [incG_B, hf, Bool.false_or, decide_eq_true_iff]
theorem ar_above {n o z i : Nat} {g g1 : Nat → Option Nat} {mem1 r lv : Nat → Nat} (hmm : ∀ i, i < z → mem1 i < 2 ^ n ∧ gB g (mem1 i) = true) (hL : lstAt mem1 (BLp (gB g) n (2 ^ n))) (hlen : (BLp (gB g) n (2 ^ n)).length = z) (hg1 : ∀ j, j < i → g1 (mem1 j) = some (lv (mem1 j))) (_ : ∀ x, gB g1 x = gB g x) (hab : ∀ q k, q < 2 ^ n → gB g q = true → k < o → gB g (q &&& r k) = true) (hi : i < z) : ∀ k, k < o → ¬ (mem1 i &&& r k) = mem1 i → g1 (mem1 i &&& r k) = some (lv (mem1 i &&& r k)) := by
  intro k hk hne
  have h1 := hmm i hi
  have h2 := hab _ k h1.1 h1.2 hk
  have h3 : (mem1 i &&& r k) < 2 ^ n := Nat.lt_of_le_of_lt Nat.and_le_left h1.1
  obtain ⟨j, hj, e⟩ := BLp_before (2 ^ n) (Nat.le_refl _) hL i (by rw [hlen]; exact hi) _ h3 h2 (tur_part h3 h1.1 (sN_and_l _ _) hne)
  rw [← e]
  exact hg1 j hj
theorem ar_fam {n z : Nat} {g g1 : Nat → Option Nat} {mem mem1 : Nat → Nat} (hf : FamOK n g mem z) (hgB : ∀ x, gB g1 x = gB g x) (hmm : ∀ i, i < z → mem1 i < 2 ^ n ∧ gB g (mem1 i) = true) (hL : lstAt mem1 (BLp (gB g) n (2 ^ n))) (hlen : (BLp (gB g) n (2 ^ n)).length = z) (hgb1 : ∀ j v, g1 j = some v → v ≤ 4096) : FamOK n g1 mem1 z := by
  refine ⟨?_, fun j hj => ⟨(hmm j hj).1, by rw [hgB]; exact (hmm j hj).2⟩, fun q hq hg => ?_, hgb1⟩
  · rw [hf.1]; exact cnt_congr _ (fun j _ => (hgB j).symm)
  · rw [hgB] at hg
    obtain ⟨j, hj, e⟩ := lst_at hL (BL_mem.mpr ⟨hq, hg⟩)
    exact ⟨j, by rw [← hlen]; exact hj, e⟩
theorem ar_val {n z i : Nat} {g g1 : Nat → Option Nat} {mem1 lv : Nat → Nat} (hL : lstAt mem1 (BLp (gB g) n (2 ^ n))) (hlen : (BLp (gB g) n (2 ^ n)).length = z) (hgB : ∀ x, gB g1 x = gB g x) (hi : i = z) (hg1 : ∀ j, j < i → g1 (mem1 j) = some (lv (mem1 j))) : ∀ q, q < 2 ^ n → gB g1 q = true → g1 q = some (lv q) := by
  intro q hq hg
  rw [hgB] at hg
  obtain ⟨j, hj, e⟩ := lst_at hL (BL_mem.mpr ⟨hq, hg⟩)
  rw [← e]
  exact hg1 j (by rw [hi, ← hlen]; exact hj)
theorem inc_same {g g1 : Nat → Option Nat} {mem mem1 : Nat → Nat} {z z1 q : Nat} {ar ar1 : Bool} (h : ar1 = true → ar = true ∧ g1 = g ∧ mem1 = mem ∧ z1 = z) : incA g1 q ar1 = true → ar = true ∧ incG g1 q = g ∧ incM g1 q z1 mem1 = mem ∧ incS g1 q z1 = z := by
  unfold incA incG incM incS
  by_cases hn : (g1 q).isNone = true
  · rw [if_pos hn]; intro z; cases z
  · rw [if_neg hn, if_neg hn, if_neg hn, if_neg hn]; exact h
