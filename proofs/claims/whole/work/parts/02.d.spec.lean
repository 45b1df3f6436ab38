theorem kp_step {q x : Nat} {ip good : Nat → Prop} (hx : x &&& q = x) (hold : ∀ p, x ≤ p → p < q → sN p q = true → ip p → good p) (hy : ip ((x - 1) &&& q) → good ((x - 1) &&& q)) : ∀ p, ((x - 1) &&& q) ≤ p → p < q → sN p q = true → ip p → good p := by
  intro p h1 h2 h3 h4
  by_cases h : x ≤ p
  · exact hold p h h2 h3 h4
  · have h5 := sm_next (x + 1) x p q (Nat.lt_succ_self x) hx (sN_iff.mp h3) (by omega)
    have h6 : p = (x - 1) &&& q := Nat.le_antisymm h5 h1
    rw [h6] at h4 ⊢
    exact hy h4
theorem kpP_t {r : Nat → Nat} {n o q : Nat} {ip : Nat → Bool} {x : Nat} (h0 : x ≤ 0) (h : ∀ p, x ≤ p → p < q → sN p q = true → ip p = true → sN (clo r n o p) q = true) : b2 true = b2 (kpP r n o ip q) := by
  unfold kpP
  rw [decide_eq_true (fun p hp hs hi => h p (by omega) hp hs hi)]
theorem kpP_f {r : Nat → Nat} {n o q : Nat} {ip : Nat → Bool} (h : ∃ p, p < q ∧ sN p q = true ∧ ip p = true ∧ sN (clo r n o p) q = false) : b2 false = b2 (kpP r n o ip q) := by
  unfold kpP
  obtain ⟨p, h1, h2, h3, h4⟩ := h
  rw [decide_eq_false (fun z => Bool.noConfusion ((z p h1 h2 h3).symm.trans h4))]
/-- concept j is right above concept i -/
def raB (conc : Nat → Nat) (co j i : Nat) : Bool := decide (¬ j = i ∧ sN (conc j) (conc i) = true ∧ ∀ k, k < co → ¬ k = i → ¬ k = j → sN (conc j) (conc k) = true → sN (conc k) (conc i) = false)
/-! the level of a set, the premises -/
def mxr (g : Nat → Nat) : Nat → Nat
  | 0 => 0
  | d + 1 => if mxr g d < g d then g d else mxr g d
def lvF (r : Nat → Nat) (n o : Nat) : Nat → Nat → Nat
  | 0, _ => 0
  | f + 1, c => mxr (fun d => if clo r n o d = d ∧ sN d c = true then lvF r n o f d + 1 else 0) c
def LV (r : Nat → Nat) (n o c : Nat) : Nat := lvF r n o (c + 1) c
def ispF (r : Nat → Nat) (n o : Nat) : Nat → Nat → Bool
  | 0, _ => false
  | f + 1, q => decide (¬ clo r n o q = q) && kpP r n o (ispF r n o f) q
def ISP (r : Nat → Nat) (n o q : Nat) : Bool := ispF r n o (q + 1) q
theorem mxr_le {g : Nat → Nat} {M : Nat} : ∀ {c : Nat}, mxr g c ≤ M ↔ ∀ d, d < c → g d ≤ M
  | 0 => ⟨fun _ d h => absurd h (Nat.not_lt_zero _), fun _ => Nat.zero_le _⟩
  | c + 1 => by
    have ih := mxr_le (g := g) (M := M) (c := c)
    unfold mxr
    constructor
    · intro h d hd
      split at h
      · by_cases h1 : d = c
        · subst h1; exact h
        · exact ih.mp (by omega) d (by omega)
      · by_cases h1 : d = c
        · subst h1; omega
        · exact ih.mp h d (by omega)
    · intro h
      have h1 := ih.mpr (fun d hd => h d (by omega))
      have h2 := h c (by omega)
      split <;> omega
theorem mxr_congr {g g' : Nat → Nat} : ∀ {c : Nat}, (∀ d, d < c → g d = g' d) → mxr g c = mxr g' c
  | 0, _ => rfl
  | c + 1, h => by
    unfold mxr
    rw [mxr_congr (c := c) (fun d hd => h d (by omega)), h c (by omega)]
theorem lvF_st (r : Nat → Nat) (n o : Nat) : ∀ f f' c, c < f → c < f' → lvF r n o f c = lvF r n o f' c
  | 0, _, _, h, _ => absurd h (Nat.not_lt_zero _)
  | _ + 1, 0, _, _, h => absurd h (Nat.not_lt_zero _)
  | f + 1, f' + 1, c, h1, h2 => by
    unfold lvF
    apply mxr_congr
    intro d hd
    rw [lvF_st r n o f f' d (by omega) (by omega)]
theorem LV_eq (r : Nat → Nat) (n o c : Nat) : LV r n o c = mxr (fun d => if clo r n o d = d ∧ sN d c = true then LV r n o d + 1 else 0) c := by
  unfold LV
  show mxr _ c = _
  apply mxr_congr
  intro d hd
  rw [lvF_st r n o c (d + 1) d hd (Nat.lt_succ_self d)]
theorem kpP_congr {r : Nat → Nat} {n o q : Nat} {ip ip' : Nat → Bool} (h : ∀ p, p < q → sN p q = true → ip p = ip' p) : kpP r n o ip q = kpP r n o ip' q := by
  unfold kpP
  congr 1
  apply propext
  constructor
  · intro z p hp hs hi; exact z p hp hs (by rw [h p hp hs]; exact hi)
  · intro z p hp hs hi; exact z p hp hs (by rw [← h p hp hs]; exact hi)
theorem ispF_st (r : Nat → Nat) (n o : Nat) : ∀ f f' c, c < f → c < f' → ispF r n o f c = ispF r n o f' c
  | 0, _, _, h, _ => absurd h (Nat.not_lt_zero _)
  | _ + 1, 0, _, _, h => absurd h (Nat.not_lt_zero _)
  | f + 1, f' + 1, c, h1, h2 => by
    unfold ispF
    rw [kpP_congr (fun p hp _ => ispF_st r n o f f' p (by omega) (by omega))]
theorem ISP_eq (r : Nat → Nat) (n o q : Nat) : ISP r n o q = (decide (¬ clo r n o q = q) && kpP r n o (ISP r n o) q) := by
  unfold ISP
  show (_ && kpP r n o (ispF r n o q) q) = _
  rw [kpP_congr (fun p hp _ => ispF_st r n o q (p + 1) p hp (Nat.lt_succ_self p))]
theorem mlv_max {conc lv : Nat → Nat} {i M : Nat} : ∀ {k : Nat}, mlv conc lv i k ≤ M ↔ ∀ j, j < k → ¬ j = i → sN (conc j) (conc i) = true → lv (conc j) + 1 ≤ M
  | 0 => ⟨fun _ d h => absurd h (Nat.not_lt_zero _), fun _ => Nat.zero_le _⟩
  | k + 1 => by
    have ih := mlv_max (conc := conc) (lv := lv) (i := i) (M := M) (k := k)
    unfold mlv
    constructor
    · intro h j hj hji hs
      split at h
      · rename_i hc
        by_cases h1 : j = k
        · subst h1; exact h
        · exact ih.mp (by omega) j (by omega) hji hs
      · rename_i hc
        by_cases h1 : j = k
        · subst h1
          have : ¬ mlv conc lv i j < lv (conc j) + 1 := fun z => hc ⟨hji, hs, z⟩
          omega
        · exact ih.mp h j (by omega) hji hs
    · intro h
      have h1 := ih.mpr (fun j hj => h j (by omega))
      split
      · rename_i hc
        exact h k (by omega) hc.1 hc.2.1
      · exact h1
