/-! what holds between the class and the reference after T calls -/
def CI_ (T n o : Nat) (r : Nat → Nat) (z : Nat) (ar : Bool) (mem : Nat → Nat) (g : Nat → Option Nat) (bt : Bool) (bz : Nat) (pr cn : Nat → Nat) (op : Bool) (ask : Int32) (az : Nat) (aif ath : Nat → Nat) (qu : Int32) (kn : Bool) (co ba : Nat) (conc lev prem concl : Nat → Nat) : Prop :=
  1 ≤ n ∧ n ≤ 12 ∧ o ≤ 20 ∧ (∀ i, r i < 4096) ∧ FamOK n g mem z ∧ (∀ q, q < 2 ^ n → (gB g q = true ↔ clo r n o q = q)) ∧
  (ar = true → lstAt mem (CL r n o) ∧ ∀ q, q < 2 ^ n → gB g q = true → g q = some (LV r n o q)) ∧
  (bt = true → bz = (BL r n o).length ∧ lstAt pr (BL r n o) ∧ ∀ j, j < bz → cn j = clo r n o (pr j)) ∧
  (∀ j, aif j < 4096) ∧ (∀ j, ath j < 4096) ∧ az ≤ T ∧ (op = false → ask = -1) ∧ (op = true → ask = fQ r n o aif ath az) ∧ (op = true → qu = ask) ∧
  (kn = true → KnOK r n o co ba conc lev prem concl)
theorem nI_all (x : Int32) : x = nI x.toBitVec.toNat := by
  apply Int32.toBitVec_inj.1
  show x.toBitVec = BitVec.ofNat 32 x.toBitVec.toNat
  apply BitVec.eq_of_toNat_eq
  rw [BitVec.toNat_ofNat, Nat.mod_eq_of_lt x.toBitVec.isLt]
theorem sb_in {x : Int32} {n : Nat} (h : sb x (nI (2 ^ n - 1)) = true) : ∃ q, q < 2 ^ n ∧ x = nI q := by
  unfold sb at h
  have h1 := (nx_iff x _).mp (of_decide_eq_true h)
  have h2 := nI_all x
  refine ⟨x.toBitVec.toNat % 2 ^ n, Nat.mod_lt _ (Nat.two_pow_pos n), ?_⟩
  rw [← Nat.and_two_pow_sub_one_eq_mod, ← nx_and, ← h2]
  exact h1.symm
theorem lvF_cong {r r' : Nat → Nat} {n o o' : Nat} (h : ∀ q, clo r n o q = q ↔ clo r' n o' q = q) : ∀ f c, lvF r n o f c = lvF r' n o' f c
  | 0, _ => rfl
  | f + 1, c => by
    unfold lvF
    apply mxr_congr
    intro d _
    rw [lvF_cong h f d]
    by_cases h1 : clo r n o d = d ∧ sN d c = true
    · rw [if_pos h1, if_pos ⟨(h d).mp h1.1, h1.2⟩]
    · rw [if_neg h1, if_neg (fun z => h1 ⟨(h d).mpr z.1, z.2⟩)]
theorem CLp_cong {r r' : Nat → Nat} {n o o' : Nat} (h : ∀ q, clo r n o q = q ↔ clo r' n o' q = q) : ∀ p, CLp r n o p = CLp r' n o' p
  | 0 => rfl
  | p + 1 => by
    unfold CLp
    rw [CLp_cong h p]
    by_cases h1 : clo r n o (tur n p n) = tur n p n
    · rw [if_pos h1, if_pos ((h _).mp h1)]
    · rw [if_neg h1, if_neg (fun z => h1 ((h _).mpr z))]
theorem clo_big {r : Nat → Nat} {n o q : Nat} (h : ¬ q < 2 ^ n) : ¬ clo r n o q = q := fun e => h (by rw [← e]; exact clo_lt _ _ _ _)
/-- one object more: where the family stays arranged, nothing changed in it -/
theorem ar_more {r : Nat → Nat} {n o w z z' : Nat} {ar ar' : Bool} {mem mem' : Nat → Nat} {g g' : Nat → Option Nat} (hgc : ∀ q, q < 2 ^ n → (gB g q = true ↔ clo r n o q = q)) (har : ar = true → lstAt mem (CL r n o) ∧ ∀ q, q < 2 ^ n → gB g q = true → g q = some (LV r n o q))
    (hB : ∀ x, x < 2 ^ n → (gB g' x = true ↔ gB g x = true ∨ ∃ p, p < 2 ^ n ∧ gB g p = true ∧ (p &&& w) = x)) (hAr : ar' = true → ar = true ∧ g' = g ∧ mem' = mem ∧ z' = z) : ar' = true → lstAt mem' (CL (va_up r o w) n (o + 1)) ∧ ∀ q, q < 2 ^ n → gB g' q = true → g' q = some (LV (va_up r o w) n (o + 1) q) := by
  intro h
  obtain ⟨h1, h2, h3, -⟩ := hAr h
  have hgc' := no_gc hB hgc
  have hc : ∀ q, clo r n o q = q ↔ clo (va_up r o w) n (o + 1) q = q := fun q => by
    by_cases hq : q < 2 ^ n
    · rw [← hgc q hq, ← hgc' q hq, h2]
    · exact ⟨fun e => absurd e (clo_big hq), fun e => absurd e (clo_big hq)⟩
  obtain ⟨h4, h5⟩ := har h1
  subst h2; subst h3
  have e1 : CL (va_up r o w) n (o + 1) = CL r n o := (CLp_cong hc _).symm
  rw [e1]
  refine ⟨h4, fun q hq hg => ?_⟩
  rw [h5 q hq hg]
  unfold LV
  rw [lvF_cong hc]
theorem up_lt {f : Nat → Nat} {k v M : Nat} (h : ∀ i, f i < M) (hv : v < M) : ∀ i, va_up f k v i < M := fun i => by
  unfold va_up
  split
  · exact hv
  · exact h i
theorem rem_lt {f : Nat → Nat} {j k M : Nat} (h : ∀ i, f i < M) : ∀ i, rem_ f j k i < M := fun i => by
  unfold rem_
  split
  · exact h _
  · exact h _
theorem beg_gc {r : Nat → Nat} {a : Nat} {g : Nat → Option Nat} (hB : ∀ x, x < 2 ^ a → (gB g x = true ↔ x = 2 ^ a - 1)) : ∀ q, q < 2 ^ a → (gB g q = true ↔ clo r a 0 q = q) := fun q hq => by
  rw [hB q hq, clo_0]
  exact ⟨fun e => e.symm, fun e => e.symm⟩
theorem f_t {b : Bool} {P : Prop} (h : b = false) : b = true → P := fun z => by rw [h] at z; cases z
theorem lst_same {c d : Nat → Nat} {L : List Nat} (h1 : lstAt c L) (h2 : lstAt d L) {i : Nat} (hi : i < L.length) : c i = d i := by rw [h1 i hi, h2 i hi]
theorem beg_no {x : Int32} (h : ¬ (decide (¬ x < 1) && decide (¬ (12 : Int32) < x)) = true) : x < 1 ∨ (12 : Int32) < x := by
  rcases Decidable.em (x < 1) with h1 | h1
  · exact Or.inl h1
  · rcases Decidable.em ((12 : Int32) < x) with h2 | h2
    · exact Or.inr h2
    · exact absurd (by rw [decide_eq_true h1, decide_eq_true h2]; rfl) h
theorem beg_yes {x : Int32} (h : (decide (¬ x < 1) && decide (¬ (12 : Int32) < x)) = true) : ∃ a, 1 ≤ a ∧ a ≤ 12 ∧ x = nI a := by
  rw [Bool.and_eq_true, decide_eq_true_iff, decide_eq_true_iff] at h
  have h0 : ¬ x < 0 := fun z => h.1 (by
    rw [Int32.lt_iff_toInt_lt] at z ⊢
    have e1 : (1 : Int32).toInt = 1 := by decide
    have e0 : (0 : Int32).toInt = 0 := by decide
    omega)
  obtain ⟨j, hj, rfl⟩ := nI_of h0
  have e1 : (1 : Int32) = nI 1 := rfl
  have e2 : (12 : Int32) = nI 12 := rfl
  rw [e1, e2, nI_ltI hj (by decide), nI_ltI (by decide) hj] at h
  exact ⟨j, by omega, by omega, rfl⟩
theorem bF {b : Bool} (h : ¬ b = true) : b = false := by cases b; rfl; exact absurd rfl h
theorem w_in {w : Int32} {k : Nat} (hk : k < 2 ^ 31) (h : (decide (¬ w < 0) && decide (¬ nI k < w)) = true) : ∃ j, j ≤ k ∧ w = nI j := by
  rw [Bool.and_eq_true, decide_eq_true_iff, decide_eq_true_iff] at h
  obtain ⟨j, hj, rfl⟩ := nI_of h.1
  exact ⟨j, Nat.le_of_not_lt (fun z => h.2 ((nI_ltI hk hj).mpr z)), rfl⟩
theorem neg_lt : (-1 : Int32) < 0 := by decide
theorem cnt_out {w : Int32} (h0 : ¬ w = 0) (h1 : ¬ w = 1) (h2 : ¬ w = 2) (h3 : ¬ w = 3) (h4 : ¬ w = 4) : w.toInt < 0 ∨ 4 < w.toInt := by
  rcases Decidable.em (w < 0) with h | h
  · rw [Int32.lt_iff_toInt_lt] at h
    exact Or.inl h
  · obtain ⟨j, hj, rfl⟩ := nI_of h
    rw [nI_toInt hj]
    have e0 : ¬ j = 0 := fun z => h0 (by rw [z]; rfl)
    have e1 : ¬ j = 1 := fun z => h1 (by rw [z]; rfl)
    have e2 : ¬ j = 2 := fun z => h2 (by rw [z]; rfl)
    have e3 : ¬ j = 3 := fun z => h3 (by rw [z]; rfl)
    have e4 : ¬ j = 4 := fun z => h4 (by rw [z]; rfl)
    right
    omega
/-- the answers of both sides -/
theorem aw_size {r : Nat → Nat} {n o z co ba : Nat} {g : Nat → Option Nat} {mem conc lev prem concl : Nat → Nat} (hf : FamOK n g mem z) (hgc : ∀ q, q < 2 ^ n → (gB g q = true ↔ clo r n o q = q)) (hK : KnOK r n o co ba conc lev prem concl) : co = z := by rw [hK.1]; exact CL_size hf hgc
theorem aw_base {r : Nat → Nat} {n o bz co ba : Nat} {pr cn conc lev prem concl : Nat → Nat} (hB : bz = (BL r n o).length ∧ lstAt pr (BL r n o) ∧ ∀ j, j < bz → cn j = clo r n o (pr j)) (hK : KnOK r n o co ba conc lev prem concl) : ba = bz ∧ (∀ j, j < bz → prem j = pr j) ∧ ∀ j, j < bz → concl j = cn j := by
  have e : ba = bz := by rw [hK.2.2.2.1, hB.1]
  have h1 : ∀ j, j < bz → prem j = pr j := fun j hj => lst_same hK.2.2.2.2.1 hB.2.1 (by rw [← hB.1]; exact hj)
  exact ⟨e, h1, fun j hj => by rw [hK.2.2.2.2.2 j (by omega), hB.2.2 j hj, h1 j hj]⟩
theorem aw_rule {i : Int32} {bz : Nat} {f f' : Nat → Int32} (hb : bz < 4097) (h : ∀ j, j < bz → f j = f' j) : (if (decide (¬ i < 0) && decide (¬ nI bz ≤ i)) = true then f i.toNatClampNeg else -1) = (if iB i bz = true then f' i.toNatClampNeg else -1) := by
  rw [ib_iB (by omega)]
  by_cases h1 : iB i bz = true
  · rw [if_pos h1, if_pos h1, h _ (iB_lt (by omega) h1)]
  · rw [if_neg h1, if_neg h1]
theorem aw_in {i b : Nat} (hb : b ≤ 4096) (hi : i < b) {x y : Int32} : (if iB (nI i) b = true then x else y) = x := if_pos (iB_t (by omega) hi)
theorem aw_cl {i : Nat} (h : i < 4097) : (nI i).toNatClampNeg = i := nI_clamp (by omega)
theorem aw_3 {r : Nat → Nat} {n o i : Nat} {co : Nat} {conc mem : Nat → Nat} {L : List Nat} {nz : Nat} (hn : n ≤ 12) (hl : lstAt conc (CL r n o)) (hc : co = (CL r n o).length) (hm : lstAt mem (CL r n o)) (hi : i < co) (hL : nz = L.length) (h : NbOK (P_ab r (mem i) o) L) : nI nz = cpF conc co i 3 co 0 0 0 := by
  subst hc
  have hcl : (CL r n o).length ≤ 4096 := Nat.le_trans (CLp_len r n o _) (p2_le hn)
  rw [lst_same hm hl hi] at h
  have e := cp_3 (conc := conc) (co := (CL r n o).length) (i := i) hcl (CL r n o).length 0 0 (by omega)
  rw [show (alF conc (CL r n o).length i 0).length = 0 from rfl] at e
  rw [e, ab_list hn hl hi h, hL]
theorem aw_4 {r : Nat → Nat} {n o i : Nat} {co : Nat} {conc mem : Nat → Nat} {L : List Nat} {nz : Nat} (hn : n ≤ 12) (hl : lstAt conc (CL r n o)) (hc : co = (CL r n o).length) (hm : lstAt mem (CL r n o)) (hi : i < co) (hL : nz = L.length) (h : NbOK (P_be r n o (mem i) n) L) : nI nz = cpF conc co i 4 co 0 0 0 := by
  subst hc
  have hcl : (CL r n o).length ≤ 4096 := Nat.le_trans (CLp_len r n o _) (p2_le hn)
  rw [lst_same hm hl hi] at h
  have e := cp_4 (conc := conc) (co := (CL r n o).length) (i := i) hcl (CL r n o).length 0 0 (Nat.le_refl _) (by omega)
  rw [show (blF conc (CL r n o).length i 0).length = 0 from rfl] at e
  rw [e, be_len hn hl hi h, hL]
theorem aw_5 {r : Nat → Nat} {n o i t : Nat} {co : Nat} {conc mem fd : Nat → Nat} {L : List Nat} {nz : Nat} (hn : n ≤ 12) (ht : t + 5 < 2 ^ 31) (hl : lstAt conc (CL r n o)) (hc : co = (CL r n o).length) (hm : lstAt mem (CL r n o)) (hi : i < co) (hf : lstAt fd L) (hL : nz = L.length) (hz : nz ≤ 20) (h : NbOK (P_ab r (mem i) o) L) : (if (decide (¬ nI t < 0) && decide (¬ nI nz ≤ nI t)) = true then nI (fd (nI t).toNatClampNeg) else -1) = cpF conc co i (nI (t + 5)) co 0 0 0 := by
  subst hc
  have hcl : (CL r n o).length ≤ 4096 := Nat.le_trans (CLp_len r n o _) (p2_le hn)
  rw [lst_same hm hl hi] at h
  have e := cp_5 (conc := conc) (co := (CL r n o).length) (i := i) hcl ht (CL r n o).length 0 0 (by omega) (by show 0 ≤ t; omega)
  rw [show (alF conc (CL r n o).length i 0).length = 0 from rfl, ab_list hn hl hi h] at e
  rw [e, nI_clamp (by omega), ib_iB (by omega)]
  by_cases h1 : t < L.length
  · rw [if_pos h1, if_pos (iB_t (by omega) (by omega)), hf t h1]
  · rw [if_neg h1, if_neg (fun z => h1 (by have := iB_lt (by omega) z; rw [nI_clamp (by omega)] at this; omega))]
theorem aw_follows {r : Nat → Nat} {n o bz co ba m q g : Nat} {pr cn conc lev prem concl : Nat → Nat} (hn : n ≤ 12) (hq : q < 2 ^ n) (hB : bz = (BL r n o).length ∧ lstAt pr (BL r n o) ∧ ∀ j, j < bz → cn j = clo r n o (pr j)) (hK : KnOK r n o co ba conc lev prem concl) (hF : isF prem concl (min ba m) q g) : nI (lkF pr cn (min m bz) 13 q) = nI g := by
  obtain ⟨e, h1, h2⟩ := aw_base hB hK
  subst e
  have hc : ∀ j, j < min m ba → cn j < 2 ^ n := fun j hj => by rw [hB.2.2 j (by omega)]; exact clo_lt _ _ _ _
  have h3 := lk_13 (prem := pr) (concl := cn) (L := min m ba) hn hq hc
  rw [Nat.min_comm] at hF
  have h4 := isF_congr (fun j hj => h1 j (by omega)) (fun j hj => h2 j (by omega)) hF
  rw [isF_uniq h3 h4]
theorem ar_K {s : State} {args : Array Value} {ty : FieldType} (h : (Cond.arrayClass ty).before args s = true) : ∃ c : ClassId, ArrOfT s c ty ∧ s.vm.findClass ("[" ++ ty.toString) = some c := by
  obtain ⟨c, k, comp, h1, h2, h3⟩ := Cond.arrayClass_spec h
  exact ⟨c, fun n z => ⟨fun k h => (by cases h), k, h2, comp, h3⟩, h1⟩
