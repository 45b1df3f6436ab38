/-! the class: what the neighbours, the base and the asking rest on -/
def P_ab (r : Nat → Nat) (q k : Nat) : Nat → Prop := fun s => ∃ i, i < k ∧ (q &&& r i) = s ∧ ¬ s = q
def P_be (r : Nat → Nat) (n o q k : Nat) : Nat → Prop := fun s => ∃ i, i < k ∧ q.testBit i = false ∧ ((2 ^ n - 1) ^^^ clo r n o (q ||| 2 ^ i)) = s
theorem nb_ex {P P' : Nat → Prop} {L : List Nat} (h : NbOK P L) (e : ∀ s, P s ↔ P' s) : NbOK P' L := ⟨fun x hx => (e x).mp (h.1 x hx), fun s hs => h.2.1 s ((e s).mpr hs), h.2.2.1, h.2.2.2⟩
theorem ab_skip {r : Nat → Nat} {q k : Nat} (h : (q &&& r k) = q) : ∀ s, P_ab r q k s ↔ P_ab r q (k + 1) s := fun s => by
  constructor
  · intro ⟨i, h1, h2⟩; exact ⟨i, by omega, h2⟩
  · intro ⟨i, h1, h2, h3⟩
    by_cases e : i = k
    · subst e; exact absurd (h2.symm.trans h) h3
    · exact ⟨i, by omega, h2, h3⟩
theorem ab_add {r : Nat → Nat} {q k : Nat} (h : ¬ (q &&& r k) = q) : ∀ s, (P_ab r q k s ∨ s = (q &&& r k)) ↔ P_ab r q (k + 1) s := fun s => by
  constructor
  · intro z
    rcases z with ⟨i, h1, h2⟩ | z
    · exact ⟨i, by omega, h2⟩
    · exact ⟨k, Nat.lt_succ_self k, z.symm, by rw [z]; exact h⟩
  · intro ⟨i, h1, h2, h3⟩
    by_cases e : i = k
    · subst e; exact Or.inr h2.symm
    · exact Or.inl ⟨i, by omega, h2, h3⟩
theorem be_skip {r : Nat → Nat} {n o q k : Nat} (h : q.testBit k = true) : ∀ s, P_be r n o q k s ↔ P_be r n o q (k + 1) s := fun s => by
  constructor
  · intro ⟨i, h1, h2⟩; exact ⟨i, by omega, h2⟩
  · intro ⟨i, h1, h2, h3⟩
    by_cases e : i = k
    · subst e; rw [h] at h2; cases h2
    · exact ⟨i, by omega, h2, h3⟩
theorem be_add {r : Nat → Nat} {n o q k : Nat} (h : q.testBit k = false) : ∀ s, (P_be r n o q k s ∨ s = ((2 ^ n - 1) ^^^ clo r n o (q ||| 2 ^ k))) ↔ P_be r n o q (k + 1) s := fun s => by
  constructor
  · intro z
    rcases z with ⟨i, h1, h2⟩ | z
    · exact ⟨i, by omega, h2⟩
    · exact ⟨k, Nat.lt_succ_self k, h, z.symm⟩
  · intro ⟨i, h1, h2, h3⟩
    by_cases e : i = k
    · subst e; exact Or.inr h3.symm
    · exact Or.inl ⟨i, by omega, h2, h3⟩
theorem ab_lt {r : Nat → Nat} {q k n : Nat} (hq : q < 2 ^ n) : ∀ s, P_ab r q k s → s < 2 ^ n := fun s ⟨_, _, h, _⟩ => by rw [← h]; exact Nat.lt_of_le_of_lt Nat.and_le_left hq
theorem be_lt {r : Nat → Nat} {n o q k : Nat} : ∀ s, P_be r n o q k s → s < 2 ^ n := fun s ⟨_, _, _, h⟩ => by
  rw [← h]; exact Nat.xor_lt_two_pow (Nat.sub_lt (Nat.two_pow_pos n) (by decide)) (clo_lt _ _ _ _)
/-- the closures joined of the parts that are less by one -/
def jpF (jo : Nat → Nat) (q : Nat) : Nat → Nat
  | 0 => 0
  | k + 1 => if q.testBit k = true then jpF jo q k ||| jo (q ^^^ 2 ^ k) else jpF jo q k
theorem jpF_lt {jo : Nat → Nat} {q n : Nat} (h : ∀ x, jo x < 2 ^ n) : ∀ k, jpF jo q k < 2 ^ n
  | 0 => Nat.two_pow_pos n
  | k + 1 => by
    have ih := jpF_lt (q := q) h k
    unfold jpF
    split
    · exact Nat.or_lt_two_pow ih (h _)
    · exact ih
theorem dn_e {d : Nat} (h : 1 ≤ d) : nI d + (-1 : Int32) = nI (d - 1) := by
  rw [← show (nI d - (1 : Int32)) = nI (d - 1) from pk_sub (a := d) (b := 1) h]
  exact (Int32.sub_eq_add_neg _ _).symm
section RVR
variable {p : Program} {l : Launch} {e : Env} {R : Room} {s : State} {m : MethodId} {args : Array Value} {below : List Frame} {meth : Method} {c : Code} {H : Heap} {locs : List Loc} {cells slots : Nat} {Q : State → Prop}
variable {pc : Nat} {ls : Array Slot} {rest : List Value}
variable {y : MethodName} {bytes cc : ByteArray} {maxL nL n index : Nat} {ret : Option FieldType} {ws : List Cond} {rm : Room} {Ts : List Cond} {own C : String} {b : Addr} {As st0 : List Value}
theorem rd_VR {D : va_G} {cl : List vw_C} {wc : va_W} {tc : List (ClassId × FieldType)} {r : Value} (S : CallFix p m c cc nL s args Ts own) (hM : Met l y ws rm (va_Pc (.ref b :: As) (fun U => va_P D cl wc U.heap ∧ va_K D cl tc U)) (k2_QcV r) 0 0 (fun _ => False)) (cw : CallW R s args own C index y bytes maxL ret ws rm 0 0 n)
    (hP : va_P D cl wc H) (hK : va_K D cl tc s) (hrc : ∃ cell : Cell, H[b]? = some cell ∧ cell.vm.isStatics = false ∧ s.vm.findClass C = some cell.cls) (hg : (F0 m pc ls st0).method = m) (hn : As.length = n) (hsize : ls.size = nL) (hstack : st0 = As.reverse ++ .ref b :: rest) (hW : 2 * (F0 m pc ls st0).monitorRoom + (rest.map fun v => v.category).sum ≤ 8) (hdg : decode cc pc = .ok (.invokevirtual index, 3)) (hf : cells + 0 ≤ R.cells ∧ slots + 0 ≤ R.slots)
    (kk : W p l e R s m args below meth c H locs cells slots Q (F0 m (pc + 3) ls (r :: rest))) : W p l e R s m args below meth c H locs cells slots Q (F0 m pc ls st0) :=
  W.callV (W.runV S hM cw ⟨rd_bl, hrc, fun U hU hW => ⟨rfl, by rw [hU]; exact hP, va_K.moved hW.alike hK⟩⟩ hg hn hsize hstack hW hdg hf) kk
end RVR
theorem jpF_congr {jo jo' : Nat → Nat} {q : Nat} : ∀ k, (∀ i, i < k → q.testBit i = true → jo (q ^^^ 2 ^ i) = jo' (q ^^^ 2 ^ i)) → jpF jo q k = jpF jo' q k
  | 0, _ => rfl
  | k + 1, h => by
    unfold jpF
    rw [jpF_congr k (fun i hi => h i (by omega))]
    by_cases hb : q.testBit k = true
    · rw [if_pos hb, if_pos hb, h k (by omega) hb]
    · rw [if_neg hb, if_neg hb]
theorem xor_part {q i : Nat} (h : q.testBit i = true) : sN (q ^^^ 2 ^ i) q = true ∧ ¬ (q ^^^ 2 ^ i) = q := by
  constructor
  · apply sN_bit.mpr
    intro j hj
    rw [xor_pow_bit] at hj
    by_cases e : i = j
    · subst e; exact h
    · rw [decide_eq_false e, Bool.xor_false] at hj; exact hj
  · intro e
    have h1 : (q ^^^ 2 ^ i).testBit i = q.testBit i := by rw [e]
    rw [xor_pow_bit, h, decide_eq_true rfl] at h1
    cases h1
/-- what was joined before serves the set at place k -/
theorem jo_part {n k : Nat} {jo1 JO : Nat → Nat} (hk : k < 2 ^ n) (h : ∀ j, j < k → jo1 (tur n j n) = JO (tur n j n)) : jpF jo1 (tur n k n) n = jpF JO (tur n k n) n := by
  apply jpF_congr
  intro i hi hb
  have hp := xor_part hb
  have ht := tur_lt n k n
  have hx := xor_pow_lt ht hi
  have hlt := tur_part hx ht hp.1 hp.2
  rw [tur_tur hk] at hlt
  have := h _ hlt
  rw [tur_tur hx] at this
  exact this
