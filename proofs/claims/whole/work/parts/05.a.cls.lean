set_option maxHeartbeats 4000000 in
set_option maxRecDepth 100000 in
theorem c_X5_isIndexIn (l : Launch) (D : va_G) (h2 : Nat) (cI : ClassId) (N : Nat) (f : Nat → Int32) (q : Nat) (hq : q < N) (hN2 : N ≤ 4096) : Met l yX5_isIndexIn wsX5_isIndexIn ({ frames := 0, cells := 0, slots := 0, locals := 0 }) (va_Pc [.ref h2, .int (nI q)] (fun U => va_P D vwCl [(h2, .inl (cI, N, .inl f))] U.heap ∧ va_K D vwCl [(cI, .int)] U)) (QcRead (b2 true)) 0 0 (fun _ => False) := by
  refine Met.ofW (cc := cX5_isIndexIn) (maxL := 2) (ret := (some .boolean)) (by decide) rfl ?_
  intro p e s m args below meth c s₁ B hml hv
  obtain ⟨rfl, hP, hK⟩ := hv
  have hx := B.exec
  have hb := B.bytes
  have hr := B.returns
  have hts := atoms_spec (ws := wsX5_isIndexIn) B.pre
  have hown : s.vm.findClass RX5 = some m.cls := findClass_of_methodNamed B.named
  have hlocks := B.notSynchronized
  have hl := lv_entry ([.ref h2, .int (nI q)]) (n := 2) (Nat.le_of_ble_eq_true rfl)
  rw [lg_entry_eq]
  generalize (lg_sl ([.ref h2, .int (nI q)]) ++ List.replicate (2 - (lg_sl ([.ref h2, .int (nI q)])).length) Slot.unset).toArray = ls at hl ⊢
  have hl : lv_has ls 2 [(0, .ref h2), (1, .int (nI q))] := hl
  refine lv_iload_n hx hb dX5_isIndexIn_0 rfl (lv_at hl 1 rfl) ?_
  refine lv_if_lt (tgt := 14) hx hb dX5_isIndexIn_1 (by decide) (fun c_1 => ?_) (fun c_1 => ?_)
  · have c_1 : q < 0 := (nI_ltI (a := q) (b := 0) (by omega) (by omega)).mp c_1
    exact absurd c_1 (by omega)
  · have c_1 : 0 ≤ q := Nat.le_of_not_lt (fun h_ => c_1 ((nI_ltI (a := q) (b := 0) (by omega) (by omega)).mpr h_))
    refine lv_iload_n hx hb dX5_isIndexIn_4 rfl (lv_at hl 1 rfl) ?_
    refine lv_aload_n hx hb dX5_isIndexIn_5 rfl (lv_at hl 0 rfl) ?_
    refine va_alen hx hb hK hP 0 0 rfl rfl (v := nI N) rfl dX5_isIndexIn_6 ?_
    refine lv_icmp_ge (tgt := 14) hx hb dX5_isIndexIn_7 (by decide) (fun c_7 => ?_) (fun c_7 => ?_)
    · have c_7 : N ≤ q := (nI_leI (a := N) (b := q) (by omega) (by omega)).mp c_7
      exact absurd c_7 (by omega)
    · have c_7 : q < N := Nat.lt_of_not_le (fun h_ => c_7 ((nI_leI (a := N) (b := q) (by omega) (by omega)).mpr h_))
      refine lv_iconst (v := 1) hx hb dX5_isIndexIn_10 (by decide) ?_
      refine lv_goto (tgt := 15) hx hb dX5_isIndexIn_11 (by decide) ?_
      have e_ret : (1 : Int32) = (b2 true) := by rfl
      exact W.zret (v := (1 : Int32)) hx hb hr rfl (fun t ht hW => ⟨congrArg (fun z_ => Outcome.returned (some (Value.int z_))) e_ret, ht⟩) (fun q h => by cases h) dX5_isIndexIn_15

set_option maxHeartbeats 4000000 in
set_option maxRecDepth 100000 in
theorem c_X5_allOf (l : Launch) (D : va_G) (k : Nat) (hk : k ≤ 20) : Met l yX5_allOf wsX5_allOf ({ frames := 0, cells := 0, slots := 0, locals := 0 }) (va_Pc [.int (nI k)] (fun U => va_P D vwCl [] U.heap ∧ va_K D vwCl [] U)) (QcRead (nI (2 ^ k - 1))) 0 0 (fun _ => False) := by
  refine Met.ofW (cc := cX5_allOf) (maxL := 1) (ret := (some .int)) (by decide) rfl ?_
  intro p e s m args below meth c s₁ B hml hv
  obtain ⟨rfl, hP, hK⟩ := hv
  have hx := B.exec
  have hb := B.bytes
  have hr := B.returns
  have hts := atoms_spec (ws := wsX5_allOf) B.pre
  have hown : s.vm.findClass RX5 = some m.cls := findClass_of_methodNamed B.named
  have hlocks := B.notSynchronized
  have hl := lv_entry ([.int (nI k)]) (n := 1) (Nat.le_of_ble_eq_true rfl)
  rw [lg_entry_eq]
  generalize (lg_sl ([.int (nI k)]) ++ List.replicate (1 - (lg_sl ([.int (nI k)])).length) Slot.unset).toArray = ls at hl ⊢
  have hl : lv_has ls 1 [(0, .int (nI k))] := hl
  refine lv_iconst (v := 1) hx hb dX5_allOf_0 (by decide) ?_
  refine lv_iload_n hx hb dX5_allOf_1 rfl (lv_at hl 0 rfl) ?_
  refine lv_ishl hx hb dX5_allOf_2 ?_
  refine lv_re (y := (nI (2 ^ k))) (nx_sh1 (k := k) (by omega)) ?_
  refine lv_iconst (v := 1) hx hb dX5_allOf_3 (by decide) ?_
  refine lv_isub hx hb dX5_allOf_4 ?_
  refine lv_re (y := (nI ((2 ^ k) - 1))) (pk_sub (a := (2 ^ k)) (b := 1) (p2_pos k)) ?_
  have e_ret : (nI ((2 ^ k) - 1)) = (nI (2 ^ k - 1)) := by rfl
  exact W.iret (v := (nI ((2 ^ k) - 1))) hx hb hr (fun t ht hW => ⟨congrArg (fun z_ => Outcome.returned (some (Value.int z_))) e_ret, ht⟩) (fun q h => by cases h) dX5_allOf_5

set_option maxHeartbeats 4000000 in
set_option maxRecDepth 100000 in
theorem c_X5_hasAll (l : Launch) (D : va_G) (a : Int32) (b : Int32)  : Met l yX5_hasAll wsX5_hasAll ({ frames := 0, cells := 0, slots := 0, locals := 0 }) (va_Pc [.int a, .int b] (fun U => va_P D vwCl [] U.heap ∧ va_K D vwCl [] U)) (QcRead (b2 (sb b a))) 0 0 (fun _ => False) := by
  refine Met.ofW (cc := cX5_hasAll) (maxL := 2) (ret := (some .boolean)) (by decide) rfl ?_
  intro p e s m args below meth c s₁ B hml hv
  obtain ⟨rfl, hP, hK⟩ := hv
  have hx := B.exec
  have hb := B.bytes
  have hr := B.returns
  have hts := atoms_spec (ws := wsX5_hasAll) B.pre
  have hown : s.vm.findClass RX5 = some m.cls := findClass_of_methodNamed B.named
  have hlocks := B.notSynchronized
  have hl := lv_entry ([.int a, .int b]) (n := 2) (Nat.le_of_ble_eq_true rfl)
  rw [lg_entry_eq]
  generalize (lg_sl ([.int a, .int b]) ++ List.replicate (2 - (lg_sl ([.int a, .int b])).length) Slot.unset).toArray = ls at hl ⊢
  have hl : lv_has ls 2 [(0, .int a), (1, .int b)] := hl
  refine lv_iload_n hx hb dX5_hasAll_0 rfl (lv_at hl 1 rfl) ?_
  refine lv_iload_n hx hb dX5_hasAll_1 rfl (lv_at hl 0 rfl) ?_
  refine lv_iconst (v := -1) hx hb dX5_hasAll_2 (by decide) ?_
  refine lv_ixor hx hb dX5_hasAll_3 ?_
  refine lv_iand hx hb dX5_hasAll_4 ?_
  refine lv_if_ne (tgt := 12) hx hb dX5_hasAll_5 (by decide) (fun c_5 => ?_) (fun c_5 => ?_)
  · refine lv_iconst (v := 0) hx hb dX5_hasAll_12 (by decide) ?_
    have e_ret : (0 : Int32) = (b2 (sb b a)) := by exact sb_0 c_5
    exact W.zret (v := (0 : Int32)) hx hb hr rfl (fun t ht hW => ⟨congrArg (fun z_ => Outcome.returned (some (Value.int z_))) e_ret, ht⟩) (fun q h => by cases h) dX5_hasAll_13
  · refine lv_iconst (v := 1) hx hb dX5_hasAll_8 (by decide) ?_
    refine lv_goto (tgt := 13) hx hb dX5_hasAll_9 (by decide) ?_
    have e_ret : (1 : Int32) = (b2 (sb b a)) := by exact sb_1 c_5
    exact W.zret (v := (1 : Int32)) hx hb hr rfl (fun t ht hW => ⟨congrArg (fun z_ => Outcome.returned (some (Value.int z_))) e_ret, ht⟩) (fun q h => by cases h) dX5_hasAll_13

theorem c_X5_hasAll_N (l : Launch) (D : va_G) (a : Nat) (b : Nat) (hb9 : b < 2 ^ 31) : Met l yX5_hasAll wsX5_hasAll ({ frames := 0, cells := 0, slots := 0, locals := 0 }) (va_Pc [.int (nI a), .int (nI b)] (fun U => va_P D vwCl [] U.heap ∧ va_K D vwCl [] U)) (QcRead (b2 (sN b a))) 0 0 (fun _ => False) := by
  rw [← sb_nI hb9]; exact c_X5_hasAll l D (nI a) (nI b)

set_option maxHeartbeats 4000000 in
set_option maxRecDepth 100000 in
theorem c_X5_hasAllAndMore (l : Launch) (D : va_G) (a : Nat) (b : Nat) (ha9 : a < 2 ^ 31) (hb9 : b < 2 ^ 31) : Met l yX5_hasAllAndMore wsX5_hasAllAndMore ({ frames := 1, cells := 0, slots := 0, locals := 21 }) (va_Pc [.int (nI a), .int (nI b)] (fun U => va_P D vwCl [] U.heap ∧ va_K D vwCl [] U)) (QcRead (b2 (decide (¬ a = b) && sN b a))) 0 0 (fun _ => False) := by
  refine Met.ofW (cc := cX5_hasAllAndMore) (maxL := 2) (ret := (some .boolean)) (by decide) rfl ?_
  intro p e s m args below meth c s₁ B hml hv
  obtain ⟨rfl, hP, hK⟩ := hv
  have hx := B.exec
  have hb := B.bytes
  have hr := B.returns
  have hts := atoms_spec (ws := wsX5_hasAllAndMore) B.pre
  have hown : s.vm.findClass RX5 = some m.cls := findClass_of_methodNamed B.named
  have hlocks := B.notSynchronized
  have hl := lv_entry ([.int (nI a), .int (nI b)]) (n := 2) (Nat.le_of_ble_eq_true rfl)
  rw [lg_entry_eq]
  generalize (lg_sl ([.int (nI a), .int (nI b)]) ++ List.replicate (2 - (lg_sl ([.int (nI a), .int (nI b)])).length) Slot.unset).toArray = ls at hl ⊢
  have hl : lv_has ls 2 [(0, .int (nI a)), (1, .int (nI b))] := hl
  refine lv_iload_n hx hb dX5_hasAllAndMore_0 rfl (lv_at hl 0 rfl) ?_
  refine lv_iload_n hx hb dX5_hasAllAndMore_1 rfl (lv_at hl 1 rfl) ?_
  refine lv_icmp_eq (tgt := 17) hx hb dX5_hasAllAndMore_2 (by decide) (fun c_2 => ?_) (fun c_2 => ?_)
  · have c_2 : a = b := (nI_eq (a := a) (b := b) (by omega) (by omega)).mp c_2
    refine lv_iconst (v := 0) hx hb dX5_hasAllAndMore_17 (by decide) ?_
    have e_ret : (0 : Int32) = (b2 (decide (¬ a = b) && sN b a)) := by rw [decide_eq_false (fun z => z c_2)]; rfl
    exact W.zret (v := (0 : Int32)) hx hb hr rfl (fun t ht hW => ⟨congrArg (fun z_ => Outcome.returned (some (Value.int z_))) e_ret, ht⟩) (fun q h => by cases h) dX5_hasAllAndMore_18
  · have c_2 : ¬ a = b := fun h_ => c_2 ((nI_eq (a := a) (b := b) (by omega) (by omega)).mpr h_)
    refine lv_iload_n hx hb dX5_hasAllAndMore_5 rfl (lv_at hl 0 rfl) ?_
    refine lv_iload_n hx hb dX5_hasAllAndMore_6 rfl (lv_at hl 1 rfl) ?_
    refine rd_S (As := [.int (nI a), .int (nI b)]) (rest := []) ⟨hx, hb, hml, hown, hts⟩ (c_X5_hasAll_N l D a b (by assumption)) (va_cwS 2 hts gX5_hasAllAndMore_X5_hasAll rfl rfl rfl (by decide +kernel) ⟨Nat.le_of_ble_eq_true rfl, Nat.le_of_ble_eq_true rfl⟩) (hP.sub (ws' := []) [] rfl) (hK.sub (tys' := []) [] rfl) rfl rfl hl.1 rfl (lv_room (Nat.le_of_ble_eq_true rfl)) dX5_hasAllAndMore_7 ⟨Nat.le_of_ble_eq_true rfl, Nat.le_of_ble_eq_true rfl⟩ ?_
    refine lv_if_eq (tgt := 17) hx hb dX5_hasAllAndMore_10 (by decide) (fun c_10 => ?_) (fun c_10 => ?_)
    · have c_10 := b2_0.mp c_10
      refine lv_iconst (v := 0) hx hb dX5_hasAllAndMore_17 (by decide) ?_
      have e_ret : (0 : Int32) = (b2 (decide (¬ a = b) && sN b a)) := by rw [decide_eq_true c_2, c_10]; rfl
      exact W.zret (v := (0 : Int32)) hx hb hr rfl (fun t ht hW => ⟨congrArg (fun z_ => Outcome.returned (some (Value.int z_))) e_ret, ht⟩) (fun q h => by cases h) dX5_hasAllAndMore_18
    · have c_10 := b2_n0.mp c_10
      refine lv_iconst (v := 1) hx hb dX5_hasAllAndMore_13 (by decide) ?_
      refine lv_goto (tgt := 18) hx hb dX5_hasAllAndMore_14 (by decide) ?_
      have e_ret : (1 : Int32) = (b2 (decide (¬ a = b) && sN b a)) := by rw [decide_eq_true c_2, c_10]; rfl
      exact W.zret (v := (1 : Int32)) hx hb hr rfl (fun t ht hW => ⟨congrArg (fun z_ => Outcome.returned (some (Value.int z_))) e_ret, ht⟩) (fun q h => by cases h) dX5_hasAllAndMore_18

set_option maxHeartbeats 4000000 in
set_option maxRecDepth 100000 in
theorem c_X5_comesLater (l : Launch) (D : va_G) (a : Int32) (b : Int32)  : Met l yX5_comesLater wsX5_comesLater ({ frames := 0, cells := 0, slots := 0, locals := 0 }) (va_Pc [.int a, .int b] (fun U => va_P D vwCl [] U.heap ∧ va_K D vwCl [] U)) (QcRead (b2 (clI a b))) 0 0 (fun _ => False) := by
  refine Met.ofW (cc := cX5_comesLater) (maxL := 4) (ret := (some .boolean)) (by decide) rfl ?_
  intro p e s m args below meth c s₁ B hml hv
  obtain ⟨rfl, hP, hK⟩ := hv
  have hx := B.exec
  have hb := B.bytes
  have hr := B.returns
  have hts := atoms_spec (ws := wsX5_comesLater) B.pre
  have hown : s.vm.findClass RX5 = some m.cls := findClass_of_methodNamed B.named
  have hlocks := B.notSynchronized
  have hl := lv_entry ([.int a, .int b]) (n := 4) (Nat.le_of_ble_eq_true rfl)
  rw [lg_entry_eq]
  generalize (lg_sl ([.int a, .int b]) ++ List.replicate (4 - (lg_sl ([.int a, .int b])).length) Slot.unset).toArray = ls at hl ⊢
  have hl : lv_has ls 4 [(0, .int a), (1, .int b)] := hl
  refine lv_iload_n hx hb dX5_comesLater_0 rfl (lv_at hl 0 rfl) ?_
  refine lv_iload_n hx hb dX5_comesLater_1 rfl (lv_at hl 1 rfl) ?_
  refine lv_ixor hx hb dX5_comesLater_2 ?_
  refine lv_istore_n (lv' := [(2, .int (a ^^^ b)), (0, .int a), (1, .int b)]) hx hb dX5_comesLater_3 rfl hl (by decide) rfl (fun ls hl => ?_)
  refine lv_iload_n hx hb dX5_comesLater_4 rfl (lv_at hl 0 rfl) ?_
  refine lv_iload_n hx hb dX5_comesLater_5 rfl (lv_at hl 0 rfl) ?_
  refine lv_ineg hx hb dX5_comesLater_6 ?_
  refine lv_iand hx hb dX5_comesLater_7 ?_
  refine lv_istore_n (lv' := [(3, .int ((a ^^^ b) &&& (-(a ^^^ b)))), (2, .int (a ^^^ b)), (0, .int a), (1, .int b)]) hx hb dX5_comesLater_8 rfl hl (by decide) rfl (fun ls hl => ?_)
  refine lv_iload_n hx hb dX5_comesLater_9 rfl (lv_at hl 2 rfl) ?_
  refine lv_iload_n hx hb dX5_comesLater_10 rfl (lv_at hl 0 rfl) ?_
  refine lv_iand hx hb dX5_comesLater_11 ?_
  refine lv_if_eq (tgt := 19) hx hb dX5_comesLater_12 (by decide) (fun c_12 => ?_) (fun c_12 => ?_)
  · refine lv_iconst (v := 0) hx hb dX5_comesLater_19 (by decide) ?_
    have e_ret : (0 : Int32) = (b2 (clI a b)) := by unfold clI; rw [decide_eq_false (fun z => z c_12)]; rfl
    exact W.zret (v := (0 : Int32)) hx hb hr rfl (fun t ht hW => ⟨congrArg (fun z_ => Outcome.returned (some (Value.int z_))) e_ret, ht⟩) (fun q h => by cases h) dX5_comesLater_20
  · refine lv_iconst (v := 1) hx hb dX5_comesLater_15 (by decide) ?_
    refine lv_goto (tgt := 20) hx hb dX5_comesLater_16 (by decide) ?_
    have e_ret : (1 : Int32) = (b2 (clI a b)) := by unfold clI; rw [decide_eq_true c_12]; rfl
    exact W.zret (v := (1 : Int32)) hx hb hr rfl (fun t ht hW => ⟨congrArg (fun z_ => Outcome.returned (some (Value.int z_))) e_ret, ht⟩) (fun q h => by cases h) dX5_comesLater_20

set_option maxHeartbeats 4000000 in
set_option maxRecDepth 100000 in
theorem c_X5_rightBehind (l : Launch) (D : va_G) (q : Nat) (n : Nat) (hn : n ≤ 12) (hq : q < 2 ^ n) : Met l yX5_rightBehind wsX5_rightBehind ({ frames := 0, cells := 0, slots := 0, locals := 0 }) (va_Pc [.int (nI q), .int (nI n)] (fun U => va_P D vwCl [] U.heap ∧ va_K D vwCl [] U)) (QcRead (rbF n q)) 0 0 (fun _ => False) := by
  refine Met.ofW (cc := cX5_rightBehind) (maxL := 5) (ret := (some .int)) (by decide) rfl ?_
  intro p e s m args below meth c s₁ B hml hv
  obtain ⟨rfl, hP, hK⟩ := hv
  have hx := B.exec
  have hb := B.bytes
  have hr := B.returns
  have hts := atoms_spec (ws := wsX5_rightBehind) B.pre
  have hown : s.vm.findClass RX5 = some m.cls := findClass_of_methodNamed B.named
  have hlocks := B.notSynchronized
  have hl := lv_entry ([.int (nI q), .int (nI n)]) (n := 5) (Nat.le_of_ble_eq_true rfl)
  rw [lg_entry_eq]
  generalize (lg_sl ([.int (nI q), .int (nI n)]) ++ List.replicate (5 - (lg_sl ([.int (nI q), .int (nI n)])).length) Slot.unset).toArray = ls at hl ⊢
  have hl : lv_has ls 5 [(0, .int (nI q)), (1, .int (nI n))] := hl
  have h2n := p2_le hn
  refine lv_iload_n hx hb dX5_rightBehind_0 rfl (lv_at hl 0 rfl) ?_
  refine lv_istore_n (lv' := [(2, .int (nI q)), (0, .int (nI q)), (1, .int (nI n))]) hx hb dX5_rightBehind_1 rfl hl (by decide) rfl (fun ls hl => ?_)
  refine lv_iload_n hx hb dX5_rightBehind_2 rfl (lv_at hl 2 rfl) ?_
  refine lv_iconst (v := 1) hx hb dX5_rightBehind_3 (by decide) ?_
  refine lv_isub hx hb dX5_rightBehind_4 ?_
  refine lv_istore_n (lv' := [(3, .int ((nI n) - (1 : Int32))), (2, .int (nI q)), (0, .int (nI q)), (1, .int (nI n))]) hx hb dX5_rightBehind_5 rfl hl (by decide) rfl (fun ls hl => ?_)
  have lp_6 : ∀ (n_ : Nat) (d_ : Nat) (kv : Int32) (g : Nat), d_ < n_ → (d_ ≤ n) → (kv = nI d_ - 1) → (g < 2 ^ n) → (rbF d_ g = rbF n q) → ∀ (x2 : Int32), x2 = nI g → ∀ (ls : Array Slot), lv_has ls 5 [(3, .int kv), (2, .int x2), (0, .int (nI q)), (1, .int (nI n))] → W p l e (headSpec wsX5_rightBehind ({ frames := 0, cells := 0, slots := 0, locals := 0 })).room s m ([.int (nI q), .int (nI n)] : List Value).toArray below meth c s.heap [] 0 0 (MQ below (QcRead (rbF n q)) ([.int (nI q), .int (nI n)] : List Value).toArray s 0 0 (fun _ => False)) (F0 m 6 ls []) := by
    intro n_
    induction n_ with
    | zero => intro d_ kv g h0_; exact absurd h0_ (Nat.not_lt_zero _)
    | succ n_ ih_6 =>
      intro d_ kv g hm_6 hc hkv hg hres x2 e_x2 ls hl
      subst e_x2
      refine lv_iload_n hx hb dX5_rightBehind_6 rfl (lv_at hl 0 rfl) ?_
      refine lv_if_lt (tgt := 38) hx hb dX5_rightBehind_7 (by decide) (fun c_7 => ?_) (fun c_7 => ?_)
      · have hc0_ := dn_0 (by omega) hkv c_7
        refine lv_iconst (v := -1) hx hb dX5_rightBehind_38 (by decide) ?_
        have e_ret : (-1 : Int32) = (rbF n q) := by rw [← hres, hc0_]; rfl
        exact W.iret (v := (-1 : Int32)) hx hb hr (fun t ht hW => ⟨congrArg (fun z_ => Outcome.returned (some (Value.int z_))) e_ret, ht⟩) (fun q h => by cases h) dX5_rightBehind_39
      · obtain ⟨hc1_, hk_⟩ := dn_1 hkv c_7
        refine lv_iconst (v := 1) hx hb dX5_rightBehind_10 (by decide) ?_
        refine lv_iload_n hx hb dX5_rightBehind_11 rfl (lv_at hl 0 rfl) ?_
        refine lv_re (y := (nI (d_ - 1))) hk_ ?_
        refine lv_ishl hx hb dX5_rightBehind_12 ?_
        refine lv_re (y := (nI (2 ^ (d_ - 1)))) (nx_sh1 (k := (d_ - 1)) (by omega)) ?_
        refine lv_istore (lv' := [(4, .int (nI (2 ^ (d_ - 1)))), (3, .int kv), (2, .int (nI g)), (0, .int (nI q)), (1, .int (nI n))]) hx hb dX5_rightBehind_13 hl (by decide) rfl (fun ls hl => ?_)
        refine lv_iload_n hx hb dX5_rightBehind_15 rfl (lv_at hl 2 rfl) ?_
        refine lv_iload hx hb dX5_rightBehind_16 (lv_at hl 0 rfl) ?_
        refine lv_iand hx hb dX5_rightBehind_18 ?_
        refine lv_re (y := (nI (g &&& (2 ^ (d_ - 1))))) (nx_and g (2 ^ (d_ - 1))) ?_
        refine lv_if_ne (tgt := 27) hx hb dX5_rightBehind_19 (by decide) (fun c_19 => ?_) (fun c_19 => ?_)
        · have c_19 : ¬ (g &&& (2 ^ (d_ - 1))) = 0 := fun h_ => c_19 ((nI_eq (a := (g &&& (2 ^ (d_ - 1)))) (b := 0) (Nat.lt_of_le_of_lt Nat.and_le_left (by omega)) (by decide)).mpr h_)
          refine lv_iload_n hx hb dX5_rightBehind_27 rfl (lv_at hl 2 rfl) ?_
          refine lv_iload hx hb dX5_rightBehind_28 (lv_at hl 0 rfl) ?_
          refine lv_ixor hx hb dX5_rightBehind_30 ?_
          refine lv_re (y := (nI (g ^^^ (2 ^ (d_ - 1))))) (nx_xor g (2 ^ (d_ - 1))) ?_
          refine lv_istore_n (lv' := [(2, .int (nI (g ^^^ (2 ^ (d_ - 1))))), (4, .int (nI (2 ^ (d_ - 1)))), (3, .int kv), (0, .int (nI q)), (1, .int (nI n))]) hx hb dX5_rightBehind_31 rfl hl (by decide) rfl (fun ls hl => ?_)
          refine lv_iinc (v := (kv + (-1 : Int32))) (lv' := [(3, .int (kv + (-1 : Int32))), (2, .int (nI (g ^^^ (2 ^ (d_ - 1))))), (4, .int (nI (2 ^ (d_ - 1)))), (0, .int (nI q)), (1, .int (nI n))]) hx hb dX5_rightBehind_32 hl (k := 2) rfl rfl (by decide) rfl (fun ls hl => ?_)
          refine lv_goto (tgt := 6) hx hb dX5_rightBehind_35 (by decide) ?_
          exact ih_6 (d_ - 1) (kv + (-1 : Int32)) (g ^^^ 2 ^ (d_ - 1)) (by omega) (by omega) (dn_s hk_) (xor_pow_lt hg (by omega)) (by rw [← hres, show d_ = (d_ - 1) + 1 by omega, rbF, Nat.add_sub_cancel, if_pos (and_pow_t c_19)]) _ rfl _ (lv_sub hl [0, 1, 3, 4] rfl)
        · have c_19 : (g &&& (2 ^ (d_ - 1))) = 0 := (nI_eq (a := (g &&& (2 ^ (d_ - 1)))) (b := 0) (Nat.lt_of_le_of_lt Nat.and_le_left (by omega)) (by decide)).mp c_19
          refine lv_iload_n hx hb dX5_rightBehind_22 rfl (lv_at hl 2 rfl) ?_
          refine lv_iload hx hb dX5_rightBehind_23 (lv_at hl 0 rfl) ?_
          refine lv_ior hx hb dX5_rightBehind_25 ?_
          refine lv_re (y := (nI (g ||| (2 ^ (d_ - 1))))) (nx_or g (2 ^ (d_ - 1))) ?_
          have e_ret : (nI (g ||| (2 ^ (d_ - 1)))) = (rbF n q) := by rw [← hres, show d_ = (d_ - 1) + 1 by omega, rbF, Nat.add_sub_cancel, if_neg (by rw [and_pow.mp c_19]; decide)]
          exact W.iret (v := (nI (g ||| (2 ^ (d_ - 1))))) hx hb hr (fun t ht hW => ⟨congrArg (fun z_ => Outcome.returned (some (Value.int z_))) e_ret, ht⟩) (fun q h => by cases h) dX5_rightBehind_26
  exact lp_6 _ n (nI n - (1 : Int32)) q (Nat.lt_succ_self _) (Nat.le_refl _) rfl hq rfl _ rfl _ (lv_sub hl [0, 1, 2, 3] rfl)

set_option maxHeartbeats 4000000 in
set_option maxRecDepth 100000 in
theorem c_X6_attributes (l : Launch) (D : va_G) (h0 : Nat) (fs : List Value) (n : Nat) (f1 : fs[1]? = some (.int (nI n))) : Met l yX6_attributes wsX6_attributes ({ frames := 0, cells := 0, slots := 0, locals := 0 }) (va_Pc [.ref h0] (fun U => va_P D vwCl [(h0, .inr (5, fs))] U.heap ∧ va_K D vwCl [] U)) (QcRead (nI n)) 0 0 (fun _ => False) := by
  refine Met.ofW (cc := cX6_attributes) (maxL := 1) (ret := (some .int)) (by decide) rfl ?_
  intro p e s m args below meth c s₁ B hml hv
  obtain ⟨rfl, hP, hK⟩ := hv
  have hx := B.exec
  have hb := B.bytes
  have hr := B.returns
  have hts := atoms_spec (ws := wsX6_attributes) B.pre
  have hown : s.vm.findClass RX6 = some m.cls := findClass_of_methodNamed B.named
  have hlocks := B.notSynchronized
  have hl := lv_entry ([.ref h0]) (n := 1) (Nat.le_of_ble_eq_true rfl)
  rw [lg_entry_eq]
  generalize (lg_sl ([.ref h0]) ++ List.replicate (1 - (lg_sl ([.ref h0])).length) Slot.unset).toArray = ls at hl ⊢
  have hl : lv_has ls 1 [(0, .ref h0)] := hl
  refine lv_aload_n hx hb dX6_attributes_0 rfl (lv_at hl 0 rfl) ?_
  refine va_get (D := D) (ci := 5) (v := .int (nI n)) (C := RX6) (T := TX6) (N := 3) hx hb hts (by decide +kernel) hown hK hP 0 rfl rfl 1 (by decide) (hts (.fieldLink RX6 15 "ConceptTable$Table" "attributes" "I") (by decide +kernel)) (fun _ h9 => h9) f1 dX6_attributes_1 ?_
  have e_ret : (nI n) = (nI n) := by rfl
  exact W.iret (v := (nI n)) hx hb hr (fun t ht hW => ⟨congrArg (fun z_ => Outcome.returned (some (Value.int z_))) e_ret, ht⟩) (fun q h => by cases h) dX6_attributes_4

set_option maxHeartbeats 4000000 in
set_option maxRecDepth 100000 in
theorem c_X6_size (l : Launch) (D : va_G) (h0 : Nat) (fs : List Value) (o : Nat) (f2 : fs[2]? = some (.int (nI o))) : Met l yX6_size wsX6_size ({ frames := 0, cells := 0, slots := 0, locals := 0 }) (va_Pc [.ref h0] (fun U => va_P D vwCl [(h0, .inr (5, fs))] U.heap ∧ va_K D vwCl [] U)) (QcRead (nI o)) 0 0 (fun _ => False) := by
  refine Met.ofW (cc := cX6_size) (maxL := 1) (ret := (some .int)) (by decide) rfl ?_
  intro p e s m args below meth c s₁ B hml hv
  obtain ⟨rfl, hP, hK⟩ := hv
  have hx := B.exec
  have hb := B.bytes
  have hr := B.returns
  have hts := atoms_spec (ws := wsX6_size) B.pre
  have hown : s.vm.findClass RX6 = some m.cls := findClass_of_methodNamed B.named
  have hlocks := B.notSynchronized
  have hl := lv_entry ([.ref h0]) (n := 1) (Nat.le_of_ble_eq_true rfl)
  rw [lg_entry_eq]
  generalize (lg_sl ([.ref h0]) ++ List.replicate (1 - (lg_sl ([.ref h0])).length) Slot.unset).toArray = ls at hl ⊢
  have hl : lv_has ls 1 [(0, .ref h0)] := hl
  refine lv_aload_n hx hb dX6_size_0 rfl (lv_at hl 0 rfl) ?_
  refine va_get (D := D) (ci := 5) (v := .int (nI o)) (C := RX6) (T := TX6) (N := 3) hx hb hts (by decide +kernel) hown hK hP 0 rfl rfl 2 (by decide) (hts (.fieldLink RX6 19 "ConceptTable$Table" "size" "I") (by decide +kernel)) (fun _ h9 => h9) f2 dX6_size_1 ?_
  have e_ret : (nI o) = (nI o) := by rfl
  exact W.iret (v := (nI o)) hx hb hr (fun t ht hW => ⟨congrArg (fun z_ => Outcome.returned (some (Value.int z_))) e_ret, ht⟩) (fun q h => by cases h) dX6_size_4

set_option maxHeartbeats 4000000 in
set_option maxRecDepth 100000 in
theorem c_X6_isFull (l : Launch) (D : va_G) (h0 : Nat) (fs : List Value) (h2 : Nat) (cI : ClassId) (o : Nat) (r : Nat → Nat) (f0 : fs[0]? = some (.ref h2)) (f2 : fs[2]? = some (.int (nI o))) (ho : o ≤ 20) : Met l yX6_isFull wsX6_isFull ({ frames := 0, cells := 0, slots := 0, locals := 0 }) (va_Pc [.ref h0] (fun U => va_P D vwCl [(h0, .inr (5, fs)), (h2, .inl (cI, 20, .inl (fun i_ => nI (r i_))))] U.heap ∧ va_K D vwCl [(cI, .int)] U)) (QcRead (b2 (decide (20 ≤ o)))) 0 0 (fun _ => False) := by
  refine Met.ofW (cc := cX6_isFull) (maxL := 1) (ret := (some .boolean)) (by decide) rfl ?_
  intro p e s m args below meth c s₁ B hml hv
  obtain ⟨rfl, hP, hK⟩ := hv
  have hx := B.exec
  have hb := B.bytes
  have hr := B.returns
  have hts := atoms_spec (ws := wsX6_isFull) B.pre
  have hown : s.vm.findClass RX6 = some m.cls := findClass_of_methodNamed B.named
  have hlocks := B.notSynchronized
  have hl := lv_entry ([.ref h0]) (n := 1) (Nat.le_of_ble_eq_true rfl)
  rw [lg_entry_eq]
  generalize (lg_sl ([.ref h0]) ++ List.replicate (1 - (lg_sl ([.ref h0])).length) Slot.unset).toArray = ls at hl ⊢
  have hl : lv_has ls 1 [(0, .ref h0)] := hl
  refine lv_aload_n hx hb dX6_isFull_0 rfl (lv_at hl 0 rfl) ?_
  refine va_get (D := D) (ci := 5) (v := .int (nI o)) (C := RX6) (T := TX6) (N := 3) hx hb hts (by decide +kernel) hown hK hP 0 rfl rfl 2 (by decide) (hts (.fieldLink RX6 19 "ConceptTable$Table" "size" "I") (by decide +kernel)) (fun _ h9 => h9) f2 dX6_isFull_1 ?_
  refine lv_aload_n hx hb dX6_isFull_4 rfl (lv_at hl 0 rfl) ?_
  refine va_get (D := D) (ci := 5) (v := .ref h2) (C := RX6) (T := TX6) (N := 3) hx hb hts (by decide +kernel) hown hK hP 0 rfl rfl 0 (by decide) (hts (.fieldLink RX6 9 "ConceptTable$Table" "rows" "[I") (by decide +kernel)) (fun _ h9 => h9) f0 dX6_isFull_5 ?_
  refine va_alen hx hb hK hP 1 0 rfl rfl (v := nI 20) rfl dX6_isFull_8 ?_
  refine lv_icmp_lt (tgt := 16) hx hb dX6_isFull_9 (by decide) (fun c_9 => ?_) (fun c_9 => ?_)
  · have c_9 : o < 20 := (nI_ltI (a := o) (b := 20) (by omega) (by omega)).mp c_9
    refine lv_iconst (v := 0) hx hb dX6_isFull_16 (by decide) ?_
    have e_ret : (0 : Int32) = (b2 (decide (20 ≤ o))) := by rw [decide_eq_false (by omega)]; rfl
    exact W.zret (v := (0 : Int32)) hx hb hr rfl (fun t ht hW => ⟨congrArg (fun z_ => Outcome.returned (some (Value.int z_))) e_ret, ht⟩) (fun q h => by cases h) dX6_isFull_17
  · have c_9 : 20 ≤ o := Nat.le_of_not_lt (fun h_ => c_9 ((nI_ltI (a := o) (b := 20) (by omega) (by omega)).mpr h_))
    refine lv_iconst (v := 1) hx hb dX6_isFull_12 (by decide) ?_
    refine lv_goto (tgt := 17) hx hb dX6_isFull_13 (by decide) ?_
    have e_ret : (1 : Int32) = (b2 (decide (20 ≤ o))) := by rw [decide_eq_true (by omega)]; rfl
    exact W.zret (v := (1 : Int32)) hx hb hr rfl (fun t ht hW => ⟨congrArg (fun z_ => Outcome.returned (some (Value.int z_))) e_ret, ht⟩) (fun q h => by cases h) dX6_isFull_17

set_option maxHeartbeats 4000000 in
set_option maxRecDepth 100000 in
theorem c_X6_row (l : Launch) (D : va_G) (h0 : Nat) (fs : List Value) (h2 : Nat) (cI : ClassId) (o : Nat) (r : Nat → Nat) (i : Nat) (f0 : fs[0]? = some (.ref h2)) (f2 : fs[2]? = some (.int (nI o))) (ho : o ≤ 20) (hi : i < o) : Met l yX6_row wsX6_row ({ frames := 0, cells := 0, slots := 0, locals := 0 }) (va_Pc [.ref h0, .int (nI i)] (fun U => va_P D vwCl [(h0, .inr (5, fs)), (h2, .inl (cI, 20, .inl (fun i_ => nI (r i_))))] U.heap ∧ va_K D vwCl [(cI, .int)] U)) (QcRead (nI (r i))) 0 0 (fun _ => False) := by
  refine Met.ofW (cc := cX6_row) (maxL := 2) (ret := (some .int)) (by decide) rfl ?_
  intro p e s m args below meth c s₁ B hml hv
  obtain ⟨rfl, hP, hK⟩ := hv
  have hx := B.exec
  have hb := B.bytes
  have hr := B.returns
  have hts := atoms_spec (ws := wsX6_row) B.pre
  have hown : s.vm.findClass RX6 = some m.cls := findClass_of_methodNamed B.named
  have hlocks := B.notSynchronized
  have hl := lv_entry ([.ref h0, .int (nI i)]) (n := 2) (Nat.le_of_ble_eq_true rfl)
  rw [lg_entry_eq]
  generalize (lg_sl ([.ref h0, .int (nI i)]) ++ List.replicate (2 - (lg_sl ([.ref h0, .int (nI i)])).length) Slot.unset).toArray = ls at hl ⊢
  have hl : lv_has ls 2 [(0, .ref h0), (1, .int (nI i))] := hl
  refine lv_iload_n hx hb dX6_row_0 rfl (lv_at hl 1 rfl) ?_
  refine lv_if_lt (tgt := 21) hx hb dX6_row_1 (by decide) (fun c_1 => ?_) (fun c_1 => ?_)
  · have c_1 : i < 0 := (nI_ltI (a := i) (b := 0) (by omega) (by omega)).mp c_1
    exact absurd c_1 (by omega)
  · have c_1 : 0 ≤ i := Nat.le_of_not_lt (fun h_ => c_1 ((nI_ltI (a := i) (b := 0) (by omega) (by omega)).mpr h_))
    refine lv_iload_n hx hb dX6_row_4 rfl (lv_at hl 1 rfl) ?_
    refine lv_aload_n hx hb dX6_row_5 rfl (lv_at hl 0 rfl) ?_
    refine va_get (D := D) (ci := 5) (v := .int (nI o)) (C := RX6) (T := TX6) (N := 3) hx hb hts (by decide +kernel) hown hK hP 0 rfl rfl 2 (by decide) (hts (.fieldLink RX6 19 "ConceptTable$Table" "size" "I") (by decide +kernel)) (fun _ h9 => h9) f2 dX6_row_6 ?_
    refine lv_icmp_ge (tgt := 21) hx hb dX6_row_9 (by decide) (fun c_9 => ?_) (fun c_9 => ?_)
    · have c_9 : o ≤ i := (nI_leI (a := o) (b := i) (by omega) (by omega)).mp c_9
      exact absurd c_9 (by omega)
    · have c_9 : i < o := Nat.lt_of_not_le (fun h_ => c_9 ((nI_leI (a := o) (b := i) (by omega) (by omega)).mpr h_))
      refine lv_aload_n hx hb dX6_row_12 rfl (lv_at hl 0 rfl) ?_
      refine va_get (D := D) (ci := 5) (v := .ref h2) (C := RX6) (T := TX6) (N := 3) hx hb hts (by decide +kernel) hown hK hP 0 rfl rfl 0 (by decide) (hts (.fieldLink RX6 9 "ConceptTable$Table" "rows" "[I") (by decide +kernel)) (fun _ h9 => h9) f0 dX6_row_13 ?_
      refine lv_iload_n hx hb dX6_row_16 rfl (lv_at hl 1 rfl) ?_
      refine va_iald hx hb hK hP 1 0 rfl rfl (vp_in_nI (by omega) (by omega)) dX6_row_17 ?_
      refine lv_re (y := (nI (r i))) (by rw [nI_clamp (by omega)]) ?_
      refine lv_goto (tgt := 22) hx hb dX6_row_18 (by decide) ?_
      have e_ret : (nI (r i)) = (nI (r i)) := by rfl
      exact W.iret (v := (nI (r i))) hx hb hr (fun t ht hW => ⟨congrArg (fun z_ => Outcome.returned (some (Value.int z_))) e_ret, ht⟩) (fun q h => by cases h) dX6_row_22

set_option maxHeartbeats 4000000 in
set_option maxRecDepth 100000 in
theorem c_X6_allAttributes (l : Launch) (D : va_G) (h0 : Nat) (fs : List Value) (n : Nat) (f1 : fs[1]? = some (.int (nI n))) (hn : n ≤ 12) : Met l yX6_allAttributes wsX6_allAttributes ({ frames := 1, cells := 0, slots := 0, locals := 20 }) (va_Pc [.ref h0] (fun U => va_P D vwCl [(h0, .inr (5, fs))] U.heap ∧ va_K D vwCl [] U)) (QcRead (nI (2 ^ n - 1))) 0 0 (fun _ => False) := by
  refine Met.ofW (cc := cX6_allAttributes) (maxL := 1) (ret := (some .int)) (by decide) rfl ?_
  intro p e s m args below meth c s₁ B hml hv
  obtain ⟨rfl, hP, hK⟩ := hv
  have hx := B.exec
  have hb := B.bytes
  have hr := B.returns
  have hts := atoms_spec (ws := wsX6_allAttributes) B.pre
  have hown : s.vm.findClass RX6 = some m.cls := findClass_of_methodNamed B.named
  have hlocks := B.notSynchronized
  have hl := lv_entry ([.ref h0]) (n := 1) (Nat.le_of_ble_eq_true rfl)
  rw [lg_entry_eq]
  generalize (lg_sl ([.ref h0]) ++ List.replicate (1 - (lg_sl ([.ref h0])).length) Slot.unset).toArray = ls at hl ⊢
  have hl : lv_has ls 1 [(0, .ref h0)] := hl
  refine lv_aload_n hx hb dX6_allAttributes_0 rfl (lv_at hl 0 rfl) ?_
  refine va_get (D := D) (ci := 5) (v := .int (nI n)) (C := RX6) (T := TX6) (N := 3) hx hb hts (by decide +kernel) hown hK hP 0 rfl rfl 1 (by decide) (hts (.fieldLink RX6 15 "ConceptTable$Table" "attributes" "I") (by decide +kernel)) (fun _ h9 => h9) f1 dX6_allAttributes_1 ?_
  refine rd_S (As := [.int (nI n)]) (rest := []) ⟨hx, hb, hml, hown, hts⟩ (c_X5_allOf l D n (by omega)) (va_cwS 1 hts gX6_allAttributes_X5_allOf rfl rfl rfl (by decide +kernel) ⟨Nat.le_of_ble_eq_true rfl, Nat.le_of_ble_eq_true rfl⟩) (hP.sub (ws' := []) [] rfl) (hK.sub (tys' := []) [] rfl) rfl rfl hl.1 rfl (lv_room (Nat.le_of_ble_eq_true rfl)) dX6_allAttributes_4 ⟨Nat.le_of_ble_eq_true rfl, Nat.le_of_ble_eq_true rfl⟩ ?_
  have e_ret : (nI (2 ^ n - 1)) = (nI (2 ^ n - 1)) := by rfl
  exact W.iret (v := (nI (2 ^ n - 1))) hx hb hr (fun t ht hW => ⟨congrArg (fun z_ => Outcome.returned (some (Value.int z_))) e_ret, ht⟩) (fun q h => by cases h) dX6_allAttributes_7

set_option maxHeartbeats 4000000 in
set_option maxRecDepth 100000 in
theorem c_X6_isAttribute (l : Launch) (D : va_G) (h0 : Nat) (fs : List Value) (n : Nat) (x : Int32) (f1 : fs[1]? = some (.int (nI n))) : Met l yX6_isAttribute wsX6_isAttribute ({ frames := 0, cells := 0, slots := 0, locals := 0 }) (va_Pc [.ref h0, .int x] (fun U => va_P D vwCl [(h0, .inr (5, fs))] U.heap ∧ va_K D vwCl [] U)) (QcRead (b2 (decide (¬ x < 0) && decide (¬ nI n ≤ x)))) 0 0 (fun _ => False) := by
  refine Met.ofW (cc := cX6_isAttribute) (maxL := 2) (ret := (some .boolean)) (by decide) rfl ?_
  intro p e s m args below meth c s₁ B hml hv
  obtain ⟨rfl, hP, hK⟩ := hv
  have hx := B.exec
  have hb := B.bytes
  have hr := B.returns
  have hts := atoms_spec (ws := wsX6_isAttribute) B.pre
  have hown : s.vm.findClass RX6 = some m.cls := findClass_of_methodNamed B.named
  have hlocks := B.notSynchronized
  have hl := lv_entry ([.ref h0, .int x]) (n := 2) (Nat.le_of_ble_eq_true rfl)
  rw [lg_entry_eq]
  generalize (lg_sl ([.ref h0, .int x]) ++ List.replicate (2 - (lg_sl ([.ref h0, .int x])).length) Slot.unset).toArray = ls at hl ⊢
  have hl : lv_has ls 2 [(0, .ref h0), (1, .int x)] := hl
  refine lv_iload_n hx hb dX6_isAttribute_0 rfl (lv_at hl 1 rfl) ?_
  refine lv_if_lt (tgt := 16) hx hb dX6_isAttribute_1 (by decide) (fun c_1 => ?_) (fun c_1 => ?_)
  · refine lv_iconst (v := 0) hx hb dX6_isAttribute_16 (by decide) ?_
    have e_ret : (0 : Int32) = (b2 (decide (¬ x < 0) && decide (¬ nI n ≤ x))) := by rw [decide_eq_false (fun z => z c_1)]; rfl
    exact W.zret (v := (0 : Int32)) hx hb hr rfl (fun t ht hW => ⟨congrArg (fun z_ => Outcome.returned (some (Value.int z_))) e_ret, ht⟩) (fun q h => by cases h) dX6_isAttribute_17
  · refine lv_iload_n hx hb dX6_isAttribute_4 rfl (lv_at hl 1 rfl) ?_
    refine lv_aload_n hx hb dX6_isAttribute_5 rfl (lv_at hl 0 rfl) ?_
    refine va_get (D := D) (ci := 5) (v := .int (nI n)) (C := RX6) (T := TX6) (N := 3) hx hb hts (by decide +kernel) hown hK hP 0 rfl rfl 1 (by decide) (hts (.fieldLink RX6 15 "ConceptTable$Table" "attributes" "I") (by decide +kernel)) (fun _ h9 => h9) f1 dX6_isAttribute_6 ?_
    refine lv_icmp_ge (tgt := 16) hx hb dX6_isAttribute_9 (by decide) (fun c_9 => ?_) (fun c_9 => ?_)
    · refine lv_iconst (v := 0) hx hb dX6_isAttribute_16 (by decide) ?_
      have e_ret : (0 : Int32) = (b2 (decide (¬ x < 0) && decide (¬ nI n ≤ x))) := by rw [decide_eq_true c_1, decide_eq_false (fun z => z c_9)]; rfl
      exact W.zret (v := (0 : Int32)) hx hb hr rfl (fun t ht hW => ⟨congrArg (fun z_ => Outcome.returned (some (Value.int z_))) e_ret, ht⟩) (fun q h => by cases h) dX6_isAttribute_17
    · refine lv_iconst (v := 1) hx hb dX6_isAttribute_12 (by decide) ?_
      refine lv_goto (tgt := 17) hx hb dX6_isAttribute_13 (by decide) ?_
      have e_ret : (1 : Int32) = (b2 (decide (¬ x < 0) && decide (¬ nI n ≤ x))) := by rw [decide_eq_true c_1, decide_eq_true c_9]; rfl
      exact W.zret (v := (1 : Int32)) hx hb hr rfl (fun t ht hW => ⟨congrArg (fun z_ => Outcome.returned (some (Value.int z_))) e_ret, ht⟩) (fun q h => by cases h) dX6_isAttribute_17

set_option maxHeartbeats 4000000 in
set_option maxRecDepth 100000 in
theorem c_X6_isObject (l : Launch) (D : va_G) (h0 : Nat) (fs : List Value) (o : Nat) (x : Int32) (f2 : fs[2]? = some (.int (nI o))) : Met l yX6_isObject wsX6_isObject ({ frames := 0, cells := 0, slots := 0, locals := 0 }) (va_Pc [.ref h0, .int x] (fun U => va_P D vwCl [(h0, .inr (5, fs))] U.heap ∧ va_K D vwCl [] U)) (QcRead (b2 (decide (¬ x < 0) && decide (¬ nI o ≤ x)))) 0 0 (fun _ => False) := by
  refine Met.ofW (cc := cX6_isObject) (maxL := 2) (ret := (some .boolean)) (by decide) rfl ?_
  intro p e s m args below meth c s₁ B hml hv
  obtain ⟨rfl, hP, hK⟩ := hv
  have hx := B.exec
  have hb := B.bytes
  have hr := B.returns
  have hts := atoms_spec (ws := wsX6_isObject) B.pre
  have hown : s.vm.findClass RX6 = some m.cls := findClass_of_methodNamed B.named
  have hlocks := B.notSynchronized
  have hl := lv_entry ([.ref h0, .int x]) (n := 2) (Nat.le_of_ble_eq_true rfl)
  rw [lg_entry_eq]
  generalize (lg_sl ([.ref h0, .int x]) ++ List.replicate (2 - (lg_sl ([.ref h0, .int x])).length) Slot.unset).toArray = ls at hl ⊢
  have hl : lv_has ls 2 [(0, .ref h0), (1, .int x)] := hl
  refine lv_iload_n hx hb dX6_isObject_0 rfl (lv_at hl 1 rfl) ?_
  refine lv_if_lt (tgt := 16) hx hb dX6_isObject_1 (by decide) (fun c_1 => ?_) (fun c_1 => ?_)
  · refine lv_iconst (v := 0) hx hb dX6_isObject_16 (by decide) ?_
    have e_ret : (0 : Int32) = (b2 (decide (¬ x < 0) && decide (¬ nI o ≤ x))) := by rw [decide_eq_false (fun z => z c_1)]; rfl
    exact W.zret (v := (0 : Int32)) hx hb hr rfl (fun t ht hW => ⟨congrArg (fun z_ => Outcome.returned (some (Value.int z_))) e_ret, ht⟩) (fun q h => by cases h) dX6_isObject_17
  · refine lv_iload_n hx hb dX6_isObject_4 rfl (lv_at hl 1 rfl) ?_
    refine lv_aload_n hx hb dX6_isObject_5 rfl (lv_at hl 0 rfl) ?_
    refine va_get (D := D) (ci := 5) (v := .int (nI o)) (C := RX6) (T := TX6) (N := 3) hx hb hts (by decide +kernel) hown hK hP 0 rfl rfl 2 (by decide) (hts (.fieldLink RX6 19 "ConceptTable$Table" "size" "I") (by decide +kernel)) (fun _ h9 => h9) f2 dX6_isObject_6 ?_
    refine lv_icmp_ge (tgt := 16) hx hb dX6_isObject_9 (by decide) (fun c_9 => ?_) (fun c_9 => ?_)
    · refine lv_iconst (v := 0) hx hb dX6_isObject_16 (by decide) ?_
      have e_ret : (0 : Int32) = (b2 (decide (¬ x < 0) && decide (¬ nI o ≤ x))) := by rw [decide_eq_true c_1, decide_eq_false (fun z => z c_9)]; rfl
      exact W.zret (v := (0 : Int32)) hx hb hr rfl (fun t ht hW => ⟨congrArg (fun z_ => Outcome.returned (some (Value.int z_))) e_ret, ht⟩) (fun q h => by cases h) dX6_isObject_17
    · refine lv_iconst (v := 1) hx hb dX6_isObject_12 (by decide) ?_
      refine lv_goto (tgt := 17) hx hb dX6_isObject_13 (by decide) ?_
      have e_ret : (1 : Int32) = (b2 (decide (¬ x < 0) && decide (¬ nI o ≤ x))) := by rw [decide_eq_true c_1, decide_eq_true c_9]; rfl
      exact W.zret (v := (1 : Int32)) hx hb hr rfl (fun t ht hW => ⟨congrArg (fun z_ => Outcome.returned (some (Value.int z_))) e_ret, ht⟩) (fun q h => by cases h) dX6_isObject_17

set_option maxHeartbeats 4000000 in
set_option maxRecDepth 100000 in
theorem c_X6_isAttributeSet (l : Launch) (D : va_G) (h0 : Nat) (fs : List Value) (n : Nat) (x : Int32) (f1 : fs[1]? = some (.int (nI n))) (hn : n ≤ 12) : Met l yX6_isAttributeSet wsX6_isAttributeSet ({ frames := 2, cells := 0, slots := 0, locals := 40 }) (va_Pc [.ref h0, .int x] (fun U => va_P D vwCl [(h0, .inr (5, fs))] U.heap ∧ va_K D vwCl [] U)) (QcRead (b2 (sb x (nI (2 ^ n - 1))))) 0 0 (fun _ => False) := by
  refine Met.ofW (cc := cX6_isAttributeSet) (maxL := 2) (ret := (some .boolean)) (by decide) rfl ?_
  intro p e s m args below meth c s₁ B hml hv
  obtain ⟨rfl, hP, hK⟩ := hv
  have hx := B.exec
  have hb := B.bytes
  have hr := B.returns
  have hts := atoms_spec (ws := wsX6_isAttributeSet) B.pre
  have hown : s.vm.findClass RX6 = some m.cls := findClass_of_methodNamed B.named
  have hlocks := B.notSynchronized
  have hl := lv_entry ([.ref h0, .int x]) (n := 2) (Nat.le_of_ble_eq_true rfl)
  rw [lg_entry_eq]
  generalize (lg_sl ([.ref h0, .int x]) ++ List.replicate (2 - (lg_sl ([.ref h0, .int x])).length) Slot.unset).toArray = ls at hl ⊢
  have hl : lv_has ls 2 [(0, .ref h0), (1, .int x)] := hl
  refine lv_aload_n hx hb dX6_isAttributeSet_0 rfl (lv_at hl 0 rfl) ?_
  refine rd_V (As := []) (rest := []) ⟨hx, hb, hml, hown, hts⟩ (c_X6_allAttributes l D h0 fs n f1 (by assumption)) (cwV 0 hts gX6_isAttributeSet_X6_allAttributes rfl rfl rfl (by decide +kernel) ⟨Nat.le_of_ble_eq_true rfl, Nat.le_of_ble_eq_true rfl⟩) (hP.sub (ws' := [(h0, .inr (5, fs))]) [0] rfl) (hK.sub (tys' := []) [] rfl) (va_recv hK hP (ci := 5) (q0 := 0) rfl rfl) rfl rfl hl.1 rfl (lv_room (Nat.le_of_ble_eq_true rfl)) dX6_isAttributeSet_1 ⟨Nat.le_of_ble_eq_true rfl, Nat.le_of_ble_eq_true rfl⟩ ?_
  refine lv_iload_n hx hb dX6_isAttributeSet_4 rfl (lv_at hl 1 rfl) ?_
  refine rd_S (As := [.int (nI (2 ^ n - 1)), .int x]) (rest := []) ⟨hx, hb, hml, hown, hts⟩ (c_X5_hasAll l D (nI (2 ^ n - 1)) x ) (va_cwS 2 hts gX6_isAttributeSet_X5_hasAll rfl rfl rfl (by decide +kernel) ⟨Nat.le_of_ble_eq_true rfl, Nat.le_of_ble_eq_true rfl⟩) (hP.sub (ws' := []) [] rfl) (hK.sub (tys' := []) [] rfl) rfl rfl hl.1 rfl (lv_room (Nat.le_of_ble_eq_true rfl)) dX6_isAttributeSet_5 ⟨Nat.le_of_ble_eq_true rfl, Nat.le_of_ble_eq_true rfl⟩ ?_
  have e_ret : (b2 (sb x (nI (2 ^ n - 1)))) = (b2 (sb x (nI (2 ^ n - 1)))) := by rfl
  exact W.zret (v := (b2 (sb x (nI (2 ^ n - 1))))) hx hb hr (nb_b2 _) (fun t ht hW => ⟨congrArg (fun z_ => Outcome.returned (some (Value.int z_))) e_ret, ht⟩) (fun q h => by cases h) dX6_isAttributeSet_8

set_option maxHeartbeats 4000000 in
set_option maxRecDepth 100000 in
theorem c_X6_isObjectSet (l : Launch) (D : va_G) (h0 : Nat) (fs : List Value) (o : Nat) (x : Int32) (f2 : fs[2]? = some (.int (nI o))) (ho : o ≤ 20) : Met l yX6_isObjectSet wsX6_isObjectSet ({ frames := 1, cells := 0, slots := 0, locals := 21 }) (va_Pc [.ref h0, .int x] (fun U => va_P D vwCl [(h0, .inr (5, fs))] U.heap ∧ va_K D vwCl [] U)) (QcRead (b2 (sb x (nI (2 ^ o - 1))))) 0 0 (fun _ => False) := by
  refine Met.ofW (cc := cX6_isObjectSet) (maxL := 2) (ret := (some .boolean)) (by decide) rfl ?_
  intro p e s m args below meth c s₁ B hml hv
  obtain ⟨rfl, hP, hK⟩ := hv
  have hx := B.exec
  have hb := B.bytes
  have hr := B.returns
  have hts := atoms_spec (ws := wsX6_isObjectSet) B.pre
  have hown : s.vm.findClass RX6 = some m.cls := findClass_of_methodNamed B.named
  have hlocks := B.notSynchronized
  have hl := lv_entry ([.ref h0, .int x]) (n := 2) (Nat.le_of_ble_eq_true rfl)
  rw [lg_entry_eq]
  generalize (lg_sl ([.ref h0, .int x]) ++ List.replicate (2 - (lg_sl ([.ref h0, .int x])).length) Slot.unset).toArray = ls at hl ⊢
  have hl : lv_has ls 2 [(0, .ref h0), (1, .int x)] := hl
  refine lv_aload_n hx hb dX6_isObjectSet_0 rfl (lv_at hl 0 rfl) ?_
  refine va_get (D := D) (ci := 5) (v := .int (nI o)) (C := RX6) (T := TX6) (N := 3) hx hb hts (by decide +kernel) hown hK hP 0 rfl rfl 2 (by decide) (hts (.fieldLink RX6 19 "ConceptTable$Table" "size" "I") (by decide +kernel)) (fun _ h9 => h9) f2 dX6_isObjectSet_1 ?_
  refine rd_S (As := [.int (nI o)]) (rest := []) ⟨hx, hb, hml, hown, hts⟩ (c_X5_allOf l D o (by assumption)) (va_cwS 1 hts gX6_isObjectSet_X5_allOf rfl rfl rfl (by decide +kernel) ⟨Nat.le_of_ble_eq_true rfl, Nat.le_of_ble_eq_true rfl⟩) (hP.sub (ws' := []) [] rfl) (hK.sub (tys' := []) [] rfl) rfl rfl hl.1 rfl (lv_room (Nat.le_of_ble_eq_true rfl)) dX6_isObjectSet_4 ⟨Nat.le_of_ble_eq_true rfl, Nat.le_of_ble_eq_true rfl⟩ ?_
  refine lv_iload_n hx hb dX6_isObjectSet_7 rfl (lv_at hl 1 rfl) ?_
  refine rd_S (As := [.int (nI (2 ^ o - 1)), .int x]) (rest := []) ⟨hx, hb, hml, hown, hts⟩ (c_X5_hasAll l D (nI (2 ^ o - 1)) x ) (va_cwS 2 hts gX6_isObjectSet_X5_hasAll rfl rfl rfl (by decide +kernel) ⟨Nat.le_of_ble_eq_true rfl, Nat.le_of_ble_eq_true rfl⟩) (hP.sub (ws' := []) [] rfl) (hK.sub (tys' := []) [] rfl) rfl rfl hl.1 rfl (lv_room (Nat.le_of_ble_eq_true rfl)) dX6_isObjectSet_8 ⟨Nat.le_of_ble_eq_true rfl, Nat.le_of_ble_eq_true rfl⟩ ?_
  have e_ret : (b2 (sb x (nI (2 ^ o - 1)))) = (b2 (sb x (nI (2 ^ o - 1)))) := by rfl
  exact W.zret (v := (b2 (sb x (nI (2 ^ o - 1))))) hx hb hr (nb_b2 _) (fun t ht hW => ⟨congrArg (fun z_ => Outcome.returned (some (Value.int z_))) e_ret, ht⟩) (fun q h => by cases h) dX6_isObjectSet_11

set_option maxHeartbeats 4000000 in
set_option maxRecDepth 100000 in
theorem c_X6_commonOf (l : Launch) (D : va_G) (h0 : Nat) (fs : List Value) (h2 : Nat) (cI : ClassId) (n : Nat) (o : Nat) (r : Nat → Nat) (q : Nat) (f0 : fs[0]? = some (.ref h2)) (f1 : fs[1]? = some (.int (nI n))) (f2 : fs[2]? = some (.int (nI o))) (hn : n ≤ 12) (ho : o ≤ 20) (hq : q < 2 ^ 31) : Met l yX6_commonOf wsX6_commonOf ({ frames := 2, cells := 0, slots := 0, locals := 40 }) (va_Pc [.ref h0, .int (nI q)] (fun U => va_P D vwCl [(h0, .inr (5, fs)), (h2, .inl (cI, 20, .inl (fun i_ => nI (r i_))))] U.heap ∧ va_K D vwCl [(cI, .int)] U)) (QcRead (nI (com r n q o))) 0 0 (fun _ => False) := by
  refine Met.ofW (cc := cX6_commonOf) (maxL := 4) (ret := (some .int)) (by decide) rfl ?_
  intro p e s m args below meth c s₁ B hml hv
  obtain ⟨rfl, hP, hK⟩ := hv
  have hx := B.exec
  have hb := B.bytes
  have hr := B.returns
  have hts := atoms_spec (ws := wsX6_commonOf) B.pre
  have hown : s.vm.findClass RX6 = some m.cls := findClass_of_methodNamed B.named
  have hlocks := B.notSynchronized
  have hl := lv_entry ([.ref h0, .int (nI q)]) (n := 4) (Nat.le_of_ble_eq_true rfl)
  rw [lg_entry_eq]
  generalize (lg_sl ([.ref h0, .int (nI q)]) ++ List.replicate (4 - (lg_sl ([.ref h0, .int (nI q)])).length) Slot.unset).toArray = ls at hl ⊢
  have hl : lv_has ls 4 [(0, .ref h0), (1, .int (nI q))] := hl
  refine lv_aload_n hx hb dX6_commonOf_0 rfl (lv_at hl 0 rfl) ?_
  refine rd_V (As := []) (rest := []) ⟨hx, hb, hml, hown, hts⟩ (c_X6_allAttributes l D h0 fs n f1 (by assumption)) (cwV 0 hts gX6_commonOf_X6_allAttributes rfl rfl rfl (by decide +kernel) ⟨Nat.le_of_ble_eq_true rfl, Nat.le_of_ble_eq_true rfl⟩) (hP.sub (ws' := [(h0, .inr (5, fs))]) [0] rfl) (hK.sub (tys' := []) [] rfl) (va_recv hK hP (ci := 5) (q0 := 0) rfl rfl) rfl rfl hl.1 rfl (lv_room (Nat.le_of_ble_eq_true rfl)) dX6_commonOf_1 ⟨Nat.le_of_ble_eq_true rfl, Nat.le_of_ble_eq_true rfl⟩ ?_
  refine lv_istore_n (lv' := [(2, .int (nI (2 ^ n - 1))), (0, .ref h0), (1, .int (nI q))]) hx hb dX6_commonOf_4 rfl hl (by decide) rfl (fun ls hl => ?_)
  refine lv_iconst (v := 0) hx hb dX6_commonOf_5 (by decide) ?_
  refine lv_istore_n (lv' := [(3, .int (0 : Int32)), (2, .int (nI (2 ^ n - 1))), (0, .ref h0), (1, .int (nI q))]) hx hb dX6_commonOf_6 rfl hl (by decide) rfl (fun ls hl => ?_)
  have lp_7 : ∀ (n_ : Nat) (k : Nat), o - k < n_ → (k ≤ o) → ∀ (x3 : Int32), x3 = nI k → ∀ (x2 : Int32), x2 = nI (com r n q k) → ∀ (ls : Array Slot), lv_has ls 4 [(3, .int x3), (2, .int x2), (0, .ref h0), (1, .int (nI q))] → W p l e (headSpec wsX6_commonOf ({ frames := 2, cells := 0, slots := 0, locals := 40 })).room s m ([.ref h0, .int (nI q)] : List Value).toArray below meth c s.heap [] 0 0 (MQ below (QcRead (nI (com r n q o))) ([.ref h0, .int (nI q)] : List Value).toArray s 0 0 (fun _ => False)) (F0 m 7 ls []) := by
    intro n_
    induction n_ with
    | zero => intro k h0_; exact absurd h0_ (Nat.not_lt_zero _)
    | succ n_ ih_7 =>
      intro k hm_7 hk x3 e_x3 x2 e_x2 ls hl
      subst e_x3
      subst e_x2
      refine lv_iload_n hx hb dX6_commonOf_7 rfl (lv_at hl 0 rfl) ?_
      refine lv_aload_n hx hb dX6_commonOf_8 rfl (lv_at hl 2 rfl) ?_
      refine va_get (D := D) (ci := 5) (v := .int (nI o)) (C := RX6) (T := TX6) (N := 3) hx hb hts (by decide +kernel) hown hK hP 0 rfl rfl 2 (by decide) (hts (.fieldLink RX6 19 "ConceptTable$Table" "size" "I") (by decide +kernel)) (fun _ h9 => h9) f2 dX6_commonOf_9 ?_
      refine lv_icmp_ge (tgt := 38) hx hb dX6_commonOf_12 (by decide) (fun c_12 => ?_) (fun c_12 => ?_)
      · have c_12 : o ≤ k := (nI_leI (a := o) (b := k) (by omega) (by omega)).mp c_12
        refine lv_iload_n hx hb dX6_commonOf_38 rfl (lv_at hl 1 rfl) ?_
        have e_ret : (nI (com r n q k)) = (nI (com r n q o)) := by rw [show k = o by omega]
        exact W.iret (v := (nI (com r n q k))) hx hb hr (fun t ht hW => ⟨congrArg (fun z_ => Outcome.returned (some (Value.int z_))) e_ret, ht⟩) (fun q h => by cases h) dX6_commonOf_39
      · have c_12 : k < o := Nat.lt_of_not_le (fun h_ => c_12 ((nI_leI (a := o) (b := k) (by omega) (by omega)).mpr h_))
        refine lv_iload_n hx hb dX6_commonOf_15 rfl (lv_at hl 3 rfl) ?_
        refine lv_iconst (v := 1) hx hb dX6_commonOf_16 (by decide) ?_
        refine lv_iload_n hx hb dX6_commonOf_17 rfl (lv_at hl 0 rfl) ?_
        refine lv_ishl hx hb dX6_commonOf_18 ?_
        refine lv_re (y := (nI (2 ^ k))) (nx_sh1 (k := k) (by omega)) ?_
        refine lv_iand hx hb dX6_commonOf_19 ?_
        refine lv_re (y := (nI (q &&& (2 ^ k)))) (nx_and q (2 ^ k)) ?_
        refine lv_if_eq (tgt := 32) hx hb dX6_commonOf_20 (by decide) (fun c_20 => ?_) (fun c_20 => ?_)
        · have c_20 : (q &&& (2 ^ k)) = 0 := (nI_eq (a := (q &&& (2 ^ k))) (b := 0) (Nat.lt_of_le_of_lt Nat.and_le_left hq) (by decide)).mp c_20
          refine lv_iinc (v := (nI (k + 1))) (lv' := [(3, .int (nI (k + 1))), (2, .int (nI (com r n q k))), (0, .ref h0), (1, .int (nI q))]) hx hb dX6_commonOf_32 hl (k := 0) rfl (nI_add _ 1) (by decide) rfl (fun ls hl => ?_)
          refine lv_goto (tgt := 7) hx hb dX6_commonOf_35 (by decide) ?_
          exact ih_7 (k + 1) (by omega) (by omega) _ rfl _ (by rw [com, if_neg (by rw [and_pow.mp c_20]; decide)]) _ (lv_sub hl [0, 1, 2, 3] rfl)
        · have c_20 : ¬ (q &&& (2 ^ k)) = 0 := fun h_ => c_20 ((nI_eq (a := (q &&& (2 ^ k))) (b := 0) (Nat.lt_of_le_of_lt Nat.and_le_left hq) (by decide)).mpr h_)
          refine lv_iload_n hx hb dX6_commonOf_23 rfl (lv_at hl 1 rfl) ?_
          refine lv_aload_n hx hb dX6_commonOf_24 rfl (lv_at hl 2 rfl) ?_
          refine va_get (D := D) (ci := 5) (v := .ref h2) (C := RX6) (T := TX6) (N := 3) hx hb hts (by decide +kernel) hown hK hP 0 rfl rfl 0 (by decide) (hts (.fieldLink RX6 9 "ConceptTable$Table" "rows" "[I") (by decide +kernel)) (fun _ h9 => h9) f0 dX6_commonOf_25 ?_
          refine lv_iload_n hx hb dX6_commonOf_28 rfl (lv_at hl 0 rfl) ?_
          refine va_iald hx hb hK hP 1 0 rfl rfl (vp_in_nI (by omega) (by omega)) dX6_commonOf_29 ?_
          refine lv_re (y := (nI (r k))) (by rw [nI_clamp (by omega)]) ?_
          refine lv_iand hx hb dX6_commonOf_30 ?_
          refine lv_re (y := (nI ((com r n q k) &&& (r k)))) (nx_and (com r n q k) (r k)) ?_
          refine lv_istore_n (lv' := [(2, .int (nI ((com r n q k) &&& (r k)))), (3, .int (nI k)), (0, .ref h0), (1, .int (nI q))]) hx hb dX6_commonOf_31 rfl hl (by decide) rfl (fun ls hl => ?_)
          refine lv_iinc (v := (nI (k + 1))) (lv' := [(3, .int (nI (k + 1))), (2, .int (nI ((com r n q k) &&& (r k)))), (0, .ref h0), (1, .int (nI q))]) hx hb dX6_commonOf_32 hl (k := 1) rfl (nI_add _ 1) (by decide) rfl (fun ls hl => ?_)
          refine lv_goto (tgt := 7) hx hb dX6_commonOf_35 (by decide) ?_
          exact ih_7 (k + 1) (by omega) (by omega) _ rfl _ (by rw [com, if_pos (and_pow_t c_20)]) _ (lv_sub hl [0, 1, 2, 3] rfl)
  exact lp_7 _ 0 (Nat.lt_succ_self _) (Nat.zero_le _) _ rfl _ rfl _ (lv_sub hl [0, 1, 2, 3] rfl)

set_option maxHeartbeats 4000000 in
set_option maxRecDepth 100000 in
theorem c_X6_extentOf (l : Launch) (D : va_G) (h0 : Nat) (fs : List Value) (h2 : Nat) (cI : ClassId) (o : Nat) (r : Nat → Nat) (q : Nat) (f0 : fs[0]? = some (.ref h2)) (f2 : fs[2]? = some (.int (nI o))) (ho : o ≤ 20) (hq : q < 2 ^ 31) : Met l yX6_extentOf wsX6_extentOf ({ frames := 1, cells := 0, slots := 0, locals := 21 }) (va_Pc [.ref h0, .int (nI q)] (fun U => va_P D vwCl [(h0, .inr (5, fs)), (h2, .inl (cI, 20, .inl (fun i_ => nI (r i_))))] U.heap ∧ va_K D vwCl [(cI, .int)] U)) (QcRead (nI (ext r q o))) 0 0 (fun _ => False) := by
  refine Met.ofW (cc := cX6_extentOf) (maxL := 4) (ret := (some .int)) (by decide) rfl ?_
  intro p e s m args below meth c s₁ B hml hv
  obtain ⟨rfl, hP, hK⟩ := hv
  have hx := B.exec
  have hb := B.bytes
  have hr := B.returns
  have hts := atoms_spec (ws := wsX6_extentOf) B.pre
  have hown : s.vm.findClass RX6 = some m.cls := findClass_of_methodNamed B.named
  have hlocks := B.notSynchronized
  have hl := lv_entry ([.ref h0, .int (nI q)]) (n := 4) (Nat.le_of_ble_eq_true rfl)
  rw [lg_entry_eq]
  generalize (lg_sl ([.ref h0, .int (nI q)]) ++ List.replicate (4 - (lg_sl ([.ref h0, .int (nI q)])).length) Slot.unset).toArray = ls at hl ⊢
  have hl : lv_has ls 4 [(0, .ref h0), (1, .int (nI q))] := hl
  refine lv_iconst (v := 0) hx hb dX6_extentOf_0 (by decide) ?_
  refine lv_istore_n (lv' := [(2, .int (0 : Int32)), (0, .ref h0), (1, .int (nI q))]) hx hb dX6_extentOf_1 rfl hl (by decide) rfl (fun ls hl => ?_)
  refine lv_iconst (v := 0) hx hb dX6_extentOf_2 (by decide) ?_
  refine lv_istore_n (lv' := [(3, .int (0 : Int32)), (2, .int (0 : Int32)), (0, .ref h0), (1, .int (nI q))]) hx hb dX6_extentOf_3 rfl hl (by decide) rfl (fun ls hl => ?_)
  have lp_4 : ∀ (n_ : Nat) (k : Nat), o - k < n_ → (k ≤ o) → ∀ (x3 : Int32), x3 = nI k → ∀ (x2 : Int32), x2 = nI (ext r q k) → ∀ (ls : Array Slot), lv_has ls 4 [(3, .int x3), (2, .int x2), (0, .ref h0), (1, .int (nI q))] → W p l e (headSpec wsX6_extentOf ({ frames := 1, cells := 0, slots := 0, locals := 21 })).room s m ([.ref h0, .int (nI q)] : List Value).toArray below meth c s.heap [] 0 0 (MQ below (QcRead (nI (ext r q o))) ([.ref h0, .int (nI q)] : List Value).toArray s 0 0 (fun _ => False)) (F0 m 4 ls []) := by
    intro n_
    induction n_ with
    | zero => intro k h0_; exact absurd h0_ (Nat.not_lt_zero _)
    | succ n_ ih_4 =>
      intro k hm_4 hk x3 e_x3 x2 e_x2 ls hl
      subst e_x3
      subst e_x2
      refine lv_iload_n hx hb dX6_extentOf_4 rfl (lv_at hl 0 rfl) ?_
      refine lv_aload_n hx hb dX6_extentOf_5 rfl (lv_at hl 2 rfl) ?_
      refine va_get (D := D) (ci := 5) (v := .int (nI o)) (C := RX6) (T := TX6) (N := 3) hx hb hts (by decide +kernel) hown hK hP 0 rfl rfl 2 (by decide) (hts (.fieldLink RX6 19 "ConceptTable$Table" "size" "I") (by decide +kernel)) (fun _ h9 => h9) f2 dX6_extentOf_6 ?_
      refine lv_icmp_ge (tgt := 37) hx hb dX6_extentOf_9 (by decide) (fun c_9 => ?_) (fun c_9 => ?_)
      · have c_9 : o ≤ k := (nI_leI (a := o) (b := k) (by omega) (by omega)).mp c_9
        refine lv_iload_n hx hb dX6_extentOf_37 rfl (lv_at hl 1 rfl) ?_
        have e_ret : (nI (ext r q k)) = (nI (ext r q o)) := by rw [show k = o by omega]
        exact W.iret (v := (nI (ext r q k))) hx hb hr (fun t ht hW => ⟨congrArg (fun z_ => Outcome.returned (some (Value.int z_))) e_ret, ht⟩) (fun q h => by cases h) dX6_extentOf_38
      · have c_9 : k < o := Nat.lt_of_not_le (fun h_ => c_9 ((nI_leI (a := o) (b := k) (by omega) (by omega)).mpr h_))
        refine lv_aload_n hx hb dX6_extentOf_12 rfl (lv_at hl 2 rfl) ?_
        refine va_get (D := D) (ci := 5) (v := .ref h2) (C := RX6) (T := TX6) (N := 3) hx hb hts (by decide +kernel) hown hK hP 0 rfl rfl 0 (by decide) (hts (.fieldLink RX6 9 "ConceptTable$Table" "rows" "[I") (by decide +kernel)) (fun _ h9 => h9) f0 dX6_extentOf_13 ?_
        refine lv_iload_n hx hb dX6_extentOf_16 rfl (lv_at hl 0 rfl) ?_
        refine va_iald hx hb hK hP 1 0 rfl rfl (vp_in_nI (by omega) (by omega)) dX6_extentOf_17 ?_
        refine lv_re (y := (nI (r k))) (by rw [nI_clamp (by omega)]) ?_
        refine lv_iload_n hx hb dX6_extentOf_18 rfl (lv_at hl 3 rfl) ?_
        refine rd_S (As := [.int (nI (r k)), .int (nI q)]) (rest := []) ⟨hx, hb, hml, hown, hts⟩ (c_X5_hasAll_N l D (r k) q (by assumption)) (va_cwS 2 hts gX6_extentOf_X5_hasAll rfl rfl rfl (by decide +kernel) ⟨Nat.le_of_ble_eq_true rfl, Nat.le_of_ble_eq_true rfl⟩) (hP.sub (ws' := []) [] rfl) (hK.sub (tys' := []) [] rfl) rfl rfl hl.1 rfl (lv_room (Nat.le_of_ble_eq_true rfl)) dX6_extentOf_19 ⟨Nat.le_of_ble_eq_true rfl, Nat.le_of_ble_eq_true rfl⟩ ?_
        refine lv_if_eq (tgt := 31) hx hb dX6_extentOf_22 (by decide) (fun c_22 => ?_) (fun c_22 => ?_)
        · have c_22 := b2_0.mp c_22
          refine lv_iinc (v := (nI (k + 1))) (lv' := [(3, .int (nI (k + 1))), (2, .int (nI (ext r q k))), (0, .ref h0), (1, .int (nI q))]) hx hb dX6_extentOf_31 hl (k := 0) rfl (nI_add _ 1) (by decide) rfl (fun ls hl => ?_)
          refine lv_goto (tgt := 4) hx hb dX6_extentOf_34 (by decide) ?_
          exact ih_4 (k + 1) (by omega) (by omega) _ rfl _ (by rw [ext, if_neg (by rw [c_22]; decide)]) _ (lv_sub hl [0, 1, 2, 3] rfl)
        · have c_22 := b2_n0.mp c_22
          refine lv_iload_n hx hb dX6_extentOf_25 rfl (lv_at hl 1 rfl) ?_
          refine lv_iconst (v := 1) hx hb dX6_extentOf_26 (by decide) ?_
          refine lv_iload_n hx hb dX6_extentOf_27 rfl (lv_at hl 0 rfl) ?_
          refine lv_ishl hx hb dX6_extentOf_28 ?_
          refine lv_re (y := (nI (2 ^ k))) (nx_sh1 (k := k) (by omega)) ?_
          refine lv_ior hx hb dX6_extentOf_29 ?_
          refine lv_re (y := (nI ((ext r q k) ||| (2 ^ k)))) (nx_or (ext r q k) (2 ^ k)) ?_
          refine lv_istore_n (lv' := [(2, .int (nI ((ext r q k) ||| (2 ^ k)))), (3, .int (nI k)), (0, .ref h0), (1, .int (nI q))]) hx hb dX6_extentOf_30 rfl hl (by decide) rfl (fun ls hl => ?_)
          refine lv_iinc (v := (nI (k + 1))) (lv' := [(3, .int (nI (k + 1))), (2, .int (nI ((ext r q k) ||| (2 ^ k)))), (0, .ref h0), (1, .int (nI q))]) hx hb dX6_extentOf_31 hl (k := 1) rfl (nI_add _ 1) (by decide) rfl (fun ls hl => ?_)
          refine lv_goto (tgt := 4) hx hb dX6_extentOf_34 (by decide) ?_
          exact ih_4 (k + 1) (by omega) (by omega) _ rfl _ (by rw [ext, if_pos c_22]) _ (lv_sub hl [0, 1, 2, 3] rfl)
  exact lp_4 _ 0 (Nat.lt_succ_self _) (Nat.zero_le _) _ rfl _ rfl _ (lv_sub hl [0, 1, 2, 3] rfl)

set_option maxHeartbeats 4000000 in
set_option maxRecDepth 100000 in
theorem c_X6_closureOf (l : Launch) (D : va_G) (h0 : Nat) (fs : List Value) (h2 : Nat) (cI : ClassId) (n : Nat) (o : Nat) (r : Nat → Nat) (q : Nat) (f0 : fs[0]? = some (.ref h2)) (f1 : fs[1]? = some (.int (nI n))) (f2 : fs[2]? = some (.int (nI o))) (hn : n ≤ 12) (ho : o ≤ 20) (hq : q < 2 ^ 31) : Met l yX6_closureOf wsX6_closureOf ({ frames := 2, cells := 0, slots := 0, locals := 40 }) (va_Pc [.ref h0, .int (nI q)] (fun U => va_P D vwCl [(h0, .inr (5, fs)), (h2, .inl (cI, 20, .inl (fun i_ => nI (r i_))))] U.heap ∧ va_K D vwCl [(cI, .int)] U)) (QcRead (nI (clo r n o q))) 0 0 (fun _ => False) := by
  refine Met.ofW (cc := cX6_closureOf) (maxL := 4) (ret := (some .int)) (by decide) rfl ?_
  intro p e s m args below meth c s₁ B hml hv
  obtain ⟨rfl, hP, hK⟩ := hv
  have hx := B.exec
  have hb := B.bytes
  have hr := B.returns
  have hts := atoms_spec (ws := wsX6_closureOf) B.pre
  have hown : s.vm.findClass RX6 = some m.cls := findClass_of_methodNamed B.named
  have hlocks := B.notSynchronized
  have hl := lv_entry ([.ref h0, .int (nI q)]) (n := 4) (Nat.le_of_ble_eq_true rfl)
  rw [lg_entry_eq]
  generalize (lg_sl ([.ref h0, .int (nI q)]) ++ List.replicate (4 - (lg_sl ([.ref h0, .int (nI q)])).length) Slot.unset).toArray = ls at hl ⊢
  have hl : lv_has ls 4 [(0, .ref h0), (1, .int (nI q))] := hl
  refine lv_aload_n hx hb dX6_closureOf_0 rfl (lv_at hl 0 rfl) ?_
  refine rd_V (As := []) (rest := []) ⟨hx, hb, hml, hown, hts⟩ (c_X6_allAttributes l D h0 fs n f1 (by assumption)) (cwV 0 hts gX6_closureOf_X6_allAttributes rfl rfl rfl (by decide +kernel) ⟨Nat.le_of_ble_eq_true rfl, Nat.le_of_ble_eq_true rfl⟩) (hP.sub (ws' := [(h0, .inr (5, fs))]) [0] rfl) (hK.sub (tys' := []) [] rfl) (va_recv hK hP (ci := 5) (q0 := 0) rfl rfl) rfl rfl hl.1 rfl (lv_room (Nat.le_of_ble_eq_true rfl)) dX6_closureOf_1 ⟨Nat.le_of_ble_eq_true rfl, Nat.le_of_ble_eq_true rfl⟩ ?_
  refine lv_istore_n (lv' := [(2, .int (nI (2 ^ n - 1))), (0, .ref h0), (1, .int (nI q))]) hx hb dX6_closureOf_4 rfl hl (by decide) rfl (fun ls hl => ?_)
  refine lv_iconst (v := 0) hx hb dX6_closureOf_5 (by decide) ?_
  refine lv_istore_n (lv' := [(3, .int (0 : Int32)), (2, .int (nI (2 ^ n - 1))), (0, .ref h0), (1, .int (nI q))]) hx hb dX6_closureOf_6 rfl hl (by decide) rfl (fun ls hl => ?_)
  have lp_7 : ∀ (n_ : Nat) (k : Nat), o - k < n_ → (k ≤ o) → ∀ (x3 : Int32), x3 = nI k → ∀ (x2 : Int32), x2 = nI (cl2 r n q k) → ∀ (ls : Array Slot), lv_has ls 4 [(3, .int x3), (2, .int x2), (0, .ref h0), (1, .int (nI q))] → W p l e (headSpec wsX6_closureOf ({ frames := 2, cells := 0, slots := 0, locals := 40 })).room s m ([.ref h0, .int (nI q)] : List Value).toArray below meth c s.heap [] 0 0 (MQ below (QcRead (nI (clo r n o q))) ([.ref h0, .int (nI q)] : List Value).toArray s 0 0 (fun _ => False)) (F0 m 7 ls []) := by
    intro n_
    induction n_ with
    | zero => intro k h0_; exact absurd h0_ (Nat.not_lt_zero _)
    | succ n_ ih_7 =>
      intro k hm_7 hk x3 e_x3 x2 e_x2 ls hl
      subst e_x3
      subst e_x2
      refine lv_iload_n hx hb dX6_closureOf_7 rfl (lv_at hl 0 rfl) ?_
      refine lv_aload_n hx hb dX6_closureOf_8 rfl (lv_at hl 2 rfl) ?_
      refine va_get (D := D) (ci := 5) (v := .int (nI o)) (C := RX6) (T := TX6) (N := 3) hx hb hts (by decide +kernel) hown hK hP 0 rfl rfl 2 (by decide) (hts (.fieldLink RX6 19 "ConceptTable$Table" "size" "I") (by decide +kernel)) (fun _ h9 => h9) f2 dX6_closureOf_9 ?_
      refine lv_icmp_ge (tgt := 43) hx hb dX6_closureOf_12 (by decide) (fun c_12 => ?_) (fun c_12 => ?_)
      · have c_12 : o ≤ k := (nI_leI (a := o) (b := k) (by omega) (by omega)).mp c_12
        refine lv_iload_n hx hb dX6_closureOf_43 rfl (lv_at hl 1 rfl) ?_
        have e_ret : (nI (cl2 r n q k)) = (nI (clo r n o q)) := by rw [show k = o by omega, cl2_clo]
        exact W.iret (v := (nI (cl2 r n q k))) hx hb hr (fun t ht hW => ⟨congrArg (fun z_ => Outcome.returned (some (Value.int z_))) e_ret, ht⟩) (fun q h => by cases h) dX6_closureOf_44
      · have c_12 : k < o := Nat.lt_of_not_le (fun h_ => c_12 ((nI_leI (a := o) (b := k) (by omega) (by omega)).mpr h_))
        refine lv_aload_n hx hb dX6_closureOf_15 rfl (lv_at hl 2 rfl) ?_
        refine va_get (D := D) (ci := 5) (v := .ref h2) (C := RX6) (T := TX6) (N := 3) hx hb hts (by decide +kernel) hown hK hP 0 rfl rfl 0 (by decide) (hts (.fieldLink RX6 9 "ConceptTable$Table" "rows" "[I") (by decide +kernel)) (fun _ h9 => h9) f0 dX6_closureOf_16 ?_
        refine lv_iload_n hx hb dX6_closureOf_19 rfl (lv_at hl 0 rfl) ?_
        refine va_iald hx hb hK hP 1 0 rfl rfl (vp_in_nI (by omega) (by omega)) dX6_closureOf_20 ?_
        refine lv_re (y := (nI (r k))) (by rw [nI_clamp (by omega)]) ?_
        refine lv_iload_n hx hb dX6_closureOf_21 rfl (lv_at hl 3 rfl) ?_
        refine rd_S (As := [.int (nI (r k)), .int (nI q)]) (rest := []) ⟨hx, hb, hml, hown, hts⟩ (c_X5_hasAll_N l D (r k) q (by assumption)) (va_cwS 2 hts gX6_closureOf_X5_hasAll rfl rfl rfl (by decide +kernel) ⟨Nat.le_of_ble_eq_true rfl, Nat.le_of_ble_eq_true rfl⟩) (hP.sub (ws' := []) [] rfl) (hK.sub (tys' := []) [] rfl) rfl rfl hl.1 rfl (lv_room (Nat.le_of_ble_eq_true rfl)) dX6_closureOf_22 ⟨Nat.le_of_ble_eq_true rfl, Nat.le_of_ble_eq_true rfl⟩ ?_
        refine lv_if_eq (tgt := 37) hx hb dX6_closureOf_25 (by decide) (fun c_25 => ?_) (fun c_25 => ?_)
        · have c_25 := b2_0.mp c_25
          refine lv_iinc (v := (nI (k + 1))) (lv' := [(3, .int (nI (k + 1))), (2, .int (nI (cl2 r n q k))), (0, .ref h0), (1, .int (nI q))]) hx hb dX6_closureOf_37 hl (k := 0) rfl (nI_add _ 1) (by decide) rfl (fun ls hl => ?_)
          refine lv_goto (tgt := 7) hx hb dX6_closureOf_40 (by decide) ?_
          exact ih_7 (k + 1) (by omega) (by omega) _ rfl _ (by rw [cl2, if_neg (by rw [c_25]; decide)]) _ (lv_sub hl [0, 1, 2, 3] rfl)
        · have c_25 := b2_n0.mp c_25
          refine lv_iload_n hx hb dX6_closureOf_28 rfl (lv_at hl 1 rfl) ?_
          refine lv_aload_n hx hb dX6_closureOf_29 rfl (lv_at hl 2 rfl) ?_
          refine va_get (D := D) (ci := 5) (v := .ref h2) (C := RX6) (T := TX6) (N := 3) hx hb hts (by decide +kernel) hown hK hP 0 rfl rfl 0 (by decide) (hts (.fieldLink RX6 9 "ConceptTable$Table" "rows" "[I") (by decide +kernel)) (fun _ h9 => h9) f0 dX6_closureOf_30 ?_
          refine lv_iload_n hx hb dX6_closureOf_33 rfl (lv_at hl 0 rfl) ?_
          refine va_iald hx hb hK hP 1 0 rfl rfl (vp_in_nI (by omega) (by omega)) dX6_closureOf_34 ?_
          refine lv_re (y := (nI (r k))) (by rw [nI_clamp (by omega)]) ?_
          refine lv_iand hx hb dX6_closureOf_35 ?_
          refine lv_re (y := (nI ((cl2 r n q k) &&& (r k)))) (nx_and (cl2 r n q k) (r k)) ?_
          refine lv_istore_n (lv' := [(2, .int (nI ((cl2 r n q k) &&& (r k)))), (3, .int (nI k)), (0, .ref h0), (1, .int (nI q))]) hx hb dX6_closureOf_36 rfl hl (by decide) rfl (fun ls hl => ?_)
          refine lv_iinc (v := (nI (k + 1))) (lv' := [(3, .int (nI (k + 1))), (2, .int (nI ((cl2 r n q k) &&& (r k)))), (0, .ref h0), (1, .int (nI q))]) hx hb dX6_closureOf_37 hl (k := 1) rfl (nI_add _ 1) (by decide) rfl (fun ls hl => ?_)
          refine lv_goto (tgt := 7) hx hb dX6_closureOf_40 (by decide) ?_
          exact ih_7 (k + 1) (by omega) (by omega) _ rfl _ (by rw [cl2, if_pos c_25]) _ (lv_sub hl [0, 1, 2, 3] rfl)
  exact lp_7 _ 0 (Nat.lt_succ_self _) (Nat.zero_le _) _ rfl _ rfl _ (lv_sub hl [0, 1, 2, 3] rfl)

set_option maxHeartbeats 4000000 in
set_option maxRecDepth 100000 in
theorem c_X6_closedBehind (l : Launch) (D : va_G) (h0 : Nat) (fs : List Value) (h2 : Nat) (cI : ClassId) (n : Nat) (o : Nat) (r : Nat → Nat) (q : Nat) (f0 : fs[0]? = some (.ref h2)) (f1 : fs[1]? = some (.int (nI n))) (f2 : fs[2]? = some (.int (nI o))) (hn : n ≤ 12) (ho : o ≤ 20) (hq : q < 2 ^ n) : Met l yX6_closedBehind wsX6_closedBehind ({ frames := 3, cells := 0, slots := 0, locals := 63 }) (va_Pc [.ref h0, .int (nI q)] (fun U => va_P D vwCl [(h0, .inr (5, fs)), (h2, .inl (cI, 20, .inl (fun i_ => nI (r i_))))] U.heap ∧ va_K D vwCl [(cI, .int)] U)) (QcRead (cbF r n o n q)) 0 0 (fun _ => False) := by
  refine Met.ofW (cc := cX6_closedBehind) (maxL := 6) (ret := (some .int)) (by decide) rfl ?_
  intro p e s m args below meth c s₁ B hml hv
  obtain ⟨rfl, hP, hK⟩ := hv
  have hx := B.exec
  have hb := B.bytes
  have hr := B.returns
  have hts := atoms_spec (ws := wsX6_closedBehind) B.pre
  have hown : s.vm.findClass RX6 = some m.cls := findClass_of_methodNamed B.named
  have hlocks := B.notSynchronized
  have hl := lv_entry ([.ref h0, .int (nI q)]) (n := 6) (Nat.le_of_ble_eq_true rfl)
  rw [lg_entry_eq]
  generalize (lg_sl ([.ref h0, .int (nI q)]) ++ List.replicate (6 - (lg_sl ([.ref h0, .int (nI q)])).length) Slot.unset).toArray = ls at hl ⊢
  have hl : lv_has ls 6 [(0, .ref h0), (1, .int (nI q))] := hl
  have h2n := p2_le hn
  refine lv_iload_n hx hb dX6_closedBehind_0 rfl (lv_at hl 1 rfl) ?_
  refine lv_istore_n (lv' := [(2, .int (nI q)), (0, .ref h0), (1, .int (nI q))]) hx hb dX6_closedBehind_1 rfl hl (by decide) rfl (fun ls hl => ?_)
  refine lv_aload_n hx hb dX6_closedBehind_2 rfl (lv_at hl 1 rfl) ?_
  refine va_get (D := D) (ci := 5) (v := .int (nI n)) (C := RX6) (T := TX6) (N := 3) hx hb hts (by decide +kernel) hown hK hP 0 rfl rfl 1 (by decide) (hts (.fieldLink RX6 15 "ConceptTable$Table" "attributes" "I") (by decide +kernel)) (fun _ h9 => h9) f1 dX6_closedBehind_3 ?_
  refine lv_iconst (v := 1) hx hb dX6_closedBehind_6 (by decide) ?_
  refine lv_isub hx hb dX6_closedBehind_7 ?_
  refine lv_istore_n (lv' := [(3, .int ((nI n) - (1 : Int32))), (2, .int (nI q)), (0, .ref h0), (1, .int (nI q))]) hx hb dX6_closedBehind_8 rfl hl (by decide) rfl (fun ls hl => ?_)
  have lp_9 : ∀ (n_ : Nat) (d_ : Nat) (kv : Int32) (g : Nat), d_ < n_ → (d_ ≤ n) → (kv = nI d_ - 1) → (g < 2 ^ n) → (cbF r n o d_ g = cbF r n o n q) → ∀ (x2 : Int32), x2 = nI g → ∀ (ls : Array Slot), lv_has ls 6 [(3, .int kv), (2, .int x2), (0, .ref h0), (1, .int (nI q))] → W p l e (headSpec wsX6_closedBehind ({ frames := 3, cells := 0, slots := 0, locals := 63 })).room s m ([.ref h0, .int (nI q)] : List Value).toArray below meth c s.heap [] 0 0 (MQ below (QcRead (cbF r n o n q)) ([.ref h0, .int (nI q)] : List Value).toArray s 0 0 (fun _ => False)) (F0 m 9 ls []) := by
    intro n_
    induction n_ with
    | zero => intro d_ kv g h0_; exact absurd h0_ (Nat.not_lt_zero _)
    | succ n_ ih_9 =>
      intro d_ kv g hm_9 hc hkv hg hres x2 e_x2 ls hl
      subst e_x2
      refine lv_iload_n hx hb dX6_closedBehind_9 rfl (lv_at hl 0 rfl) ?_
      refine lv_if_lt (tgt := 64) hx hb dX6_closedBehind_10 (by decide) (fun c_10 => ?_) (fun c_10 => ?_)
      · have hc0_ := dn_0 (by omega) hkv c_10
        refine lv_iconst (v := -1) hx hb dX6_closedBehind_64 (by decide) ?_
        have e_ret : (-1 : Int32) = (cbF r n o n q) := by rw [← hres, hc0_]; rfl
        exact W.iret (v := (-1 : Int32)) hx hb hr (fun t ht hW => ⟨congrArg (fun z_ => Outcome.returned (some (Value.int z_))) e_ret, ht⟩) (fun q h => by cases h) dX6_closedBehind_65
      · obtain ⟨hc1_, hk_⟩ := dn_1 hkv c_10
        refine lv_iconst (v := 1) hx hb dX6_closedBehind_13 (by decide) ?_
        refine lv_iload_n hx hb dX6_closedBehind_14 rfl (lv_at hl 0 rfl) ?_
        refine lv_re (y := (nI (d_ - 1))) hk_ ?_
        refine lv_ishl hx hb dX6_closedBehind_15 ?_
        refine lv_re (y := (nI (2 ^ (d_ - 1)))) (nx_sh1 (k := (d_ - 1)) (by omega)) ?_
        refine lv_istore (lv' := [(4, .int (nI (2 ^ (d_ - 1)))), (3, .int kv), (2, .int (nI g)), (0, .ref h0), (1, .int (nI q))]) hx hb dX6_closedBehind_16 hl (by decide) rfl (fun ls hl => ?_)
        refine lv_iload_n hx hb dX6_closedBehind_18 rfl (lv_at hl 2 rfl) ?_
        refine lv_iload hx hb dX6_closedBehind_19 (lv_at hl 0 rfl) ?_
        refine lv_iand hx hb dX6_closedBehind_21 ?_
        refine lv_re (y := (nI (g &&& (2 ^ (d_ - 1))))) (nx_and g (2 ^ (d_ - 1))) ?_
        refine lv_if_eq (tgt := 33) hx hb dX6_closedBehind_22 (by decide) (fun c_22 => ?_) (fun c_22 => ?_)
        · have c_22 : (g &&& (2 ^ (d_ - 1))) = 0 := (nI_eq (a := (g &&& (2 ^ (d_ - 1)))) (b := 0) (Nat.lt_of_le_of_lt Nat.and_le_left (by omega)) (by decide)).mp c_22
          have hol_ := or_pow_lt hg (show d_ - 1 < n by omega)
          have hcl_ := clo_lt r n o (g ||| 2 ^ (d_ - 1))
          refine lv_aload_n hx hb dX6_closedBehind_33 rfl (lv_at hl 3 rfl) ?_
          refine lv_iload_n hx hb dX6_closedBehind_34 rfl (lv_at hl 2 rfl) ?_
          refine lv_iload hx hb dX6_closedBehind_35 (lv_at hl 0 rfl) ?_
          refine lv_ior hx hb dX6_closedBehind_37 ?_
          refine lv_re (y := (nI (g ||| (2 ^ (d_ - 1))))) (nx_or g (2 ^ (d_ - 1))) ?_
          refine rd_V (As := [.int (nI (g ||| (2 ^ (d_ - 1))))]) (rest := []) ⟨hx, hb, hml, hown, hts⟩ (c_X6_closureOf l D h0 fs h2 cI n o r (g ||| (2 ^ (d_ - 1))) f0 f1 f2 hn ho (by omega)) (cwV 1 hts gX6_closedBehind_X6_closureOf rfl rfl rfl (by decide +kernel) ⟨Nat.le_of_ble_eq_true rfl, Nat.le_of_ble_eq_true rfl⟩) (hP.sub (ws' := [(h0, .inr (5, fs)), (h2, .inl (cI, 20, .inl (fun i_ => nI (r i_))))]) [0, 1] rfl) (hK.sub (tys' := [(cI, .int)]) [0] rfl) (va_recv hK hP (ci := 5) (q0 := 0) rfl rfl) rfl rfl hl.1 rfl (lv_room (Nat.le_of_ble_eq_true rfl)) dX6_closedBehind_38 ⟨Nat.le_of_ble_eq_true rfl, Nat.le_of_ble_eq_true rfl⟩ ?_
          refine lv_istore (lv' := [(5, .int (nI (clo r n o (g ||| (2 ^ (d_ - 1)))))), (4, .int (nI (2 ^ (d_ - 1)))), (3, .int kv), (2, .int (nI g)), (0, .ref h0), (1, .int (nI q))]) hx hb dX6_closedBehind_41 hl (by decide) rfl (fun ls hl => ?_)
          refine lv_iload hx hb dX6_closedBehind_43 (lv_at hl 0 rfl) ?_
          refine lv_iload_n hx hb dX6_closedBehind_45 rfl (lv_at hl 3 rfl) ?_
          refine lv_ixor hx hb dX6_closedBehind_46 ?_
          refine lv_re (y := (nI ((clo r n o (g ||| (2 ^ (d_ - 1)))) ^^^ g))) (nx_xor (clo r n o (g ||| (2 ^ (d_ - 1)))) g) ?_
          refine lv_iload hx hb dX6_closedBehind_47 (lv_at hl 1 rfl) ?_
          refine lv_iconst (v := 1) hx hb dX6_closedBehind_49 (by decide) ?_
          refine lv_isub hx hb dX6_closedBehind_50 ?_
          refine lv_re (y := (nI ((2 ^ (d_ - 1)) - 1))) (pk_sub (a := (2 ^ (d_ - 1))) (b := 1) (p2_pos _)) ?_
          refine lv_iand hx hb dX6_closedBehind_51 ?_
          refine lv_re (y := (nI (((clo r n o (g ||| (2 ^ (d_ - 1)))) ^^^ g) &&& ((2 ^ (d_ - 1)) - 1)))) (nx_and ((clo r n o (g ||| (2 ^ (d_ - 1)))) ^^^ g) ((2 ^ (d_ - 1)) - 1)) ?_
          refine lv_if_ne (tgt := 58) hx hb dX6_closedBehind_52 (by decide) (fun c_52 => ?_) (fun c_52 => ?_)
          · have c_52 : ¬ (((clo r n o (g ||| (2 ^ (d_ - 1)))) ^^^ g) &&& ((2 ^ (d_ - 1)) - 1)) = 0 := fun h_ => c_52 ((nI_eq (a := (((clo r n o (g ||| (2 ^ (d_ - 1)))) ^^^ g) &&& ((2 ^ (d_ - 1)) - 1))) (b := 0) (Nat.lt_of_le_of_lt Nat.and_le_left (Nat.lt_of_lt_of_le (Nat.xor_lt_two_pow hcl_ hg) (by omega))) (by decide)).mpr h_)
            refine lv_iinc (v := (kv + (-1 : Int32))) (lv' := [(3, .int (kv + (-1 : Int32))), (5, .int (nI (clo r n o (g ||| (2 ^ (d_ - 1)))))), (4, .int (nI (2 ^ (d_ - 1)))), (2, .int (nI g)), (0, .ref h0), (1, .int (nI q))]) hx hb dX6_closedBehind_58 hl (k := 2) rfl rfl (by decide) rfl (fun ls hl => ?_)
            refine lv_goto (tgt := 9) hx hb dX6_closedBehind_61 (by decide) ?_
            exact ih_9 (d_ - 1) (kv + (-1 : Int32)) g (by omega) (by omega) (dn_s hk_) hg (by rw [← hres, show d_ = (d_ - 1) + 1 by omega, cbF, Nat.add_sub_cancel, if_neg (by rw [and_pow.mp c_22]; decide), if_neg c_52]) _ rfl _ (lv_sub hl [0, 3, 4, 5] rfl)
          · have c_52 : (((clo r n o (g ||| (2 ^ (d_ - 1)))) ^^^ g) &&& ((2 ^ (d_ - 1)) - 1)) = 0 := (nI_eq (a := (((clo r n o (g ||| (2 ^ (d_ - 1)))) ^^^ g) &&& ((2 ^ (d_ - 1)) - 1))) (b := 0) (Nat.lt_of_le_of_lt Nat.and_le_left (Nat.lt_of_lt_of_le (Nat.xor_lt_two_pow hcl_ hg) (by omega))) (by decide)).mp c_52
            refine lv_iload hx hb dX6_closedBehind_55 (lv_at hl 0 rfl) ?_
            have e_ret : (nI (clo r n o (g ||| (2 ^ (d_ - 1))))) = (cbF r n o n q) := by rw [← hres, show d_ = (d_ - 1) + 1 by omega, cbF, Nat.add_sub_cancel, if_neg (by rw [and_pow.mp c_22]; decide), if_pos c_52]
            exact W.iret (v := (nI (clo r n o (g ||| (2 ^ (d_ - 1)))))) hx hb hr (fun t ht hW => ⟨congrArg (fun z_ => Outcome.returned (some (Value.int z_))) e_ret, ht⟩) (fun q h => by cases h) dX6_closedBehind_57
        · have c_22 : ¬ (g &&& (2 ^ (d_ - 1))) = 0 := fun h_ => c_22 ((nI_eq (a := (g &&& (2 ^ (d_ - 1)))) (b := 0) (Nat.lt_of_le_of_lt Nat.and_le_left (by omega)) (by decide)).mpr h_)
          refine lv_iload_n hx hb dX6_closedBehind_25 rfl (lv_at hl 2 rfl) ?_
          refine lv_iload hx hb dX6_closedBehind_26 (lv_at hl 0 rfl) ?_
          refine lv_ixor hx hb dX6_closedBehind_28 ?_
          refine lv_re (y := (nI (g ^^^ (2 ^ (d_ - 1))))) (nx_xor g (2 ^ (d_ - 1))) ?_
          refine lv_istore_n (lv' := [(2, .int (nI (g ^^^ (2 ^ (d_ - 1))))), (4, .int (nI (2 ^ (d_ - 1)))), (3, .int kv), (0, .ref h0), (1, .int (nI q))]) hx hb dX6_closedBehind_29 rfl hl (by decide) rfl (fun ls hl => ?_)
          refine lv_goto (tgt := 58) hx hb dX6_closedBehind_30 (by decide) ?_
          refine lv_iinc (v := (kv + (-1 : Int32))) (lv' := [(3, .int (kv + (-1 : Int32))), (2, .int (nI (g ^^^ (2 ^ (d_ - 1))))), (4, .int (nI (2 ^ (d_ - 1)))), (0, .ref h0), (1, .int (nI q))]) hx hb dX6_closedBehind_58 hl (k := 2) rfl rfl (by decide) rfl (fun ls hl => ?_)
          refine lv_goto (tgt := 9) hx hb dX6_closedBehind_61 (by decide) ?_
          exact ih_9 (d_ - 1) (kv + (-1 : Int32)) (g ^^^ 2 ^ (d_ - 1)) (by omega) (by omega) (dn_s hk_) (xor_pow_lt hg (by omega)) (by rw [← hres, show d_ = (d_ - 1) + 1 by omega, cbF, Nat.add_sub_cancel, if_pos (and_pow_t c_22)]) _ rfl _ (lv_sub hl [0, 1, 3, 4] rfl)
  exact lp_9 _ n (nI n - (1 : Int32)) q (Nat.lt_succ_self _) (Nat.le_refl _) rfl hq rfl _ rfl _ (lv_sub hl [0, 1, 2, 3] rfl)

set_option maxHeartbeats 4000000 in
set_option maxRecDepth 100000 in
theorem c_X6_needsAttribute (l : Launch) (D : va_G) (h0 : Nat) (fs : List Value) (h2 : Nat) (cI : ClassId) (n : Nat) (o : Nat) (r : Nat → Nat) (a : Nat) (f0 : fs[0]? = some (.ref h2)) (f1 : fs[1]? = some (.int (nI n))) (f2 : fs[2]? = some (.int (nI o))) (hn : n ≤ 12) (ho : o ≤ 20) (ha : a < n) : Met l yX6_needsAttribute wsX6_needsAttribute ({ frames := 2, cells := 0, slots := 0, locals := 44 }) (va_Pc [.ref h0, .int (nI a)] (fun U => va_P D vwCl [(h0, .inr (5, fs)), (h2, .inl (cI, 20, .inl (fun i_ => nI (r i_))))] U.heap ∧ va_K D vwCl [(cI, .int)] U)) (QcRead (b2 (decide (¬ ext r (nda r o (ext r (2 ^ a) o) n) o = ext r (2 ^ a) o)))) 0 0 (fun _ => False) := by
  refine Met.ofW (cc := cX6_needsAttribute) (maxL := 5) (ret := (some .boolean)) (by decide) rfl ?_
  intro p e s m args below meth c s₁ B hml hv
  obtain ⟨rfl, hP, hK⟩ := hv
  have hx := B.exec
  have hb := B.bytes
  have hr := B.returns
  have hts := atoms_spec (ws := wsX6_needsAttribute) B.pre
  have hown : s.vm.findClass RX6 = some m.cls := findClass_of_methodNamed B.named
  have hlocks := B.notSynchronized
  have hl := lv_entry ([.ref h0, .int (nI a)]) (n := 5) (Nat.le_of_ble_eq_true rfl)
  rw [lg_entry_eq]
  generalize (lg_sl ([.ref h0, .int (nI a)]) ++ List.replicate (5 - (lg_sl ([.ref h0, .int (nI a)])).length) Slot.unset).toArray = ls at hl ⊢
  have hl : lv_has ls 5 [(0, .ref h0), (1, .int (nI a))] := hl
  have h2n := p2_le hn
  have h20 := p2_le20 ho
  have hxl : ∀ q, ext r q o < 2 ^ 31 := fun q => Nat.lt_of_lt_of_le (ext_lt r q o) (by omega)
  have hpw : ∀ k, k < n → 2 ^ k < 2 ^ 31 := fun k hk => Nat.lt_of_lt_of_le (Nat.pow_lt_pow_right (by decide) hk) (by omega)
  refine lv_aload_n hx hb dX6_needsAttribute_0 rfl (lv_at hl 0 rfl) ?_
  refine lv_iconst (v := 1) hx hb dX6_needsAttribute_1 (by decide) ?_
  refine lv_iload_n hx hb dX6_needsAttribute_2 rfl (lv_at hl 1 rfl) ?_
  refine lv_ishl hx hb dX6_needsAttribute_3 ?_
  refine lv_re (y := (nI (2 ^ a))) (nx_sh1 (k := a) (by omega)) ?_
  refine rd_V (As := [.int (nI (2 ^ a))]) (rest := []) ⟨hx, hb, hml, hown, hts⟩ (c_X6_extentOf l D h0 fs h2 cI o r (2 ^ a) f0 f2 ho (hpw a ha)) (cwV 1 hts gX6_needsAttribute_X6_extentOf rfl rfl rfl (by decide +kernel) ⟨Nat.le_of_ble_eq_true rfl, Nat.le_of_ble_eq_true rfl⟩) (hP.sub (ws' := [(h0, .inr (5, fs)), (h2, .inl (cI, 20, .inl (fun i_ => nI (r i_))))]) [0, 1] rfl) (hK.sub (tys' := [(cI, .int)]) [0] rfl) (va_recv hK hP (ci := 5) (q0 := 0) rfl rfl) rfl rfl hl.1 rfl (lv_room (Nat.le_of_ble_eq_true rfl)) dX6_needsAttribute_4 ⟨Nat.le_of_ble_eq_true rfl, Nat.le_of_ble_eq_true rfl⟩ ?_
  refine lv_istore_n (lv' := [(2, .int (nI (ext r (2 ^ a) o))), (0, .ref h0), (1, .int (nI a))]) hx hb dX6_needsAttribute_7 rfl hl (by decide) rfl (fun ls hl => ?_)
  refine lv_iconst (v := 0) hx hb dX6_needsAttribute_8 (by decide) ?_
  refine lv_istore_n (lv' := [(3, .int (0 : Int32)), (2, .int (nI (ext r (2 ^ a) o))), (0, .ref h0), (1, .int (nI a))]) hx hb dX6_needsAttribute_9 rfl hl (by decide) rfl (fun ls hl => ?_)
  refine lv_iconst (v := 0) hx hb dX6_needsAttribute_10 (by decide) ?_
  refine lv_istore (lv' := [(4, .int (0 : Int32)), (3, .int (0 : Int32)), (2, .int (nI (ext r (2 ^ a) o))), (0, .ref h0), (1, .int (nI a))]) hx hb dX6_needsAttribute_11 hl (by decide) rfl (fun ls hl => ?_)
  have lp_13 : ∀ (n_ : Nat) (k : Nat), n - k < n_ → (k ≤ n) → ∀ (x4 : Int32), x4 = nI k → ∀ (x3 : Int32), x3 = nI (nda r o (ext r (2 ^ a) o) k) → ∀ (ls : Array Slot), lv_has ls 5 [(4, .int x4), (3, .int x3), (2, .int (nI (ext r (2 ^ a) o))), (0, .ref h0), (1, .int (nI a))] → W p l e (headSpec wsX6_needsAttribute ({ frames := 2, cells := 0, slots := 0, locals := 44 })).room s m ([.ref h0, .int (nI a)] : List Value).toArray below meth c s.heap [] 0 0 (MQ below (QcRead (b2 (decide (¬ ext r (nda r o (ext r (2 ^ a) o) n) o = ext r (2 ^ a) o)))) ([.ref h0, .int (nI a)] : List Value).toArray s 0 0 (fun _ => False)) (F0 m 13 ls []) := by
    intro n_
    induction n_ with
    | zero => intro k h0_; exact absurd h0_ (Nat.not_lt_zero _)
    | succ n_ ih_13 =>
      intro k hm_13 hk x4 e_x4 x3 e_x3 ls hl
      subst e_x4
      subst e_x3
      refine lv_iload hx hb dX6_needsAttribute_13 (lv_at hl 0 rfl) ?_
      refine lv_aload_n hx hb dX6_needsAttribute_15 rfl (lv_at hl 3 rfl) ?_
      refine va_get (D := D) (ci := 5) (v := .int (nI n)) (C := RX6) (T := TX6) (N := 3) hx hb hts (by decide +kernel) hown hK hP 0 rfl rfl 1 (by decide) (hts (.fieldLink RX6 15 "ConceptTable$Table" "attributes" "I") (by decide +kernel)) (fun _ h9 => h9) f1 dX6_needsAttribute_16 ?_
      refine lv_icmp_ge (tgt := 50) hx hb dX6_needsAttribute_19 (by decide) (fun c_19 => ?_) (fun c_19 => ?_)
      · have c_19 : n ≤ k := (nI_leI (a := n) (b := k) (by omega) (by omega)).mp c_19
        have hkn : k = n := by omega
        refine lv_aload_n hx hb dX6_needsAttribute_50 rfl (lv_at hl 3 rfl) ?_
        refine lv_iload_n hx hb dX6_needsAttribute_51 rfl (lv_at hl 1 rfl) ?_
        refine rd_V (As := [.int (nI (nda r o (ext r (2 ^ a) o) k))]) (rest := []) ⟨hx, hb, hml, hown, hts⟩ (c_X6_extentOf l D h0 fs h2 cI o r (nda r o (ext r (2 ^ a) o) k) f0 f2 ho (by rw [show k = n by omega]; exact Nat.lt_of_lt_of_le (nda_lt _ _ _ _) (by omega))) (cwV 1 hts gX6_needsAttribute_X6_extentOf rfl rfl rfl (by decide +kernel) ⟨Nat.le_of_ble_eq_true rfl, Nat.le_of_ble_eq_true rfl⟩) (hP.sub (ws' := [(h0, .inr (5, fs)), (h2, .inl (cI, 20, .inl (fun i_ => nI (r i_))))]) [0, 1] rfl) (hK.sub (tys' := [(cI, .int)]) [0] rfl) (va_recv hK hP (ci := 5) (q0 := 0) rfl rfl) rfl rfl hl.1 rfl (lv_room (Nat.le_of_ble_eq_true rfl)) dX6_needsAttribute_52 ⟨Nat.le_of_ble_eq_true rfl, Nat.le_of_ble_eq_true rfl⟩ ?_
        refine lv_iload_n hx hb dX6_needsAttribute_55 rfl (lv_at hl 2 rfl) ?_
        refine lv_icmp_eq (tgt := 63) hx hb dX6_needsAttribute_56 (by decide) (fun c_56 => ?_) (fun c_56 => ?_)
        · have c_56 : (ext r (nda r o (ext r (2 ^ a) o) k) o) = (ext r (2 ^ a) o) := (nI_eq (a := (ext r (nda r o (ext r (2 ^ a) o) k) o)) (b := (ext r (2 ^ a) o)) (hxl _) (hxl _)).mp c_56
          refine lv_iconst (v := 0) hx hb dX6_needsAttribute_63 (by decide) ?_
          have e_ret : (0 : Int32) = (b2 (decide (¬ ext r (nda r o (ext r (2 ^ a) o) n) o = ext r (2 ^ a) o))) := by rw [hkn] at c_56; rw [decide_eq_false (fun z => z c_56)]; rfl
          exact W.zret (v := (0 : Int32)) hx hb hr rfl (fun t ht hW => ⟨congrArg (fun z_ => Outcome.returned (some (Value.int z_))) e_ret, ht⟩) (fun q h => by cases h) dX6_needsAttribute_64
        · have c_56 : ¬ (ext r (nda r o (ext r (2 ^ a) o) k) o) = (ext r (2 ^ a) o) := fun h_ => c_56 ((nI_eq (a := (ext r (nda r o (ext r (2 ^ a) o) k) o)) (b := (ext r (2 ^ a) o)) (hxl _) (hxl _)).mpr h_)
          refine lv_iconst (v := 1) hx hb dX6_needsAttribute_59 (by decide) ?_
          refine lv_goto (tgt := 64) hx hb dX6_needsAttribute_60 (by decide) ?_
          have e_ret : (1 : Int32) = (b2 (decide (¬ ext r (nda r o (ext r (2 ^ a) o) n) o = ext r (2 ^ a) o))) := by rw [hkn] at c_56; rw [decide_eq_true c_56]; rfl
          exact W.zret (v := (1 : Int32)) hx hb hr rfl (fun t ht hW => ⟨congrArg (fun z_ => Outcome.returned (some (Value.int z_))) e_ret, ht⟩) (fun q h => by cases h) dX6_needsAttribute_64
      · have c_19 : k < n := Nat.lt_of_not_le (fun h_ => c_19 ((nI_leI (a := n) (b := k) (by omega) (by omega)).mpr h_))
        refine lv_aload_n hx hb dX6_needsAttribute_22 rfl (lv_at hl 3 rfl) ?_
        refine lv_iconst (v := 1) hx hb dX6_needsAttribute_23 (by decide) ?_
        refine lv_iload hx hb dX6_needsAttribute_24 (lv_at hl 0 rfl) ?_
        refine lv_ishl hx hb dX6_needsAttribute_26 ?_
        refine lv_re (y := (nI (2 ^ k))) (nx_sh1 (k := k) (by omega)) ?_
        refine rd_V (As := [.int (nI (2 ^ k))]) (rest := []) ⟨hx, hb, hml, hown, hts⟩ (c_X6_extentOf l D h0 fs h2 cI o r (2 ^ k) f0 f2 ho (hpw k (by omega))) (cwV 1 hts gX6_needsAttribute_X6_extentOf rfl rfl rfl (by decide +kernel) ⟨Nat.le_of_ble_eq_true rfl, Nat.le_of_ble_eq_true rfl⟩) (hP.sub (ws' := [(h0, .inr (5, fs)), (h2, .inl (cI, 20, .inl (fun i_ => nI (r i_))))]) [0, 1] rfl) (hK.sub (tys' := [(cI, .int)]) [0] rfl) (va_recv hK hP (ci := 5) (q0 := 0) rfl rfl) rfl rfl hl.1 rfl (lv_room (Nat.le_of_ble_eq_true rfl)) dX6_needsAttribute_27 ⟨Nat.le_of_ble_eq_true rfl, Nat.le_of_ble_eq_true rfl⟩ ?_
        refine lv_iload_n hx hb dX6_needsAttribute_30 rfl (lv_at hl 2 rfl) ?_
        refine rd_S (As := [.int (nI (ext r (2 ^ k) o)), .int (nI (ext r (2 ^ a) o))]) (rest := []) ⟨hx, hb, hml, hown, hts⟩ (c_X5_hasAllAndMore l D (ext r (2 ^ k) o) (ext r (2 ^ a) o) (hxl _) (hxl _)) (va_cwS 2 hts gX6_needsAttribute_X5_hasAllAndMore rfl rfl rfl (by decide +kernel) ⟨Nat.le_of_ble_eq_true rfl, Nat.le_of_ble_eq_true rfl⟩) (hP.sub (ws' := []) [] rfl) (hK.sub (tys' := []) [] rfl) rfl rfl hl.1 rfl (lv_room (Nat.le_of_ble_eq_true rfl)) dX6_needsAttribute_31 ⟨Nat.le_of_ble_eq_true rfl, Nat.le_of_ble_eq_true rfl⟩ ?_
        refine lv_if_eq (tgt := 44) hx hb dX6_needsAttribute_34 (by decide) (fun c_34 => ?_) (fun c_34 => ?_)
        · have c_34 := b2_0.mp c_34
          refine lv_iinc (v := (nI (k + 1))) (lv' := [(4, .int (nI (k + 1))), (3, .int (nI (nda r o (ext r (2 ^ a) o) k))), (2, .int (nI (ext r (2 ^ a) o))), (0, .ref h0), (1, .int (nI a))]) hx hb dX6_needsAttribute_44 hl (k := 0) rfl (nI_add _ 1) (by decide) rfl (fun ls hl => ?_)
          refine lv_goto (tgt := 13) hx hb dX6_needsAttribute_47 (by decide) ?_
          exact ih_13 (k + 1) (by omega) (by omega) _ rfl _ (by rw [nda, if_neg (fun z => by rw [decide_eq_true z.1, z.2] at c_34; exact Bool.noConfusion c_34)]) _ (lv_sub hl [0, 1, 2, 3, 4] rfl)
        · have c_34 := b2_n0.mp c_34
          refine lv_iload_n hx hb dX6_needsAttribute_37 rfl (lv_at hl 1 rfl) ?_
          refine lv_iconst (v := 1) hx hb dX6_needsAttribute_38 (by decide) ?_
          refine lv_iload hx hb dX6_needsAttribute_39 (lv_at hl 0 rfl) ?_
          refine lv_ishl hx hb dX6_needsAttribute_41 ?_
          refine lv_re (y := (nI (2 ^ k))) (nx_sh1 (k := k) (by omega)) ?_
          refine lv_ior hx hb dX6_needsAttribute_42 ?_
          refine lv_re (y := (nI ((nda r o (ext r (2 ^ a) o) k) ||| (2 ^ k)))) (nx_or (nda r o (ext r (2 ^ a) o) k) (2 ^ k)) ?_
          refine lv_istore_n (lv' := [(3, .int (nI ((nda r o (ext r (2 ^ a) o) k) ||| (2 ^ k)))), (4, .int (nI k)), (2, .int (nI (ext r (2 ^ a) o))), (0, .ref h0), (1, .int (nI a))]) hx hb dX6_needsAttribute_43 rfl hl (by decide) rfl (fun ls hl => ?_)
          refine lv_iinc (v := (nI (k + 1))) (lv' := [(4, .int (nI (k + 1))), (3, .int (nI ((nda r o (ext r (2 ^ a) o) k) ||| (2 ^ k)))), (2, .int (nI (ext r (2 ^ a) o))), (0, .ref h0), (1, .int (nI a))]) hx hb dX6_needsAttribute_44 hl (k := 1) rfl (nI_add _ 1) (by decide) rfl (fun ls hl => ?_)
          refine lv_goto (tgt := 13) hx hb dX6_needsAttribute_47 (by decide) ?_
          exact ih_13 (k + 1) (by omega) (by omega) _ rfl _ (by rw [Bool.and_eq_true, decide_eq_true_iff] at c_34; rw [nda, if_pos c_34]) _ (lv_sub hl [0, 1, 2, 3, 4] rfl)
  exact lp_13 _ 0 (Nat.lt_succ_self _) (Nat.zero_le _) _ rfl _ rfl _ (lv_sub hl [0, 1, 2, 3, 4] rfl)

set_option maxHeartbeats 4000000 in
set_option maxRecDepth 100000 in
theorem c_X6_needsObject (l : Launch) (D : va_G) (h0 : Nat) (fs : List Value) (h2 : Nat) (cI : ClassId) (n : Nat) (o : Nat) (r : Nat → Nat) (j : Nat) (f0 : fs[0]? = some (.ref h2)) (f1 : fs[1]? = some (.int (nI n))) (f2 : fs[2]? = some (.int (nI o))) (hn : n ≤ 12) (ho : o ≤ 20) (hr_ : ∀ i, r i < 4096) (hj : j < o) : Met l yX6_needsObject wsX6_needsObject ({ frames := 3, cells := 0, slots := 0, locals := 63 }) (va_Pc [.ref h0, .int (nI j)] (fun U => va_P D vwCl [(h0, .inr (5, fs)), (h2, .inl (cI, 20, .inl (fun i_ => nI (r i_))))] U.heap ∧ va_K D vwCl [(cI, .int)] U)) (QcRead (b2 (decide (¬ com r n (ndo r (r j) o) o = r j)))) 0 0 (fun _ => False) := by
  refine Met.ofW (cc := cX6_needsObject) (maxL := 5) (ret := (some .boolean)) (by decide) rfl ?_
  intro p e s m args below meth c s₁ B hml hv
  obtain ⟨rfl, hP, hK⟩ := hv
  have hx := B.exec
  have hb := B.bytes
  have hr := B.returns
  have hts := atoms_spec (ws := wsX6_needsObject) B.pre
  have hown : s.vm.findClass RX6 = some m.cls := findClass_of_methodNamed B.named
  have hlocks := B.notSynchronized
  have hl := lv_entry ([.ref h0, .int (nI j)]) (n := 5) (Nat.le_of_ble_eq_true rfl)
  rw [lg_entry_eq]
  generalize (lg_sl ([.ref h0, .int (nI j)]) ++ List.replicate (5 - (lg_sl ([.ref h0, .int (nI j)])).length) Slot.unset).toArray = ls at hl ⊢
  have hl : lv_has ls 5 [(0, .ref h0), (1, .int (nI j))] := hl
  have h2n := p2_le hn
  have h20 := p2_le20 ho
  have hrl : ∀ i, r i < 2 ^ 31 := fun i => Nat.lt_trans (hr_ i) (by decide)
  have hcl : ∀ q, com r n q o < 2 ^ 31 := fun q => Nat.lt_of_lt_of_le (com_lt r n q o) (by omega)
  refine lv_aload_n hx hb dX6_needsObject_0 rfl (lv_at hl 0 rfl) ?_
  refine lv_iload_n hx hb dX6_needsObject_1 rfl (lv_at hl 1 rfl) ?_
  refine rd_V (As := [.int (nI j)]) (rest := []) ⟨hx, hb, hml, hown, hts⟩ (c_X6_row l D h0 fs h2 cI o r j f0 f2 (by assumption) (by assumption)) (cwV 1 hts gX6_needsObject_X6_row rfl rfl rfl (by decide +kernel) ⟨Nat.le_of_ble_eq_true rfl, Nat.le_of_ble_eq_true rfl⟩) (hP.sub (ws' := [(h0, .inr (5, fs)), (h2, .inl (cI, 20, .inl (fun i_ => nI (r i_))))]) [0, 1] rfl) (hK.sub (tys' := [(cI, .int)]) [0] rfl) (va_recv hK hP (ci := 5) (q0 := 0) rfl rfl) rfl rfl hl.1 rfl (lv_room (Nat.le_of_ble_eq_true rfl)) dX6_needsObject_2 ⟨Nat.le_of_ble_eq_true rfl, Nat.le_of_ble_eq_true rfl⟩ ?_
  refine lv_istore_n (lv' := [(2, .int (nI (r j))), (0, .ref h0), (1, .int (nI j))]) hx hb dX6_needsObject_5 rfl hl (by decide) rfl (fun ls hl => ?_)
  refine lv_iconst (v := 0) hx hb dX6_needsObject_6 (by decide) ?_
  refine lv_istore_n (lv' := [(3, .int (0 : Int32)), (2, .int (nI (r j))), (0, .ref h0), (1, .int (nI j))]) hx hb dX6_needsObject_7 rfl hl (by decide) rfl (fun ls hl => ?_)
  refine lv_iconst (v := 0) hx hb dX6_needsObject_8 (by decide) ?_
  refine lv_istore (lv' := [(4, .int (0 : Int32)), (3, .int (0 : Int32)), (2, .int (nI (r j))), (0, .ref h0), (1, .int (nI j))]) hx hb dX6_needsObject_9 hl (by decide) rfl (fun ls hl => ?_)
  have lp_11 : ∀ (n_ : Nat) (k : Nat), o - k < n_ → (k ≤ o) → ∀ (x4 : Int32), x4 = nI k → ∀ (x3 : Int32), x3 = nI (ndo r (r j) k) → ∀ (ls : Array Slot), lv_has ls 5 [(4, .int x4), (3, .int x3), (2, .int (nI (r j))), (0, .ref h0), (1, .int (nI j))] → W p l e (headSpec wsX6_needsObject ({ frames := 3, cells := 0, slots := 0, locals := 63 })).room s m ([.ref h0, .int (nI j)] : List Value).toArray below meth c s.heap [] 0 0 (MQ below (QcRead (b2 (decide (¬ com r n (ndo r (r j) o) o = r j)))) ([.ref h0, .int (nI j)] : List Value).toArray s 0 0 (fun _ => False)) (F0 m 11 ls []) := by
    intro n_
    induction n_ with
    | zero => intro k h0_; exact absurd h0_ (Nat.not_lt_zero _)
    | succ n_ ih_11 =>
      intro k hm_11 hk x4 e_x4 x3 e_x3 ls hl
      subst e_x4
      subst e_x3
      refine lv_iload hx hb dX6_needsObject_11 (lv_at hl 0 rfl) ?_
      refine lv_aload_n hx hb dX6_needsObject_13 rfl (lv_at hl 3 rfl) ?_
      refine va_get (D := D) (ci := 5) (v := .int (nI o)) (C := RX6) (T := TX6) (N := 3) hx hb hts (by decide +kernel) hown hK hP 0 rfl rfl 2 (by decide) (hts (.fieldLink RX6 19 "ConceptTable$Table" "size" "I") (by decide +kernel)) (fun _ h9 => h9) f2 dX6_needsObject_14 ?_
      refine lv_icmp_ge (tgt := 47) hx hb dX6_needsObject_17 (by decide) (fun c_17 => ?_) (fun c_17 => ?_)
      · have c_17 : o ≤ k := (nI_leI (a := o) (b := k) (by omega) (by omega)).mp c_17
        have hkn : k = o := by omega
        refine lv_aload_n hx hb dX6_needsObject_47 rfl (lv_at hl 3 rfl) ?_
        refine lv_iload_n hx hb dX6_needsObject_48 rfl (lv_at hl 1 rfl) ?_
        refine rd_V (As := [.int (nI (ndo r (r j) k))]) (rest := []) ⟨hx, hb, hml, hown, hts⟩ (c_X6_commonOf l D h0 fs h2 cI n o r (ndo r (r j) k) f0 f1 f2 hn ho (by rw [show k = o by omega]; exact Nat.lt_of_lt_of_le (ndo_lt _ _ _) (by omega))) (cwV 1 hts gX6_needsObject_X6_commonOf rfl rfl rfl (by decide +kernel) ⟨Nat.le_of_ble_eq_true rfl, Nat.le_of_ble_eq_true rfl⟩) (hP.sub (ws' := [(h0, .inr (5, fs)), (h2, .inl (cI, 20, .inl (fun i_ => nI (r i_))))]) [0, 1] rfl) (hK.sub (tys' := [(cI, .int)]) [0] rfl) (va_recv hK hP (ci := 5) (q0 := 0) rfl rfl) rfl rfl hl.1 rfl (lv_room (Nat.le_of_ble_eq_true rfl)) dX6_needsObject_49 ⟨Nat.le_of_ble_eq_true rfl, Nat.le_of_ble_eq_true rfl⟩ ?_
        refine lv_iload_n hx hb dX6_needsObject_52 rfl (lv_at hl 2 rfl) ?_
        refine lv_icmp_eq (tgt := 60) hx hb dX6_needsObject_53 (by decide) (fun c_53 => ?_) (fun c_53 => ?_)
        · have c_53 : (com r n (ndo r (r j) k) o) = (r j) := (nI_eq (a := (com r n (ndo r (r j) k) o)) (b := (r j)) (hcl _) (hrl _)).mp c_53
          refine lv_iconst (v := 0) hx hb dX6_needsObject_60 (by decide) ?_
          have e_ret : (0 : Int32) = (b2 (decide (¬ com r n (ndo r (r j) o) o = r j))) := by rw [hkn] at c_53; rw [decide_eq_false (fun z => z c_53)]; rfl
          exact W.zret (v := (0 : Int32)) hx hb hr rfl (fun t ht hW => ⟨congrArg (fun z_ => Outcome.returned (some (Value.int z_))) e_ret, ht⟩) (fun q h => by cases h) dX6_needsObject_61
        · have c_53 : ¬ (com r n (ndo r (r j) k) o) = (r j) := fun h_ => c_53 ((nI_eq (a := (com r n (ndo r (r j) k) o)) (b := (r j)) (hcl _) (hrl _)).mpr h_)
          refine lv_iconst (v := 1) hx hb dX6_needsObject_56 (by decide) ?_
          refine lv_goto (tgt := 61) hx hb dX6_needsObject_57 (by decide) ?_
          have e_ret : (1 : Int32) = (b2 (decide (¬ com r n (ndo r (r j) o) o = r j))) := by rw [hkn] at c_53; rw [decide_eq_true c_53]; rfl
          exact W.zret (v := (1 : Int32)) hx hb hr rfl (fun t ht hW => ⟨congrArg (fun z_ => Outcome.returned (some (Value.int z_))) e_ret, ht⟩) (fun q h => by cases h) dX6_needsObject_61
      · have c_17 : k < o := Nat.lt_of_not_le (fun h_ => c_17 ((nI_leI (a := o) (b := k) (by omega) (by omega)).mpr h_))
        refine lv_aload_n hx hb dX6_needsObject_20 rfl (lv_at hl 3 rfl) ?_
        refine va_get (D := D) (ci := 5) (v := .ref h2) (C := RX6) (T := TX6) (N := 3) hx hb hts (by decide +kernel) hown hK hP 0 rfl rfl 0 (by decide) (hts (.fieldLink RX6 9 "ConceptTable$Table" "rows" "[I") (by decide +kernel)) (fun _ h9 => h9) f0 dX6_needsObject_21 ?_
        refine lv_iload hx hb dX6_needsObject_24 (lv_at hl 0 rfl) ?_
        refine va_iald hx hb hK hP 1 0 rfl rfl (vp_in_nI (by omega) (by omega)) dX6_needsObject_26 ?_
        refine lv_re (y := (nI (r k))) (by rw [nI_clamp (by omega)]) ?_
        refine lv_iload_n hx hb dX6_needsObject_27 rfl (lv_at hl 2 rfl) ?_
        refine rd_S (As := [.int (nI (r k)), .int (nI (r j))]) (rest := []) ⟨hx, hb, hml, hown, hts⟩ (c_X5_hasAllAndMore l D (r k) (r j) (hrl _) (hrl _)) (va_cwS 2 hts gX6_needsObject_X5_hasAllAndMore rfl rfl rfl (by decide +kernel) ⟨Nat.le_of_ble_eq_true rfl, Nat.le_of_ble_eq_true rfl⟩) (hP.sub (ws' := []) [] rfl) (hK.sub (tys' := []) [] rfl) rfl rfl hl.1 rfl (lv_room (Nat.le_of_ble_eq_true rfl)) dX6_needsObject_28 ⟨Nat.le_of_ble_eq_true rfl, Nat.le_of_ble_eq_true rfl⟩ ?_
        refine lv_if_eq (tgt := 41) hx hb dX6_needsObject_31 (by decide) (fun c_31 => ?_) (fun c_31 => ?_)
        · have c_31 := b2_0.mp c_31
          refine lv_iinc (v := (nI (k + 1))) (lv' := [(4, .int (nI (k + 1))), (3, .int (nI (ndo r (r j) k))), (2, .int (nI (r j))), (0, .ref h0), (1, .int (nI j))]) hx hb dX6_needsObject_41 hl (k := 0) rfl (nI_add _ 1) (by decide) rfl (fun ls hl => ?_)
          refine lv_goto (tgt := 11) hx hb dX6_needsObject_44 (by decide) ?_
          exact ih_11 (k + 1) (by omega) (by omega) _ rfl _ (by rw [ndo, if_neg (fun z => by rw [decide_eq_true z.1, z.2] at c_31; exact Bool.noConfusion c_31)]) _ (lv_sub hl [0, 1, 2, 3, 4] rfl)
        · have c_31 := b2_n0.mp c_31
          refine lv_iload_n hx hb dX6_needsObject_34 rfl (lv_at hl 1 rfl) ?_
          refine lv_iconst (v := 1) hx hb dX6_needsObject_35 (by decide) ?_
          refine lv_iload hx hb dX6_needsObject_36 (lv_at hl 0 rfl) ?_
          refine lv_ishl hx hb dX6_needsObject_38 ?_
          refine lv_re (y := (nI (2 ^ k))) (nx_sh1 (k := k) (by omega)) ?_
          refine lv_ior hx hb dX6_needsObject_39 ?_
          refine lv_re (y := (nI ((ndo r (r j) k) ||| (2 ^ k)))) (nx_or (ndo r (r j) k) (2 ^ k)) ?_
          refine lv_istore_n (lv' := [(3, .int (nI ((ndo r (r j) k) ||| (2 ^ k)))), (4, .int (nI k)), (2, .int (nI (r j))), (0, .ref h0), (1, .int (nI j))]) hx hb dX6_needsObject_40 rfl hl (by decide) rfl (fun ls hl => ?_)
          refine lv_iinc (v := (nI (k + 1))) (lv' := [(4, .int (nI (k + 1))), (3, .int (nI ((ndo r (r j) k) ||| (2 ^ k)))), (2, .int (nI (r j))), (0, .ref h0), (1, .int (nI j))]) hx hb dX6_needsObject_41 hl (k := 1) rfl (nI_add _ 1) (by decide) rfl (fun ls hl => ?_)
          refine lv_goto (tgt := 11) hx hb dX6_needsObject_44 (by decide) ?_
          exact ih_11 (k + 1) (by omega) (by omega) _ rfl _ (by rw [Bool.and_eq_true, decide_eq_true_iff] at c_31; rw [ndo, if_pos c_31]) _ (lv_sub hl [0, 1, 2, 3, 4] rfl)
  exact lp_11 _ 0 (Nat.lt_succ_self _) (Nat.zero_le _) _ rfl _ rfl _ (lv_sub hl [0, 1, 2, 3, 4] rfl)

set_option maxHeartbeats 4000000 in
set_option maxRecDepth 100000 in
theorem c_X6_restart (l : Launch) (D : va_G) (sz : Nat) (h0 : Nat) (h2 : Nat) (n : Nat) (o : Nat) (a : Nat)  : Met l yX6_restart wsX6_restart ({ frames := 0, cells := 0, slots := 0, locals := 0 }) (va_Pc [.ref h0, .int (nI a)] (fun U => U.heap.size = sz ∧ va_P D vwCl [(h0, .inr (5, [.ref h2, .int (nI n), .int (nI o)]))] U.heap ∧ va_K D vwCl [] U ∧ va_D (fun _ => True) [(h0, .inr (5, [.ref h2, .int (nI n), .int (nI o)]))])) (muQ none D vwCl [(h0, .inr (5, [.ref h2, .int (nI a), .int (nI 0)]))] (va_A [(h0, .inr (5, [.ref h2, .int (nI n), .int (nI o)]))] sz)) 0 0 (va_A [(h0, .inr (5, [.ref h2, .int (nI n), .int (nI o)]))] sz) := by
  refine Met.ofW (cc := cX6_restart) (maxL := 2) (ret := none) (by decide) rfl ?_
  intro p e s m args below meth c s₁ B hml hv
  obtain ⟨rfl, hsz, hP, hK, hD0⟩ := hv
  have hx := B.exec
  have hb := B.bytes
  have hr := B.returns
  have hts := atoms_spec (ws := wsX6_restart) B.pre
  have hown : s.vm.findClass RX6 = some m.cls := findClass_of_methodNamed B.named
  have hlocks := B.notSynchronized
  subst hsz
  have hD := hD0.self (sz := s.heap.size)
  generalize hAe : va_A [(h0, .inr (5, [.ref h2, .int (nI n), .int (nI o)]))] s.heap.size = A at hD ⊢
  have hA : ∀ q : Nat, s.heap.size ≤ q → A q := fun q h => by rw [← hAe]; exact Or.inr h
  have hS : va_S A s.heap s.heap [] := va_S.rf
  have hl := lv_entry ([.ref h0, .int (nI a)]) (n := 2) (Nat.le_of_ble_eq_true rfl)
  rw [lg_entry_eq]
  generalize (lg_sl ([.ref h0, .int (nI a)]) ++ List.replicate (2 - (lg_sl ([.ref h0, .int (nI a)])).length) Slot.unset).toArray = ls at hl ⊢
  have hl : lv_has ls 2 [(0, .ref h0), (1, .int (nI a))] := hl
  refine lv_aload_n hx hb dX6_restart_0 rfl (lv_at hl 0 rfl) ?_
  refine lv_iload_n hx hb dX6_restart_1 rfl (lv_at hl 1 rfl) ?_
  refine va_put (D := D) (ci := 5) (v := .int (nI a)) (ty := .int) (C := RX6) (T := TX6) (N := 3) hx hb hts (by decide +kernel) tyX6 tyX6_ok nmX6 hown hK hP hD hS 0 rfl rfl 1 (by decide) (hts (.fieldLink RX6 15 "ConceptTable$Table" "attributes" "I") (by decide +kernel)) (fun _ h9 => h9) rfl (by decide +kernel) rfl rfl (Nat.le_of_ble_eq_true rfl) dX6_restart_2 (fun H locs hP hD hS => ?_)
  have hP : va_P D vwCl [(h0, .inr (5, [.ref h2, .int (nI a), .int (nI o)]))] H := hP
  have hD : va_D A [(h0, .inr (5, [.ref h2, .int (nI a), .int (nI o)]))] := hD
  refine lv_aload_n hx hb dX6_restart_5 rfl (lv_at hl 0 rfl) ?_
  refine lv_iconst (v := 0) hx hb dX6_restart_6 (by decide) ?_
  refine va_put (D := D) (ci := 5) (v := .int (0 : Int32)) (ty := .int) (C := RX6) (T := TX6) (N := 3) hx hb hts (by decide +kernel) tyX6 tyX6_ok nmX6 hown hK hP hD hS 0 rfl rfl 2 (by decide) (hts (.fieldLink RX6 19 "ConceptTable$Table" "size" "I") (by decide +kernel)) (fun _ h9 => h9) rfl (by decide +kernel) rfl rfl (Nat.le_of_ble_eq_true rfl) dX6_restart_7 (fun H locs hP hD hS => ?_)
  have hP : va_P D vwCl [(h0, .inr (5, [.ref h2, .int (nI a), .int (0 : Int32)]))] H := hP
  have hD : va_D A [(h0, .inr (5, [.ref h2, .int (nI a), .int (0 : Int32)]))] := hD
  have hP := hP.sub (ws' := [(h0, .inr (5, [.ref h2, .int (nI a), .int (0 : Int32)]))]) [0] rfl
  have hD := hD.sub (ws' := [(h0, .inr (5, [.ref h2, .int (nI a), .int (0 : Int32)]))]) [0] (by decide) rfl
  have hP : va_P D vwCl [(h0, .inr (5, [.ref h2, .int (nI a), .int (nI 0)]))] H := by exact hP
  have hD : va_D A [(h0, .inr (5, [.ref h2, .int (nI a), .int (nI 0)]))] := by exact hD
  exact W.vret hx hb hr (fun t ht hW => ⟨⟨rfl, by rw [ht]; exact hP, hD⟩, hS.F ht⟩) hS.2.2 dX6_restart_10

set_option maxHeartbeats 4000000 in
set_option maxRecDepth 100000 in
theorem c_X6_append (l : Launch) (D : va_G) (sz : Nat) (h0 : Nat) (h2 : Nat) (n : Nat) (o : Nat) (cI : ClassId) (r : Nat → Nat) (q : Nat) (ho : o < 20) : Met l yX6_append wsX6_append ({ frames := 1, cells := 0, slots := 0, locals := 20 }) (va_Pc [.ref h0, .int (nI q)] (fun U => U.heap.size = sz ∧ va_P D vwCl [(h0, .inr (5, [.ref h2, .int (nI n), .int (nI o)])), (h2, .inl (cI, 20, .inl (fun i_ => nI (r i_))))] U.heap ∧ va_K D vwCl [(cI, .int)] U ∧ va_D (fun _ => True) [(h0, .inr (5, [.ref h2, .int (nI n), .int (nI o)])), (h2, .inl (cI, 20, .inl (fun i_ => nI (r i_))))])) (muQ (some (.int (nI o))) D vwCl [(h0, .inr (5, [.ref h2, .int (nI n), .int (nI (o + 1))])), (h2, .inl (cI, 20, .inl (fun i_ => nI ((va_up r o q) i_))))] (va_A [(h0, .inr (5, [.ref h2, .int (nI n), .int (nI o)])), (h2, .inl (cI, 20, .inl (fun i_ => nI (r i_))))] sz)) 0 0 (va_A [(h0, .inr (5, [.ref h2, .int (nI n), .int (nI o)])), (h2, .inl (cI, 20, .inl (fun i_ => nI (r i_))))] sz) := by
  refine Met.ofW (cc := cX6_append) (maxL := 2) (ret := (some .int)) (by decide) rfl ?_
  intro p e s m args below meth c s₁ B hml hv
  obtain ⟨rfl, hsz, hP, hK, hD0⟩ := hv
  have hx := B.exec
  have hb := B.bytes
  have hr := B.returns
  have hts := atoms_spec (ws := wsX6_append) B.pre
  have hown : s.vm.findClass RX6 = some m.cls := findClass_of_methodNamed B.named
  have hlocks := B.notSynchronized
  subst hsz
  have hD := hD0.self (sz := s.heap.size)
  generalize hAe : va_A [(h0, .inr (5, [.ref h2, .int (nI n), .int (nI o)])), (h2, .inl (cI, 20, .inl (fun i_ => nI (r i_))))] s.heap.size = A at hD ⊢
  have hA : ∀ q : Nat, s.heap.size ≤ q → A q := fun q h => by rw [← hAe]; exact Or.inr h
  have hS : va_S A s.heap s.heap [] := va_S.rf
  have hl := lv_entry ([.ref h0, .int (nI q)]) (n := 2) (Nat.le_of_ble_eq_true rfl)
  rw [lg_entry_eq]
  generalize (lg_sl ([.ref h0, .int (nI q)]) ++ List.replicate (2 - (lg_sl ([.ref h0, .int (nI q)])).length) Slot.unset).toArray = ls at hl ⊢
  have hl : lv_has ls 2 [(0, .ref h0), (1, .int (nI q))] := hl
  refine lv_aload_n hx hb dX6_append_0 rfl (lv_at hl 0 rfl) ?_
  refine rd_V (As := []) (rest := []) ⟨hx, hb, hml, hown, hts⟩ (c_X6_isFull l D h0 ([.ref h2, .int (nI n), .int (nI o)]) h2 cI o r rfl rfl (by omega)) (cwV 0 hts gX6_append_X6_isFull rfl rfl rfl (by decide +kernel) ⟨Nat.le_of_ble_eq_true rfl, Nat.le_of_ble_eq_true rfl⟩) (hP.sub (ws' := [(h0, .inr (5, [.ref h2, .int (nI n), .int (nI o)])), (h2, .inl (cI, 20, .inl (fun i_ => nI (r i_))))]) [0, 1] rfl) (hK.sub (tys' := [(cI, .int)]) [0] rfl) (va_recv hK hP (ci := 5) (q0 := 0) rfl rfl) rfl rfl hl.1 rfl (lv_room (Nat.le_of_ble_eq_true rfl)) dX6_append_1 ⟨Nat.le_of_ble_eq_true rfl, Nat.le_of_ble_eq_true rfl⟩ ?_
  refine lv_if_eq (tgt := 10) hx hb dX6_append_4 (by decide) (fun c_4 => ?_) (fun c_4 => ?_)
  · have c_4 := b2_0.mp c_4
    refine lv_aload_n hx hb dX6_append_10 rfl (lv_at hl 0 rfl) ?_
    refine va_get (D := D) (ci := 5) (v := .ref h2) (C := RX6) (T := TX6) (N := 3) hx hb hts (by decide +kernel) hown hK hP 0 rfl rfl 0 (by decide) (hts (.fieldLink RX6 9 "ConceptTable$Table" "rows" "[I") (by decide +kernel)) (fun _ h9 => h9) rfl dX6_append_11 ?_
    refine lv_aload_n hx hb dX6_append_14 rfl (lv_at hl 0 rfl) ?_
    refine va_get (D := D) (ci := 5) (v := .int (nI o)) (C := RX6) (T := TX6) (N := 3) hx hb hts (by decide +kernel) hown hK hP 0 rfl rfl 2 (by decide) (hts (.fieldLink RX6 19 "ConceptTable$Table" "size" "I") (by decide +kernel)) (fun _ h9 => h9) rfl dX6_append_15 ?_
    refine lv_iload_n hx hb dX6_append_18 rfl (lv_at hl 1 rfl) ?_
    refine va_iast hx hb hK hP hD hS 1 0 rfl rfl (vp_in_nI (by omega) (by omega)) dX6_append_19 (fun H locs hP hD hS => ?_)
    have e_up : (upd (fun i_ => nI (r i_)) ((nI o)).toNatClampNeg (nI q)) = (fun i_ => nI ((va_up r o q) i_)) := by rw [show ((nI o)).toNatClampNeg = o from nI_clamp (by omega)]; exact up_nI r o q
    have hP : va_P D vwCl [(h0, .inr (5, [.ref h2, .int (nI n), .int (nI o)])), (h2, .inl (cI, 20, .inl (fun i_ => nI ((va_up r o q) i_))))] H := by rw [← e_up]; exact hP
    have hD : va_D A [(h0, .inr (5, [.ref h2, .int (nI n), .int (nI o)])), (h2, .inl (cI, 20, .inl (fun i_ => nI ((va_up r o q) i_))))] := by rw [← e_up]; exact hD
    clear e_up
    refine lv_aload_n hx hb dX6_append_20 rfl (lv_at hl 0 rfl) ?_
    refine lv_dup hx hb dX6_append_21 rfl ?_
    refine va_get (D := D) (ci := 5) (v := .int (nI o)) (C := RX6) (T := TX6) (N := 3) hx hb hts (by decide +kernel) hown hK hP 0 rfl rfl 2 (by decide) (hts (.fieldLink RX6 19 "ConceptTable$Table" "size" "I") (by decide +kernel)) (fun _ h9 => h9) rfl dX6_append_22 ?_
    refine lv_iconst (v := 1) hx hb dX6_append_25 (by decide) ?_
    refine lv_iadd hx hb dX6_append_26 ?_
    refine lv_re (y := (nI (o + 1))) (nI_add o 1) ?_
    refine va_put (D := D) (ci := 5) (v := .int (nI (o + 1))) (ty := .int) (C := RX6) (T := TX6) (N := 3) hx hb hts (by decide +kernel) tyX6 tyX6_ok nmX6 hown hK hP hD hS 0 rfl rfl 2 (by decide) (hts (.fieldLink RX6 19 "ConceptTable$Table" "size" "I") (by decide +kernel)) (fun _ h9 => h9) rfl (by decide +kernel) rfl rfl (Nat.le_of_ble_eq_true rfl) dX6_append_27 (fun H locs hP hD hS => ?_)
    have hP : va_P D vwCl [(h0, .inr (5, [.ref h2, .int (nI n), .int (nI (o + 1))])), (h2, .inl (cI, 20, .inl (fun i_ => nI ((va_up r o q) i_))))] H := hP
    have hD : va_D A [(h0, .inr (5, [.ref h2, .int (nI n), .int (nI (o + 1))])), (h2, .inl (cI, 20, .inl (fun i_ => nI ((va_up r o q) i_))))] := hD
    refine lv_aload_n hx hb dX6_append_30 rfl (lv_at hl 0 rfl) ?_
    refine va_get (D := D) (ci := 5) (v := .int (nI (o + 1))) (C := RX6) (T := TX6) (N := 3) hx hb hts (by decide +kernel) hown hK hP 0 rfl rfl 2 (by decide) (hts (.fieldLink RX6 19 "ConceptTable$Table" "size" "I") (by decide +kernel)) (fun _ h9 => h9) rfl dX6_append_31 ?_
    refine lv_iconst (v := 1) hx hb dX6_append_34 (by decide) ?_
    refine lv_isub hx hb dX6_append_35 ?_
    refine lv_re (y := (nI ((o + 1) - 1))) (pk_sub (a := (o + 1)) (b := 1) (by omega)) ?_
    have e_ret : (nI ((o + 1) - 1)) = (nI o) := by rw [Nat.add_sub_cancel]
    have hP := hP.sub (ws' := [(h0, .inr (5, [.ref h2, .int (nI n), .int (nI (o + 1))])), (h2, .inl (cI, 20, .inl (fun i_ => nI ((va_up r o q) i_))))]) [0, 1] rfl
    have hD := hD.sub (ws' := [(h0, .inr (5, [.ref h2, .int (nI n), .int (nI (o + 1))])), (h2, .inl (cI, 20, .inl (fun i_ => nI ((va_up r o q) i_))))]) [0, 1] (by decide) rfl
    have hP : va_P D vwCl [(h0, .inr (5, [.ref h2, .int (nI n), .int (nI (o + 1))])), (h2, .inl (cI, 20, .inl (fun i_ => nI ((va_up r o q) i_))))] H := by exact hP
    have hD : va_D A [(h0, .inr (5, [.ref h2, .int (nI n), .int (nI (o + 1))])), (h2, .inl (cI, 20, .inl (fun i_ => nI ((va_up r o q) i_))))] := by exact hD
    exact W.iret (v := (nI ((o + 1) - 1))) hx hb hr (fun t ht hW => ⟨⟨congrArg (fun z_ => Outcome.returned (some (Value.int z_))) e_ret, by rw [ht]; exact hP, hD⟩, hS.F ht⟩) hS.2.2 dX6_append_36
  · have c_4 := b2_n0.mp c_4
    exact absurd c_4 (by rw [decide_eq_false (by omega)]; decide)

set_option maxHeartbeats 4000000 in
set_option maxRecDepth 100000 in
theorem c_X6_takeOut (l : Launch) (D : va_G) (sz : Nat) (h0 : Nat) (h2 : Nat) (n : Nat) (o : Nat) (cI : ClassId) (r : Nat → Nat) (j : Nat) (hj : j < o) (ho : o ≤ 20) : Met l yX6_takeOut wsX6_takeOut ({ frames := 1, cells := 0, slots := 0, locals := 21 }) (va_Pc [.ref h0, .int (nI j)] (fun U => U.heap.size = sz ∧ va_P D vwCl [(h0, .inr (5, [.ref h2, .int (nI n), .int (nI o)])), (h2, .inl (cI, 20, .inl (fun i_ => nI (r i_))))] U.heap ∧ va_K D vwCl [(cI, .int)] U ∧ va_D (fun _ => True) [(h0, .inr (5, [.ref h2, .int (nI n), .int (nI o)])), (h2, .inl (cI, 20, .inl (fun i_ => nI (r i_))))])) (muQ (some (.int (nI (r j)))) D vwCl [(h0, .inr (5, [.ref h2, .int (nI n), .int (nI (o - 1))])), (h2, .inl (cI, 20, .inl (fun i_ => nI ((rem_ r j (o - 1)) i_))))] (va_A [(h0, .inr (5, [.ref h2, .int (nI n), .int (nI o)])), (h2, .inl (cI, 20, .inl (fun i_ => nI (r i_))))] sz)) 0 0 (va_A [(h0, .inr (5, [.ref h2, .int (nI n), .int (nI o)])), (h2, .inl (cI, 20, .inl (fun i_ => nI (r i_))))] sz) := by
  refine Met.ofW (cc := cX6_takeOut) (maxL := 4) (ret := (some .int)) (by decide) rfl ?_
  intro p e s m args below meth c s₁ B hml hv
  obtain ⟨rfl, hsz, hP, hK, hD0⟩ := hv
  have hx := B.exec
  have hb := B.bytes
  have hr := B.returns
  have hts := atoms_spec (ws := wsX6_takeOut) B.pre
  have hown : s.vm.findClass RX6 = some m.cls := findClass_of_methodNamed B.named
  have hlocks := B.notSynchronized
  subst hsz
  have hD := hD0.self (sz := s.heap.size)
  generalize hAe : va_A [(h0, .inr (5, [.ref h2, .int (nI n), .int (nI o)])), (h2, .inl (cI, 20, .inl (fun i_ => nI (r i_))))] s.heap.size = A at hD ⊢
  have hA : ∀ q : Nat, s.heap.size ≤ q → A q := fun q h => by rw [← hAe]; exact Or.inr h
  have hS : va_S A s.heap s.heap [] := va_S.rf
  have hl := lv_entry ([.ref h0, .int (nI j)]) (n := 4) (Nat.le_of_ble_eq_true rfl)
  rw [lg_entry_eq]
  generalize (lg_sl ([.ref h0, .int (nI j)]) ++ List.replicate (4 - (lg_sl ([.ref h0, .int (nI j)])).length) Slot.unset).toArray = ls at hl ⊢
  have hl : lv_has ls 4 [(0, .ref h0), (1, .int (nI j))] := hl
  refine lv_aload_n hx hb dX6_takeOut_0 rfl (lv_at hl 0 rfl) ?_
  refine lv_iload_n hx hb dX6_takeOut_1 rfl (lv_at hl 1 rfl) ?_
  refine rd_V (As := [.int (nI j)]) (rest := []) ⟨hx, hb, hml, hown, hts⟩ (c_X6_isObject l D h0 ([.ref h2, .int (nI n), .int (nI o)]) o (nI j) rfl) (cwV 1 hts gX6_takeOut_X6_isObject rfl rfl rfl (by decide +kernel) ⟨Nat.le_of_ble_eq_true rfl, Nat.le_of_ble_eq_true rfl⟩) (hP.sub (ws' := [(h0, .inr (5, [.ref h2, .int (nI n), .int (nI o)]))]) [0] rfl) (hK.sub (tys' := []) [] rfl) (va_recv hK hP (ci := 5) (q0 := 0) rfl rfl) rfl rfl hl.1 rfl (lv_room (Nat.le_of_ble_eq_true rfl)) dX6_takeOut_2 ⟨Nat.le_of_ble_eq_true rfl, Nat.le_of_ble_eq_true rfl⟩ ?_
  refine lv_if_ne (tgt := 11) hx hb dX6_takeOut_5 (by decide) (fun c_5 => ?_) (fun c_5 => ?_)
  · have c_5 := b2_n0.mp c_5
    refine lv_aload_n hx hb dX6_takeOut_11 rfl (lv_at hl 0 rfl) ?_
    refine va_get (D := D) (ci := 5) (v := .ref h2) (C := RX6) (T := TX6) (N := 3) hx hb hts (by decide +kernel) hown hK hP 0 rfl rfl 0 (by decide) (hts (.fieldLink RX6 9 "ConceptTable$Table" "rows" "[I") (by decide +kernel)) (fun _ h9 => h9) rfl dX6_takeOut_12 ?_
    refine lv_iload_n hx hb dX6_takeOut_15 rfl (lv_at hl 1 rfl) ?_
    refine va_iald hx hb hK hP 1 0 rfl rfl (vp_in_nI (by omega) (by omega)) dX6_takeOut_16 ?_
    refine lv_re (y := (nI (r j))) (by rw [nI_clamp (by omega)]) ?_
    refine lv_istore_n (lv' := [(2, .int (nI (r j))), (0, .ref h0), (1, .int (nI j))]) hx hb dX6_takeOut_17 rfl hl (by decide) rfl (fun ls hl => ?_)
    refine lv_iload_n hx hb dX6_takeOut_18 rfl (lv_at hl 2 rfl) ?_
    refine lv_iconst (v := 1) hx hb dX6_takeOut_19 (by decide) ?_
    refine lv_iadd hx hb dX6_takeOut_20 ?_
    refine lv_re (y := (nI (j + 1))) (nI_add j 1) ?_
    refine lv_istore_n (lv' := [(3, .int (nI (j + 1))), (2, .int (nI (r j))), (0, .ref h0), (1, .int (nI j))]) hx hb dX6_takeOut_21 rfl hl (by decide) rfl (fun ls hl => ?_)
    have lp_22 : ∀ (n_ : Nat) (k : Nat), o - k < n_ → (j < k) → (k ≤ o) → ∀ (x3 : Int32), x3 = nI k → ∀ (H : Heap) (locs : List Loc), va_P D vwCl [(h0, .inr (5, [.ref h2, .int (nI n), .int (nI o)])), (h2, .inl (cI, 20, .inl (fun i_ => nI ((rem_ r j (k - 1)) i_))))] H → va_D A [(h0, .inr (5, [.ref h2, .int (nI n), .int (nI o)])), (h2, .inl (cI, 20, .inl (fun i_ => nI ((rem_ r j (k - 1)) i_))))] → va_S A s.heap H locs → ∀ (ls : Array Slot), lv_has ls 4 [(3, .int x3), (2, .int (nI (r j))), (0, .ref h0), (1, .int (nI j))] → W p l e (headSpec wsX6_takeOut ({ frames := 1, cells := 0, slots := 0, locals := 21 })).room s m ([.ref h0, .int (nI j)] : List Value).toArray below meth c H locs 0 0 (MQ below (muQ (some (.int (nI (r j)))) D vwCl [(h0, .inr (5, [.ref h2, .int (nI n), .int (nI (o - 1))])), (h2, .inl (cI, 20, .inl (fun i_ => nI ((rem_ r j (o - 1)) i_))))] A) ([.ref h0, .int (nI j)] : List Value).toArray s 0 0 A) (F0 m 22 ls []) := by
      intro n_
      induction n_ with
      | zero => intro k h0_; exact absurd h0_ (Nat.not_lt_zero _)
      | succ n_ ih_22 =>
        intro k hm_22 hk1 hk2 x3 e_x3 H locs hP hD hS ls hl
        subst e_x3
        refine lv_iload_n hx hb dX6_takeOut_22 rfl (lv_at hl 0 rfl) ?_
        refine lv_aload_n hx hb dX6_takeOut_23 rfl (lv_at hl 2 rfl) ?_
        refine va_get (D := D) (ci := 5) (v := .int (nI o)) (C := RX6) (T := TX6) (N := 3) hx hb hts (by decide +kernel) hown hK hP 0 rfl rfl 2 (by decide) (hts (.fieldLink RX6 19 "ConceptTable$Table" "size" "I") (by decide +kernel)) (fun _ h9 => h9) rfl dX6_takeOut_24 ?_
        refine lv_icmp_ge (tgt := 50) hx hb dX6_takeOut_27 (by decide) (fun c_27 => ?_) (fun c_27 => ?_)
        · have c_27 : o ≤ k := (nI_leI (a := o) (b := k) (by omega) (by omega)).mp c_27
          refine lv_aload_n hx hb dX6_takeOut_50 rfl (lv_at hl 2 rfl) ?_
          refine lv_dup hx hb dX6_takeOut_51 rfl ?_
          refine va_get (D := D) (ci := 5) (v := .int (nI o)) (C := RX6) (T := TX6) (N := 3) hx hb hts (by decide +kernel) hown hK hP 0 rfl rfl 2 (by decide) (hts (.fieldLink RX6 19 "ConceptTable$Table" "size" "I") (by decide +kernel)) (fun _ h9 => h9) rfl dX6_takeOut_52 ?_
          refine lv_iconst (v := 1) hx hb dX6_takeOut_55 (by decide) ?_
          refine lv_isub hx hb dX6_takeOut_56 ?_
          refine lv_re (y := (nI (o - 1))) (pk_sub (a := o) (b := 1) (by omega)) ?_
          refine va_put (D := D) (ci := 5) (v := .int (nI (o - 1))) (ty := .int) (C := RX6) (T := TX6) (N := 3) hx hb hts (by decide +kernel) tyX6 tyX6_ok nmX6 hown hK hP hD hS 0 rfl rfl 2 (by decide) (hts (.fieldLink RX6 19 "ConceptTable$Table" "size" "I") (by decide +kernel)) (fun _ h9 => h9) rfl (by decide +kernel) rfl rfl (Nat.le_of_ble_eq_true rfl) dX6_takeOut_57 (fun H locs hP hD hS => ?_)
          have hP : va_P D vwCl [(h0, .inr (5, [.ref h2, .int (nI n), .int (nI (o - 1))])), (h2, .inl (cI, 20, .inl (fun i_ => nI ((rem_ r j (k - 1)) i_))))] H := hP
          have hD : va_D A [(h0, .inr (5, [.ref h2, .int (nI n), .int (nI (o - 1))])), (h2, .inl (cI, 20, .inl (fun i_ => nI ((rem_ r j (k - 1)) i_))))] := hD
          refine lv_iload_n hx hb dX6_takeOut_60 rfl (lv_at hl 1 rfl) ?_
          have e_ret : (nI (r j)) = (nI (r j)) := by rfl
          have hP := hP.sub (ws' := [(h0, .inr (5, [.ref h2, .int (nI n), .int (nI (o - 1))])), (h2, .inl (cI, 20, .inl (fun i_ => nI ((rem_ r j (k - 1)) i_))))]) [0, 1] rfl
          have hD := hD.sub (ws' := [(h0, .inr (5, [.ref h2, .int (nI n), .int (nI (o - 1))])), (h2, .inl (cI, 20, .inl (fun i_ => nI ((rem_ r j (k - 1)) i_))))]) [0, 1] (by decide) rfl
          have e_w1 : (rem_ r j (k - 1)) = (rem_ r j (o - 1)) := by rw [show k = o by omega]
          have hP : va_P D vwCl [(h0, .inr (5, [.ref h2, .int (nI n), .int (nI (o - 1))])), (h2, .inl (cI, 20, .inl (fun i_ => nI ((rem_ r j (o - 1)) i_))))] H := by rw [← e_w1]; exact hP
          have hD : va_D A [(h0, .inr (5, [.ref h2, .int (nI n), .int (nI (o - 1))])), (h2, .inl (cI, 20, .inl (fun i_ => nI ((rem_ r j (o - 1)) i_))))] := by rw [← e_w1]; exact hD
          exact W.iret (v := (nI (r j))) hx hb hr (fun t ht hW => ⟨⟨congrArg (fun z_ => Outcome.returned (some (Value.int z_))) e_ret, by rw [ht]; exact hP, hD⟩, hS.F ht⟩) hS.2.2 dX6_takeOut_61
        · have c_27 : k < o := Nat.lt_of_not_le (fun h_ => c_27 ((nI_leI (a := o) (b := k) (by omega) (by omega)).mpr h_))
          refine lv_aload_n hx hb dX6_takeOut_30 rfl (lv_at hl 2 rfl) ?_
          refine va_get (D := D) (ci := 5) (v := .ref h2) (C := RX6) (T := TX6) (N := 3) hx hb hts (by decide +kernel) hown hK hP 0 rfl rfl 0 (by decide) (hts (.fieldLink RX6 9 "ConceptTable$Table" "rows" "[I") (by decide +kernel)) (fun _ h9 => h9) rfl dX6_takeOut_31 ?_
          refine lv_iload_n hx hb dX6_takeOut_34 rfl (lv_at hl 0 rfl) ?_
          refine lv_iconst (v := 1) hx hb dX6_takeOut_35 (by decide) ?_
          refine lv_isub hx hb dX6_takeOut_36 ?_
          refine lv_re (y := (nI (k - 1))) (pk_sub (a := k) (b := 1) (by omega)) ?_
          refine lv_aload_n hx hb dX6_takeOut_37 rfl (lv_at hl 2 rfl) ?_
          refine va_get (D := D) (ci := 5) (v := .ref h2) (C := RX6) (T := TX6) (N := 3) hx hb hts (by decide +kernel) hown hK hP 0 rfl rfl 0 (by decide) (hts (.fieldLink RX6 9 "ConceptTable$Table" "rows" "[I") (by decide +kernel)) (fun _ h9 => h9) rfl dX6_takeOut_38 ?_
          refine lv_iload_n hx hb dX6_takeOut_41 rfl (lv_at hl 0 rfl) ?_
          refine va_iald hx hb hK hP 1 0 rfl rfl (vp_in_nI (by omega) (by omega)) dX6_takeOut_42 ?_
          refine lv_re (y := (nI ((rem_ r j (k - 1)) k))) (by rw [nI_clamp (by omega)]) ?_
          refine va_iast hx hb hK hP hD hS 1 0 rfl rfl (vp_in_nI (by omega) (by omega)) dX6_takeOut_43 (fun H locs hP hD hS => ?_)
          have e_up : (upd (fun i_ => nI ((rem_ r j (k - 1)) i_)) ((nI (k - 1))).toNatClampNeg (nI ((rem_ r j (k - 1)) k))) = (fun i_ => nI ((va_up (rem_ r j (k - 1)) (k - 1) ((rem_ r j (k - 1)) k)) i_)) := by rw [show ((nI (k - 1))).toNatClampNeg = (k - 1) from nI_clamp (by omega)]; exact up_nI (rem_ r j (k - 1)) (k - 1) ((rem_ r j (k - 1)) k)
          have hP : va_P D vwCl [(h0, .inr (5, [.ref h2, .int (nI n), .int (nI o)])), (h2, .inl (cI, 20, .inl (fun i_ => nI ((va_up (rem_ r j (k - 1)) (k - 1) ((rem_ r j (k - 1)) k)) i_))))] H := by rw [← e_up]; exact hP
          have hD : va_D A [(h0, .inr (5, [.ref h2, .int (nI n), .int (nI o)])), (h2, .inl (cI, 20, .inl (fun i_ => nI ((va_up (rem_ r j (k - 1)) (k - 1) ((rem_ r j (k - 1)) k)) i_))))] := by rw [← e_up]; exact hD
          clear e_up
          refine lv_iinc (v := (nI (k + 1))) (lv' := [(3, .int (nI (k + 1))), (2, .int (nI (r j))), (0, .ref h0), (1, .int (nI j))]) hx hb dX6_takeOut_44 hl (k := 0) rfl (nI_add _ 1) (by decide) rfl (fun ls hl => ?_)
          refine lv_goto (tgt := 22) hx hb dX6_takeOut_47 (by decide) ?_
          rw [show va_up (rem_ r j (k - 1)) (k - 1) (rem_ r j (k - 1) k) = rem_ r j (k + 1 - 1) by rw [Nat.add_sub_cancel]; have e_ := rem_s r (j := j) (k := k - 1) (by omega); rw [show k - 1 + 1 = k by omega] at e_; exact e_] at hP hD
          exact ih_22 (k + 1) (by omega) (by omega) (by omega) _ rfl _ _ (hP.sub [0, 1] rfl) (hD.sub [0, 1] (by decide) rfl) hS _ (lv_sub hl [0, 1, 2, 3] rfl)
    rw [show r = rem_ r j (j + 1 - 1) by rw [Nat.add_sub_cancel]; exact rem_0 r j] at hP hD
    exact lp_22 _ (j + 1) (Nat.lt_succ_self _) (Nat.lt_succ_self _) (by omega) _ rfl _ _ hP hD hS _ (lv_sub hl [0, 1, 2, 3] rfl)
  · have c_5 := b2_0.mp c_5
    exact Bool.noConfusion (c_5.symm.trans (ib_t (by omega) hj))

set_option maxHeartbeats 4000000 in
set_option maxRecDepth 100000 in
theorem c_X4_size (l : Launch) (D : va_G) (h0 : Nat) (fs : List Value) (z : Nat) (f2 : fs[2]? = some (.int (nI z))) : Met l yX4_size wsX4_size ({ frames := 0, cells := 0, slots := 0, locals := 0 }) (va_Pc [.ref h0] (fun U => va_P D vwCl [(h0, .inr (4, fs))] U.heap ∧ va_K D vwCl [] U)) (QcRead (nI z)) 0 0 (fun _ => False) := by
  refine Met.ofW (cc := cX4_size) (maxL := 1) (ret := (some .int)) (by decide) rfl ?_
  intro p e s m args below meth c s₁ B hml hv
  obtain ⟨rfl, hP, hK⟩ := hv
  have hx := B.exec
  have hb := B.bytes
  have hr := B.returns
  have hts := atoms_spec (ws := wsX4_size) B.pre
  have hown : s.vm.findClass RX4 = some m.cls := findClass_of_methodNamed B.named
  have hlocks := B.notSynchronized
  have hl := lv_entry ([.ref h0]) (n := 1) (Nat.le_of_ble_eq_true rfl)
  rw [lg_entry_eq]
  generalize (lg_sl ([.ref h0]) ++ List.replicate (1 - (lg_sl ([.ref h0])).length) Slot.unset).toArray = ls at hl ⊢
  have hl : lv_has ls 1 [(0, .ref h0)] := hl
  refine lv_aload_n hx hb dX4_size_0 rfl (lv_at hl 0 rfl) ?_
  refine va_get (D := D) (ci := 4) (v := .int (nI z)) (C := RX4) (T := TX4) (N := 3) hx hb hts (by decide +kernel) hown hK hP 0 rfl rfl 2 (by decide) (hts (.fieldLink RX4 24 "ConceptTable$Rules" "size" "I") (by decide +kernel)) (fun _ h9 => h9) f2 dX4_size_1 ?_
  have e_ret : (nI z) = (nI z) := by rfl
  exact W.iret (v := (nI z)) hx hb hr (fun t ht hW => ⟨congrArg (fun z_ => Outcome.returned (some (Value.int z_))) e_ret, ht⟩) (fun q h => by cases h) dX4_size_4

set_option maxHeartbeats 4000000 in
set_option maxRecDepth 100000 in
theorem c_X4_premise (l : Launch) (D : va_G) (h0 : Nat) (fs : List Value) (h2 : Nat) (cI : ClassId) (N : Nat) (z : Nat) (pr : Nat → Nat) (x : Int32) (f0 : fs[0]? = some (.ref h2)) (f2 : fs[2]? = some (.int (nI z))) (hz : z ≤ N) (hN : N ≤ 4096) : Met l yX4_premise wsX4_premise ({ frames := 0, cells := 0, slots := 0, locals := 0 }) (va_Pc [.ref h0, .int x] (fun U => va_P D vwCl [(h0, .inr (4, fs)), (h2, .inl (cI, N, .inl (fun i_ => nI (pr i_))))] U.heap ∧ va_K D vwCl [(cI, .int)] U)) (QcRead (if (decide (¬ x < 0) && decide (¬ nI z ≤ x)) = true then nI (pr x.toNatClampNeg) else -1)) 0 0 (fun _ => False) := by
  refine Met.ofW (cc := cX4_premise) (maxL := 2) (ret := (some .int)) (by decide) rfl ?_
  intro p e s m args below meth c s₁ B hml hv
  obtain ⟨rfl, hP, hK⟩ := hv
  have hx := B.exec
  have hb := B.bytes
  have hr := B.returns
  have hts := atoms_spec (ws := wsX4_premise) B.pre
  have hown : s.vm.findClass RX4 = some m.cls := findClass_of_methodNamed B.named
  have hlocks := B.notSynchronized
  have hl := lv_entry ([.ref h0, .int x]) (n := 2) (Nat.le_of_ble_eq_true rfl)
  rw [lg_entry_eq]
  generalize (lg_sl ([.ref h0, .int x]) ++ List.replicate (2 - (lg_sl ([.ref h0, .int x])).length) Slot.unset).toArray = ls at hl ⊢
  have hl : lv_has ls 2 [(0, .ref h0), (1, .int x)] := hl
  refine lv_iload_n hx hb dX4_premise_0 rfl (lv_at hl 1 rfl) ?_
  refine lv_if_lt (tgt := 21) hx hb dX4_premise_1 (by decide) (fun c_1 => ?_) (fun c_1 => ?_)
  · refine lv_iconst (v := -1) hx hb dX4_premise_21 (by decide) ?_
    have e_ret : (-1 : Int32) = (if (decide (¬ x < 0) && decide (¬ nI z ≤ x)) = true then nI (pr x.toNatClampNeg) else -1) := by rw [if_neg (by rw [decide_eq_false (fun z_ => z_ c_1), Bool.false_and]; decide)]
    exact W.iret (v := (-1 : Int32)) hx hb hr (fun t ht hW => ⟨congrArg (fun z_ => Outcome.returned (some (Value.int z_))) e_ret, ht⟩) (fun q h => by cases h) dX4_premise_22
  · refine lv_iload_n hx hb dX4_premise_4 rfl (lv_at hl 1 rfl) ?_
    refine lv_aload_n hx hb dX4_premise_5 rfl (lv_at hl 0 rfl) ?_
    refine va_get (D := D) (ci := 4) (v := .int (nI z)) (C := RX4) (T := TX4) (N := 3) hx hb hts (by decide +kernel) hown hK hP 0 rfl rfl 2 (by decide) (hts (.fieldLink RX4 24 "ConceptTable$Rules" "size" "I") (by decide +kernel)) (fun _ h9 => h9) f2 dX4_premise_6 ?_
    refine lv_icmp_ge (tgt := 21) hx hb dX4_premise_9 (by decide) (fun c_9 => ?_) (fun c_9 => ?_)
    · refine lv_iconst (v := -1) hx hb dX4_premise_21 (by decide) ?_
      have e_ret : (-1 : Int32) = (if (decide (¬ x < 0) && decide (¬ nI z ≤ x)) = true then nI (pr x.toNatClampNeg) else -1) := by rw [if_neg (by rw [decide_eq_false (p := ¬ nI z ≤ x) (fun z_ => z_ c_9), Bool.and_false]; decide)]
      exact W.iret (v := (-1 : Int32)) hx hb hr (fun t ht hW => ⟨congrArg (fun z_ => Outcome.returned (some (Value.int z_))) e_ret, ht⟩) (fun q h => by cases h) dX4_premise_22
    · refine lv_aload_n hx hb dX4_premise_12 rfl (lv_at hl 0 rfl) ?_
      refine va_get (D := D) (ci := 4) (v := .ref h2) (C := RX4) (T := TX4) (N := 3) hx hb hts (by decide +kernel) hown hK hP 0 rfl rfl 0 (by decide) (hts (.fieldLink RX4 15 "ConceptTable$Rules" "premises" "[I") (by decide +kernel)) (fun _ h9 => h9) f0 dX4_premise_13 ?_
      refine lv_iload_n hx hb dX4_premise_16 rfl (lv_at hl 1 rfl) ?_
      refine va_iald hx hb hK hP 1 0 rfl rfl (ix_in hz (by omega) c_1 c_9) dX4_premise_17 ?_
      refine lv_re (y := (nI (pr (x.toNatClampNeg)))) rfl ?_
      refine lv_goto (tgt := 22) hx hb dX4_premise_18 (by decide) ?_
      have e_ret : (nI (pr (x.toNatClampNeg))) = (if (decide (¬ x < 0) && decide (¬ nI z ≤ x)) = true then nI (pr x.toNatClampNeg) else -1) := by rw [if_pos (by rw [decide_eq_true c_1, decide_eq_true c_9]; rfl)]
      exact W.iret (v := (nI (pr (x.toNatClampNeg)))) hx hb hr (fun t ht hW => ⟨congrArg (fun z_ => Outcome.returned (some (Value.int z_))) e_ret, ht⟩) (fun q h => by cases h) dX4_premise_22

set_option maxHeartbeats 4000000 in
set_option maxRecDepth 100000 in
theorem c_X4_conclusion (l : Launch) (D : va_G) (h0 : Nat) (fs : List Value) (h3 : Nat) (cI : ClassId) (N : Nat) (z : Nat) (cn : Nat → Nat) (x : Int32) (f1 : fs[1]? = some (.ref h3)) (f2 : fs[2]? = some (.int (nI z))) (hz : z ≤ N) (hN : N ≤ 4096) : Met l yX4_conclusion wsX4_conclusion ({ frames := 0, cells := 0, slots := 0, locals := 0 }) (va_Pc [.ref h0, .int x] (fun U => va_P D vwCl [(h0, .inr (4, fs)), (h3, .inl (cI, N, .inl (fun i_ => nI (cn i_))))] U.heap ∧ va_K D vwCl [(cI, .int)] U)) (QcRead (if (decide (¬ x < 0) && decide (¬ nI z ≤ x)) = true then nI (cn x.toNatClampNeg) else -1)) 0 0 (fun _ => False) := by
  refine Met.ofW (cc := cX4_conclusion) (maxL := 2) (ret := (some .int)) (by decide) rfl ?_
  intro p e s m args below meth c s₁ B hml hv
  obtain ⟨rfl, hP, hK⟩ := hv
  have hx := B.exec
  have hb := B.bytes
  have hr := B.returns
  have hts := atoms_spec (ws := wsX4_conclusion) B.pre
  have hown : s.vm.findClass RX4 = some m.cls := findClass_of_methodNamed B.named
  have hlocks := B.notSynchronized
  have hl := lv_entry ([.ref h0, .int x]) (n := 2) (Nat.le_of_ble_eq_true rfl)
  rw [lg_entry_eq]
  generalize (lg_sl ([.ref h0, .int x]) ++ List.replicate (2 - (lg_sl ([.ref h0, .int x])).length) Slot.unset).toArray = ls at hl ⊢
  have hl : lv_has ls 2 [(0, .ref h0), (1, .int x)] := hl
  refine lv_iload_n hx hb dX4_conclusion_0 rfl (lv_at hl 1 rfl) ?_
  refine lv_if_lt (tgt := 21) hx hb dX4_conclusion_1 (by decide) (fun c_1 => ?_) (fun c_1 => ?_)
  · refine lv_iconst (v := -1) hx hb dX4_conclusion_21 (by decide) ?_
    have e_ret : (-1 : Int32) = (if (decide (¬ x < 0) && decide (¬ nI z ≤ x)) = true then nI (cn x.toNatClampNeg) else -1) := by rw [if_neg (by rw [decide_eq_false (fun z_ => z_ c_1), Bool.false_and]; decide)]
    exact W.iret (v := (-1 : Int32)) hx hb hr (fun t ht hW => ⟨congrArg (fun z_ => Outcome.returned (some (Value.int z_))) e_ret, ht⟩) (fun q h => by cases h) dX4_conclusion_22
  · refine lv_iload_n hx hb dX4_conclusion_4 rfl (lv_at hl 1 rfl) ?_
    refine lv_aload_n hx hb dX4_conclusion_5 rfl (lv_at hl 0 rfl) ?_
    refine va_get (D := D) (ci := 4) (v := .int (nI z)) (C := RX4) (T := TX4) (N := 3) hx hb hts (by decide +kernel) hown hK hP 0 rfl rfl 2 (by decide) (hts (.fieldLink RX4 24 "ConceptTable$Rules" "size" "I") (by decide +kernel)) (fun _ h9 => h9) f2 dX4_conclusion_6 ?_
    refine lv_icmp_ge (tgt := 21) hx hb dX4_conclusion_9 (by decide) (fun c_9 => ?_) (fun c_9 => ?_)
    · refine lv_iconst (v := -1) hx hb dX4_conclusion_21 (by decide) ?_
      have e_ret : (-1 : Int32) = (if (decide (¬ x < 0) && decide (¬ nI z ≤ x)) = true then nI (cn x.toNatClampNeg) else -1) := by rw [if_neg (by rw [decide_eq_false (p := ¬ nI z ≤ x) (fun z_ => z_ c_9), Bool.and_false]; decide)]
      exact W.iret (v := (-1 : Int32)) hx hb hr (fun t ht hW => ⟨congrArg (fun z_ => Outcome.returned (some (Value.int z_))) e_ret, ht⟩) (fun q h => by cases h) dX4_conclusion_22
    · refine lv_aload_n hx hb dX4_conclusion_12 rfl (lv_at hl 0 rfl) ?_
      refine va_get (D := D) (ci := 4) (v := .ref h3) (C := RX4) (T := TX4) (N := 3) hx hb hts (by decide +kernel) hown hK hP 0 rfl rfl 1 (by decide) (hts (.fieldLink RX4 21 "ConceptTable$Rules" "conclusions" "[I") (by decide +kernel)) (fun _ h9 => h9) f1 dX4_conclusion_13 ?_
      refine lv_iload_n hx hb dX4_conclusion_16 rfl (lv_at hl 1 rfl) ?_
      refine va_iald hx hb hK hP 1 0 rfl rfl (ix_in hz (by omega) c_1 c_9) dX4_conclusion_17 ?_
      refine lv_re (y := (nI (cn (x.toNatClampNeg)))) rfl ?_
      refine lv_goto (tgt := 22) hx hb dX4_conclusion_18 (by decide) ?_
      have e_ret : (nI (cn (x.toNatClampNeg))) = (if (decide (¬ x < 0) && decide (¬ nI z ≤ x)) = true then nI (cn x.toNatClampNeg) else -1) := by rw [if_pos (by rw [decide_eq_true c_1, decide_eq_true c_9]; rfl)]
      exact W.iret (v := (nI (cn (x.toNatClampNeg)))) hx hb hr (fun t ht hW => ⟨congrArg (fun z_ => Outcome.returned (some (Value.int z_))) e_ret, ht⟩) (fun q h => by cases h) dX4_conclusion_22

set_option maxHeartbeats 4000000 in
set_option maxRecDepth 100000 in
theorem c_X4_areKeptBy (l : Launch) (D : va_G) (h0 : Nat) (fs : List Value) (h2 : Nat) (h3 : Nat) (cI : ClassId) (N : Nat) (z : Nat) (pr : Nat → Nat) (cn : Nat → Nat) (q : Nat) (f0 : fs[0]? = some (.ref h2)) (f1 : fs[1]? = some (.ref h3)) (f2 : fs[2]? = some (.int (nI z))) (hz : z ≤ N) (hN : N ≤ 4096) (hp : ∀ j, j < z → pr j < 2 ^ 31) (hc : ∀ j, j < z → cn j < 2 ^ 31) : Met l yX4_areKeptBy wsX4_areKeptBy ({ frames := 1, cells := 0, slots := 0, locals := 21 }) (va_Pc [.ref h0, .int (nI q)] (fun U => va_P D vwCl [(h0, .inr (4, fs)), (h2, .inl (cI, N, .inl (fun i_ => nI (pr i_)))), (h3, .inl (cI, N, .inl (fun i_ => nI (cn i_))))] U.heap ∧ va_K D vwCl [(cI, .int)] U)) (QcRead (b2 (kpB pr cn z q))) 0 0 (fun _ => False) := by
  refine Met.ofW (cc := cX4_areKeptBy) (maxL := 3) (ret := (some .boolean)) (by decide) rfl ?_
  intro p e s m args below meth c s₁ B hml hv
  obtain ⟨rfl, hP, hK⟩ := hv
  have hx := B.exec
  have hb := B.bytes
  have hr := B.returns
  have hts := atoms_spec (ws := wsX4_areKeptBy) B.pre
  have hown : s.vm.findClass RX4 = some m.cls := findClass_of_methodNamed B.named
  have hlocks := B.notSynchronized
  have hl := lv_entry ([.ref h0, .int (nI q)]) (n := 3) (Nat.le_of_ble_eq_true rfl)
  rw [lg_entry_eq]
  generalize (lg_sl ([.ref h0, .int (nI q)]) ++ List.replicate (3 - (lg_sl ([.ref h0, .int (nI q)])).length) Slot.unset).toArray = ls at hl ⊢
  have hl : lv_has ls 3 [(0, .ref h0), (1, .int (nI q))] := hl
  refine lv_iconst (v := 0) hx hb dX4_areKeptBy_0 (by decide) ?_
  refine lv_istore_n (lv' := [(2, .int (0 : Int32)), (0, .ref h0), (1, .int (nI q))]) hx hb dX4_areKeptBy_1 rfl hl (by decide) rfl (fun ls hl => ?_)
  have lp_2 : ∀ (n_ : Nat) (k : Nat), z - k < n_ → (k ≤ z) → (∀ j, j < k → sN (pr j) q = true → sN (cn j) q = true) → ∀ (x2 : Int32), x2 = nI k → ∀ (ls : Array Slot), lv_has ls 3 [(2, .int x2), (0, .ref h0), (1, .int (nI q))] → W p l e (headSpec wsX4_areKeptBy ({ frames := 1, cells := 0, slots := 0, locals := 21 })).room s m ([.ref h0, .int (nI q)] : List Value).toArray below meth c s.heap [] 0 0 (MQ below (QcRead (b2 (kpB pr cn z q))) ([.ref h0, .int (nI q)] : List Value).toArray s 0 0 (fun _ => False)) (F0 m 2 ls []) := by
    intro n_
    induction n_ with
    | zero => intro k h0_; exact absurd h0_ (Nat.not_lt_zero _)
    | succ n_ ih_2 =>
      intro k hm_2 hk hin x2 e_x2 ls hl
      subst e_x2
      refine lv_iload_n hx hb dX4_areKeptBy_2 rfl (lv_at hl 0 rfl) ?_
      refine lv_aload_n hx hb dX4_areKeptBy_3 rfl (lv_at hl 1 rfl) ?_
      refine va_get (D := D) (ci := 4) (v := .int (nI z)) (C := RX4) (T := TX4) (N := 3) hx hb hts (by decide +kernel) hown hK hP 0 rfl rfl 2 (by decide) (hts (.fieldLink RX4 24 "ConceptTable$Rules" "size" "I") (by decide +kernel)) (fun _ h9 => h9) f2 dX4_areKeptBy_4 ?_
      refine lv_icmp_ge (tgt := 44) hx hb dX4_areKeptBy_7 (by decide) (fun c_7 => ?_) (fun c_7 => ?_)
      · have c_7 : z ≤ k := (nI_leI (a := z) (b := k) (by omega) (by omega)).mp c_7
        refine lv_iconst (v := 1) hx hb dX4_areKeptBy_44 (by decide) ?_
        have e_ret : (1 : Int32) = (b2 (kpB pr cn z q)) := by unfold kpB; rw [decide_eq_true (fun j hj => hin j (by omega))]; rfl
        exact W.zret (v := (1 : Int32)) hx hb hr rfl (fun t ht hW => ⟨congrArg (fun z_ => Outcome.returned (some (Value.int z_))) e_ret, ht⟩) (fun q h => by cases h) dX4_areKeptBy_45
      · have c_7 : k < z := Nat.lt_of_not_le (fun h_ => c_7 ((nI_leI (a := z) (b := k) (by omega) (by omega)).mpr h_))
        refine lv_iload_n hx hb dX4_areKeptBy_10 rfl (lv_at hl 2 rfl) ?_
        refine lv_aload_n hx hb dX4_areKeptBy_11 rfl (lv_at hl 1 rfl) ?_
        refine va_get (D := D) (ci := 4) (v := .ref h2) (C := RX4) (T := TX4) (N := 3) hx hb hts (by decide +kernel) hown hK hP 0 rfl rfl 0 (by decide) (hts (.fieldLink RX4 15 "ConceptTable$Rules" "premises" "[I") (by decide +kernel)) (fun _ h9 => h9) f0 dX4_areKeptBy_12 ?_
        refine lv_iload_n hx hb dX4_areKeptBy_15 rfl (lv_at hl 0 rfl) ?_
        refine va_iald hx hb hK hP 1 0 rfl rfl (vp_in_nI (by omega) (by omega)) dX4_areKeptBy_16 ?_
        refine lv_re (y := (nI (pr k))) (by rw [nI_clamp (by omega)]) ?_
        refine rd_S (As := [.int (nI q), .int (nI (pr k))]) (rest := []) ⟨hx, hb, hml, hown, hts⟩ (c_X5_hasAll_N l D q (pr k) (hp k (by omega))) (va_cwS 2 hts gX4_areKeptBy_X5_hasAll rfl rfl rfl (by decide +kernel) ⟨Nat.le_of_ble_eq_true rfl, Nat.le_of_ble_eq_true rfl⟩) (hP.sub (ws' := []) [] rfl) (hK.sub (tys' := []) [] rfl) rfl rfl hl.1 rfl (lv_room (Nat.le_of_ble_eq_true rfl)) dX4_areKeptBy_17 ⟨Nat.le_of_ble_eq_true rfl, Nat.le_of_ble_eq_true rfl⟩ ?_
        refine lv_if_eq (tgt := 38) hx hb dX4_areKeptBy_20 (by decide) (fun c_20 => ?_) (fun c_20 => ?_)
        · have c_20 := b2_0.mp c_20
          refine lv_iinc (v := (nI (k + 1))) (lv' := [(2, .int (nI (k + 1))), (0, .ref h0), (1, .int (nI q))]) hx hb dX4_areKeptBy_38 hl (k := 0) rfl (nI_add _ 1) (by decide) rfl (fun ls hl => ?_)
          refine lv_goto (tgt := 2) hx hb dX4_areKeptBy_41 (by decide) ?_
          exact ih_2 (k + 1) (by omega) (by omega) (lt_s hin (fun z_ => Bool.noConfusion (c_20.symm.trans z_))) _ rfl _ (lv_sub hl [0, 1, 2] rfl)
        · have c_20 := b2_n0.mp c_20
          refine lv_iload_n hx hb dX4_areKeptBy_23 rfl (lv_at hl 2 rfl) ?_
          refine lv_aload_n hx hb dX4_areKeptBy_24 rfl (lv_at hl 1 rfl) ?_
          refine va_get (D := D) (ci := 4) (v := .ref h3) (C := RX4) (T := TX4) (N := 3) hx hb hts (by decide +kernel) hown hK hP 0 rfl rfl 1 (by decide) (hts (.fieldLink RX4 21 "ConceptTable$Rules" "conclusions" "[I") (by decide +kernel)) (fun _ h9 => h9) f1 dX4_areKeptBy_25 ?_
          refine lv_iload_n hx hb dX4_areKeptBy_28 rfl (lv_at hl 0 rfl) ?_
          refine va_iald hx hb hK hP 2 0 rfl rfl (vp_in_nI (by omega) (by omega)) dX4_areKeptBy_29 ?_
          refine lv_re (y := (nI (cn k))) (by rw [nI_clamp (by omega)]) ?_
          refine rd_S (As := [.int (nI q), .int (nI (cn k))]) (rest := []) ⟨hx, hb, hml, hown, hts⟩ (c_X5_hasAll_N l D q (cn k) (hc k (by omega))) (va_cwS 2 hts gX4_areKeptBy_X5_hasAll rfl rfl rfl (by decide +kernel) ⟨Nat.le_of_ble_eq_true rfl, Nat.le_of_ble_eq_true rfl⟩) (hP.sub (ws' := []) [] rfl) (hK.sub (tys' := []) [] rfl) rfl rfl hl.1 rfl (lv_room (Nat.le_of_ble_eq_true rfl)) dX4_areKeptBy_30 ⟨Nat.le_of_ble_eq_true rfl, Nat.le_of_ble_eq_true rfl⟩ ?_
          refine lv_if_ne (tgt := 38) hx hb dX4_areKeptBy_33 (by decide) (fun c_33 => ?_) (fun c_33 => ?_)
          · have c_33 := b2_n0.mp c_33
            refine lv_iinc (v := (nI (k + 1))) (lv' := [(2, .int (nI (k + 1))), (0, .ref h0), (1, .int (nI q))]) hx hb dX4_areKeptBy_38 hl (k := 0) rfl (nI_add _ 1) (by decide) rfl (fun ls hl => ?_)
            refine lv_goto (tgt := 2) hx hb dX4_areKeptBy_41 (by decide) ?_
            exact ih_2 (k + 1) (by omega) (by omega) (lt_s hin (fun _ => c_33)) _ rfl _ (lv_sub hl [0, 1, 2] rfl)
          · have c_33 := b2_0.mp c_33
            refine lv_iconst (v := 0) hx hb dX4_areKeptBy_36 (by decide) ?_
            have e_ret : (0 : Int32) = (b2 (kpB pr cn z q)) := by unfold kpB; rw [decide_eq_false (fun h => Bool.noConfusion ((h k (by omega) c_20).symm.trans c_33))]; rfl
            exact W.zret (v := (0 : Int32)) hx hb hr rfl (fun t ht hW => ⟨congrArg (fun z_ => Outcome.returned (some (Value.int z_))) e_ret, ht⟩) (fun q h => by cases h) dX4_areKeptBy_37
  exact lp_2 _ 0 (Nat.lt_succ_self _) (Nat.zero_le _) (fun j h => absurd h (Nat.not_lt_zero _)) _ rfl _ (lv_sub hl [0, 1, 2] rfl)

set_option maxHeartbeats 4000000 in
set_option maxRecDepth 100000 in
theorem c_X4_applyOnce (l : Launch) (D : va_G) (h0 : Nat) (fs : List Value) (h2 : Nat) (h3 : Nat) (cI : ClassId) (N : Nat) (pr : Nat → Nat) (cn : Nat → Nat) (g : Nat) (L : Nat) (f0 : fs[0]? = some (.ref h2)) (f1 : fs[1]? = some (.ref h3)) (hL : L ≤ N) (hN : N ≤ 4096) (hp : ∀ j, j < L → pr j < 2 ^ 31) : Met l yX4_applyOnce wsX4_applyOnce ({ frames := 1, cells := 0, slots := 0, locals := 21 }) (va_Pc [.ref h0, .int (nI g), .int (nI L)] (fun U => va_P D vwCl [(h0, .inr (4, fs)), (h2, .inl (cI, N, .inl (fun i_ => nI (pr i_)))), (h3, .inl (cI, N, .inl (fun i_ => nI (cn i_))))] U.heap ∧ va_K D vwCl [(cI, .int)] U)) (QcRead (nI (apF pr cn L g))) 0 0 (fun _ => False) := by
  refine Met.ofW (cc := cX4_applyOnce) (maxL := 5) (ret := (some .int)) (by decide) rfl ?_
  intro p e s m args below meth c s₁ B hml hv
  obtain ⟨rfl, hP, hK⟩ := hv
  have hx := B.exec
  have hb := B.bytes
  have hr := B.returns
  have hts := atoms_spec (ws := wsX4_applyOnce) B.pre
  have hown : s.vm.findClass RX4 = some m.cls := findClass_of_methodNamed B.named
  have hlocks := B.notSynchronized
  have hl := lv_entry ([.ref h0, .int (nI g), .int (nI L)]) (n := 5) (Nat.le_of_ble_eq_true rfl)
  rw [lg_entry_eq]
  generalize (lg_sl ([.ref h0, .int (nI g), .int (nI L)]) ++ List.replicate (5 - (lg_sl ([.ref h0, .int (nI g), .int (nI L)])).length) Slot.unset).toArray = ls at hl ⊢
  have hl : lv_has ls 5 [(0, .ref h0), (1, .int (nI g)), (2, .int (nI L))] := hl
  refine lv_iload_n hx hb dX4_applyOnce_0 rfl (lv_at hl 1 rfl) ?_
  refine lv_istore_n (lv' := [(3, .int (nI g)), (0, .ref h0), (1, .int (nI g)), (2, .int (nI L))]) hx hb dX4_applyOnce_1 rfl hl (by decide) rfl (fun ls hl => ?_)
  refine lv_iconst (v := 0) hx hb dX4_applyOnce_2 (by decide) ?_
  refine lv_istore (lv' := [(4, .int (0 : Int32)), (3, .int (nI g)), (0, .ref h0), (1, .int (nI g)), (2, .int (nI L))]) hx hb dX4_applyOnce_3 hl (by decide) rfl (fun ls hl => ?_)
  have lp_5 : ∀ (n_ : Nat) (k : Nat), L - k < n_ → (k ≤ L) → ∀ (x4 : Int32), x4 = nI k → ∀ (x3 : Int32), x3 = nI (apF pr cn k g) → ∀ (ls : Array Slot), lv_has ls 5 [(4, .int x4), (3, .int x3), (0, .ref h0), (1, .int (nI g)), (2, .int (nI L))] → W p l e (headSpec wsX4_applyOnce ({ frames := 1, cells := 0, slots := 0, locals := 21 })).room s m ([.ref h0, .int (nI g), .int (nI L)] : List Value).toArray below meth c s.heap [] 0 0 (MQ below (QcRead (nI (apF pr cn L g))) ([.ref h0, .int (nI g), .int (nI L)] : List Value).toArray s 0 0 (fun _ => False)) (F0 m 5 ls []) := by
    intro n_
    induction n_ with
    | zero => intro k h0_; exact absurd h0_ (Nat.not_lt_zero _)
    | succ n_ ih_5 =>
      intro k hm_5 hk x4 e_x4 x3 e_x3 ls hl
      subst e_x4
      subst e_x3
      refine lv_iload hx hb dX4_applyOnce_5 (lv_at hl 0 rfl) ?_
      refine lv_iload_n hx hb dX4_applyOnce_7 rfl (lv_at hl 4 rfl) ?_
      refine lv_icmp_ge (tgt := 41) hx hb dX4_applyOnce_8 (by decide) (fun c_8 => ?_) (fun c_8 => ?_)
      · have c_8 : L ≤ k := (nI_leI (a := L) (b := k) (by omega) (by omega)).mp c_8
        refine lv_iload_n hx hb dX4_applyOnce_41 rfl (lv_at hl 1 rfl) ?_
        have e_ret : (nI (apF pr cn k g)) = (nI (apF pr cn L g)) := by rw [show k = L by omega]
        exact W.iret (v := (nI (apF pr cn k g))) hx hb hr (fun t ht hW => ⟨congrArg (fun z_ => Outcome.returned (some (Value.int z_))) e_ret, ht⟩) (fun q h => by cases h) dX4_applyOnce_42
      · have c_8 : k < L := Nat.lt_of_not_le (fun h_ => c_8 ((nI_leI (a := L) (b := k) (by omega) (by omega)).mpr h_))
        refine lv_iload_n hx hb dX4_applyOnce_11 rfl (lv_at hl 1 rfl) ?_
        refine lv_aload_n hx hb dX4_applyOnce_12 rfl (lv_at hl 2 rfl) ?_
        refine va_get (D := D) (ci := 4) (v := .ref h2) (C := RX4) (T := TX4) (N := 3) hx hb hts (by decide +kernel) hown hK hP 0 rfl rfl 0 (by decide) (hts (.fieldLink RX4 15 "ConceptTable$Rules" "premises" "[I") (by decide +kernel)) (fun _ h9 => h9) f0 dX4_applyOnce_13 ?_
        refine lv_iload hx hb dX4_applyOnce_16 (lv_at hl 0 rfl) ?_
        refine va_iald hx hb hK hP 1 0 rfl rfl (vp_in_nI (by omega) (by omega)) dX4_applyOnce_18 ?_
        refine lv_re (y := (nI (pr k))) (by rw [nI_clamp (by omega)]) ?_
        refine rd_S (As := [.int (nI (apF pr cn k g)), .int (nI (pr k))]) (rest := []) ⟨hx, hb, hml, hown, hts⟩ (c_X5_hasAll_N l D (apF pr cn k g) (pr k) (hp k (by omega))) (va_cwS 2 hts gX4_applyOnce_X5_hasAll rfl rfl rfl (by decide +kernel) ⟨Nat.le_of_ble_eq_true rfl, Nat.le_of_ble_eq_true rfl⟩) (hP.sub (ws' := []) [] rfl) (hK.sub (tys' := []) [] rfl) rfl rfl hl.1 rfl (lv_room (Nat.le_of_ble_eq_true rfl)) dX4_applyOnce_19 ⟨Nat.le_of_ble_eq_true rfl, Nat.le_of_ble_eq_true rfl⟩ ?_
        refine lv_if_eq (tgt := 35) hx hb dX4_applyOnce_22 (by decide) (fun c_22 => ?_) (fun c_22 => ?_)
        · have c_22 := b2_0.mp c_22
          refine lv_iinc (v := (nI (k + 1))) (lv' := [(4, .int (nI (k + 1))), (3, .int (nI (apF pr cn k g))), (0, .ref h0), (1, .int (nI g)), (2, .int (nI L))]) hx hb dX4_applyOnce_35 hl (k := 0) rfl (nI_add _ 1) (by decide) rfl (fun ls hl => ?_)
          refine lv_goto (tgt := 5) hx hb dX4_applyOnce_38 (by decide) ?_
          exact ih_5 (k + 1) (by omega) (by omega) _ rfl _ (by rw [apF, if_neg (by rw [c_22]; decide)]) _ (lv_sub hl [0, 1, 2, 3, 4] rfl)
        · have c_22 := b2_n0.mp c_22
          refine lv_iload_n hx hb dX4_applyOnce_25 rfl (lv_at hl 1 rfl) ?_
          refine lv_aload_n hx hb dX4_applyOnce_26 rfl (lv_at hl 2 rfl) ?_
          refine va_get (D := D) (ci := 4) (v := .ref h3) (C := RX4) (T := TX4) (N := 3) hx hb hts (by decide +kernel) hown hK hP 0 rfl rfl 1 (by decide) (hts (.fieldLink RX4 21 "ConceptTable$Rules" "conclusions" "[I") (by decide +kernel)) (fun _ h9 => h9) f1 dX4_applyOnce_27 ?_
          refine lv_iload hx hb dX4_applyOnce_30 (lv_at hl 0 rfl) ?_
          refine va_iald hx hb hK hP 2 0 rfl rfl (vp_in_nI (by omega) (by omega)) dX4_applyOnce_32 ?_
          refine lv_re (y := (nI (cn k))) (by rw [nI_clamp (by omega)]) ?_
          refine lv_ior hx hb dX4_applyOnce_33 ?_
          refine lv_re (y := (nI ((apF pr cn k g) ||| (cn k)))) (nx_or (apF pr cn k g) (cn k)) ?_
          refine lv_istore_n (lv' := [(3, .int (nI ((apF pr cn k g) ||| (cn k)))), (4, .int (nI k)), (0, .ref h0), (1, .int (nI g)), (2, .int (nI L))]) hx hb dX4_applyOnce_34 rfl hl (by decide) rfl (fun ls hl => ?_)
          refine lv_iinc (v := (nI (k + 1))) (lv' := [(4, .int (nI (k + 1))), (3, .int (nI ((apF pr cn k g) ||| (cn k)))), (0, .ref h0), (1, .int (nI g)), (2, .int (nI L))]) hx hb dX4_applyOnce_35 hl (k := 1) rfl (nI_add _ 1) (by decide) rfl (fun ls hl => ?_)
          refine lv_goto (tgt := 5) hx hb dX4_applyOnce_38 (by decide) ?_
          exact ih_5 (k + 1) (by omega) (by omega) _ rfl _ (by rw [apF, if_pos c_22]) _ (lv_sub hl [0, 1, 2, 3, 4] rfl)
  exact lp_5 _ 0 (Nat.lt_succ_self _) (Nat.zero_le _) _ rfl _ rfl _ (lv_sub hl [0, 1, 2, 3, 4] rfl)

set_option maxHeartbeats 4000000 in
set_option maxRecDepth 100000 in
theorem c_X4_clear (l : Launch) (D : va_G) (sz : Nat) (h0 : Nat) (h2 : Nat) (h3 : Nat) (z : Nat)  : Met l yX4_clear wsX4_clear ({ frames := 0, cells := 0, slots := 0, locals := 0 }) (va_Pc [.ref h0] (fun U => U.heap.size = sz ∧ va_P D vwCl [(h0, .inr (4, [.ref h2, .ref h3, .int (nI z)]))] U.heap ∧ va_K D vwCl [] U ∧ va_D (fun _ => True) [(h0, .inr (4, [.ref h2, .ref h3, .int (nI z)]))])) (muQ none D vwCl [(h0, .inr (4, [.ref h2, .ref h3, .int (nI 0)]))] (va_A [(h0, .inr (4, [.ref h2, .ref h3, .int (nI z)]))] sz)) 0 0 (va_A [(h0, .inr (4, [.ref h2, .ref h3, .int (nI z)]))] sz) := by
  refine Met.ofW (cc := cX4_clear) (maxL := 1) (ret := none) (by decide) rfl ?_
  intro p e s m args below meth c s₁ B hml hv
  obtain ⟨rfl, hsz, hP, hK, hD0⟩ := hv
  have hx := B.exec
  have hb := B.bytes
  have hr := B.returns
  have hts := atoms_spec (ws := wsX4_clear) B.pre
  have hown : s.vm.findClass RX4 = some m.cls := findClass_of_methodNamed B.named
  have hlocks := B.notSynchronized
  subst hsz
  have hD := hD0.self (sz := s.heap.size)
  generalize hAe : va_A [(h0, .inr (4, [.ref h2, .ref h3, .int (nI z)]))] s.heap.size = A at hD ⊢
  have hA : ∀ q : Nat, s.heap.size ≤ q → A q := fun q h => by rw [← hAe]; exact Or.inr h
  have hS : va_S A s.heap s.heap [] := va_S.rf
  have hl := lv_entry ([.ref h0]) (n := 1) (Nat.le_of_ble_eq_true rfl)
  rw [lg_entry_eq]
  generalize (lg_sl ([.ref h0]) ++ List.replicate (1 - (lg_sl ([.ref h0])).length) Slot.unset).toArray = ls at hl ⊢
  have hl : lv_has ls 1 [(0, .ref h0)] := hl
  refine lv_aload_n hx hb dX4_clear_0 rfl (lv_at hl 0 rfl) ?_
  refine lv_iconst (v := 0) hx hb dX4_clear_1 (by decide) ?_
  refine va_put (D := D) (ci := 4) (v := .int (0 : Int32)) (ty := .int) (C := RX4) (T := TX4) (N := 3) hx hb hts (by decide +kernel) tyX4 tyX4_ok nmX4 hown hK hP hD hS 0 rfl rfl 2 (by decide) (hts (.fieldLink RX4 24 "ConceptTable$Rules" "size" "I") (by decide +kernel)) (fun _ h9 => h9) rfl (by decide +kernel) rfl rfl (Nat.le_of_ble_eq_true rfl) dX4_clear_2 (fun H locs hP hD hS => ?_)
  have hP : va_P D vwCl [(h0, .inr (4, [.ref h2, .ref h3, .int (0 : Int32)]))] H := hP
  have hD : va_D A [(h0, .inr (4, [.ref h2, .ref h3, .int (0 : Int32)]))] := hD
  have hP := hP.sub (ws' := [(h0, .inr (4, [.ref h2, .ref h3, .int (0 : Int32)]))]) [0] rfl
  have hD := hD.sub (ws' := [(h0, .inr (4, [.ref h2, .ref h3, .int (0 : Int32)]))]) [0] (by decide) rfl
  have hP : va_P D vwCl [(h0, .inr (4, [.ref h2, .ref h3, .int (nI 0)]))] H := by exact hP
  have hD : va_D A [(h0, .inr (4, [.ref h2, .ref h3, .int (nI 0)]))] := by exact hD
  exact W.vret hx hb hr (fun t ht hW => ⟨⟨rfl, by rw [ht]; exact hP, hD⟩, hS.F ht⟩) hS.2.2 dX4_clear_5

set_option maxHeartbeats 4000000 in
set_option maxRecDepth 100000 in
theorem c_X4_append (l : Launch) (D : va_G) (sz : Nat) (h0 : Nat) (h2 : Nat) (h3 : Nat) (z : Nat) (cI : ClassId) (N : Nat) (pr : Nat → Nat) (cn : Nat → Nat) (a : Nat) (b : Nat) (hz : z < N) (hN : N ≤ 4096) : Met l yX4_append wsX4_append ({ frames := 0, cells := 0, slots := 0, locals := 0 }) (va_Pc [.ref h0, .int (nI a), .int (nI b)] (fun U => U.heap.size = sz ∧ va_P D vwCl [(h0, .inr (4, [.ref h2, .ref h3, .int (nI z)])), (h2, .inl (cI, N, .inl (fun i_ => nI (pr i_)))), (h3, .inl (cI, N, .inl (fun i_ => nI (cn i_))))] U.heap ∧ va_K D vwCl [(cI, .int)] U ∧ va_D (fun _ => True) [(h0, .inr (4, [.ref h2, .ref h3, .int (nI z)])), (h2, .inl (cI, N, .inl (fun i_ => nI (pr i_)))), (h3, .inl (cI, N, .inl (fun i_ => nI (cn i_))))])) (muQ none D vwCl [(h0, .inr (4, [.ref h2, .ref h3, .int (nI (z + 1))])), (h2, .inl (cI, N, .inl (fun i_ => nI ((va_up pr z a) i_)))), (h3, .inl (cI, N, .inl (fun i_ => nI ((va_up cn z b) i_))))] (va_A [(h0, .inr (4, [.ref h2, .ref h3, .int (nI z)])), (h2, .inl (cI, N, .inl (fun i_ => nI (pr i_)))), (h3, .inl (cI, N, .inl (fun i_ => nI (cn i_))))] sz)) 0 0 (va_A [(h0, .inr (4, [.ref h2, .ref h3, .int (nI z)])), (h2, .inl (cI, N, .inl (fun i_ => nI (pr i_)))), (h3, .inl (cI, N, .inl (fun i_ => nI (cn i_))))] sz) := by
  refine Met.ofW (cc := cX4_append) (maxL := 3) (ret := none) (by decide) rfl ?_
  intro p e s m args below meth c s₁ B hml hv
  obtain ⟨rfl, hsz, hP, hK, hD0⟩ := hv
  have hx := B.exec
  have hb := B.bytes
  have hr := B.returns
  have hts := atoms_spec (ws := wsX4_append) B.pre
  have hown : s.vm.findClass RX4 = some m.cls := findClass_of_methodNamed B.named
  have hlocks := B.notSynchronized
  subst hsz
  have hD := hD0.self (sz := s.heap.size)
  generalize hAe : va_A [(h0, .inr (4, [.ref h2, .ref h3, .int (nI z)])), (h2, .inl (cI, N, .inl (fun i_ => nI (pr i_)))), (h3, .inl (cI, N, .inl (fun i_ => nI (cn i_))))] s.heap.size = A at hD ⊢
  have hA : ∀ q : Nat, s.heap.size ≤ q → A q := fun q h => by rw [← hAe]; exact Or.inr h
  have hS : va_S A s.heap s.heap [] := va_S.rf
  have hl := lv_entry ([.ref h0, .int (nI a), .int (nI b)]) (n := 3) (Nat.le_of_ble_eq_true rfl)
  rw [lg_entry_eq]
  generalize (lg_sl ([.ref h0, .int (nI a), .int (nI b)]) ++ List.replicate (3 - (lg_sl ([.ref h0, .int (nI a), .int (nI b)])).length) Slot.unset).toArray = ls at hl ⊢
  have hl : lv_has ls 3 [(0, .ref h0), (1, .int (nI a)), (2, .int (nI b))] := hl
  refine lv_aload_n hx hb dX4_append_0 rfl (lv_at hl 0 rfl) ?_
  refine va_get (D := D) (ci := 4) (v := .int (nI z)) (C := RX4) (T := TX4) (N := 3) hx hb hts (by decide +kernel) hown hK hP 0 rfl rfl 2 (by decide) (hts (.fieldLink RX4 24 "ConceptTable$Rules" "size" "I") (by decide +kernel)) (fun _ h9 => h9) rfl dX4_append_1 ?_
  refine lv_aload_n hx hb dX4_append_4 rfl (lv_at hl 0 rfl) ?_
  refine va_get (D := D) (ci := 4) (v := .ref h2) (C := RX4) (T := TX4) (N := 3) hx hb hts (by decide +kernel) hown hK hP 0 rfl rfl 0 (by decide) (hts (.fieldLink RX4 15 "ConceptTable$Rules" "premises" "[I") (by decide +kernel)) (fun _ h9 => h9) rfl dX4_append_5 ?_
  refine va_alen hx hb hK hP 1 0 rfl rfl (v := nI N) rfl dX4_append_8 ?_
  refine lv_icmp_ge (tgt := 42) hx hb dX4_append_9 (by decide) (fun c_9 => ?_) (fun c_9 => ?_)
  · have c_9 : N ≤ z := (nI_leI (a := N) (b := z) (by omega) (by omega)).mp c_9
    exact absurd c_9 (by omega)
  · have c_9 : z < N := Nat.lt_of_not_le (fun h_ => c_9 ((nI_leI (a := N) (b := z) (by omega) (by omega)).mpr h_))
    refine lv_aload_n hx hb dX4_append_12 rfl (lv_at hl 0 rfl) ?_
    refine va_get (D := D) (ci := 4) (v := .ref h2) (C := RX4) (T := TX4) (N := 3) hx hb hts (by decide +kernel) hown hK hP 0 rfl rfl 0 (by decide) (hts (.fieldLink RX4 15 "ConceptTable$Rules" "premises" "[I") (by decide +kernel)) (fun _ h9 => h9) rfl dX4_append_13 ?_
    refine lv_aload_n hx hb dX4_append_16 rfl (lv_at hl 0 rfl) ?_
    refine va_get (D := D) (ci := 4) (v := .int (nI z)) (C := RX4) (T := TX4) (N := 3) hx hb hts (by decide +kernel) hown hK hP 0 rfl rfl 2 (by decide) (hts (.fieldLink RX4 24 "ConceptTable$Rules" "size" "I") (by decide +kernel)) (fun _ h9 => h9) rfl dX4_append_17 ?_
    refine lv_iload_n hx hb dX4_append_20 rfl (lv_at hl 1 rfl) ?_
    refine va_iast hx hb hK hP hD hS 1 0 rfl rfl (vp_in_nI (by omega) (by omega)) dX4_append_21 (fun H locs hP hD hS => ?_)
    have e_up : (upd (fun i_ => nI (pr i_)) ((nI z)).toNatClampNeg (nI a)) = (fun i_ => nI ((va_up pr z a) i_)) := by rw [show ((nI z)).toNatClampNeg = z from nI_clamp (by omega)]; exact up_nI pr z a
    have hP : va_P D vwCl [(h0, .inr (4, [.ref h2, .ref h3, .int (nI z)])), (h2, .inl (cI, N, .inl (fun i_ => nI ((va_up pr z a) i_)))), (h3, .inl (cI, N, .inl (fun i_ => nI (cn i_))))] H := by rw [← e_up]; exact hP
    have hD : va_D A [(h0, .inr (4, [.ref h2, .ref h3, .int (nI z)])), (h2, .inl (cI, N, .inl (fun i_ => nI ((va_up pr z a) i_)))), (h3, .inl (cI, N, .inl (fun i_ => nI (cn i_))))] := by rw [← e_up]; exact hD
    clear e_up
    refine lv_aload_n hx hb dX4_append_22 rfl (lv_at hl 0 rfl) ?_
    refine va_get (D := D) (ci := 4) (v := .ref h3) (C := RX4) (T := TX4) (N := 3) hx hb hts (by decide +kernel) hown hK hP 0 rfl rfl 1 (by decide) (hts (.fieldLink RX4 21 "ConceptTable$Rules" "conclusions" "[I") (by decide +kernel)) (fun _ h9 => h9) rfl dX4_append_23 ?_
    refine lv_aload_n hx hb dX4_append_26 rfl (lv_at hl 0 rfl) ?_
    refine va_get (D := D) (ci := 4) (v := .int (nI z)) (C := RX4) (T := TX4) (N := 3) hx hb hts (by decide +kernel) hown hK hP 0 rfl rfl 2 (by decide) (hts (.fieldLink RX4 24 "ConceptTable$Rules" "size" "I") (by decide +kernel)) (fun _ h9 => h9) rfl dX4_append_27 ?_
    refine lv_iload_n hx hb dX4_append_30 rfl (lv_at hl 2 rfl) ?_
    refine va_iast hx hb hK hP hD hS 2 0 rfl rfl (vp_in_nI (by omega) (by omega)) dX4_append_31 (fun H locs hP hD hS => ?_)
    have e_up : (upd (fun i_ => nI (cn i_)) ((nI z)).toNatClampNeg (nI b)) = (fun i_ => nI ((va_up cn z b) i_)) := by rw [show ((nI z)).toNatClampNeg = z from nI_clamp (by omega)]; exact up_nI cn z b
    have hP : va_P D vwCl [(h0, .inr (4, [.ref h2, .ref h3, .int (nI z)])), (h2, .inl (cI, N, .inl (fun i_ => nI ((va_up pr z a) i_)))), (h3, .inl (cI, N, .inl (fun i_ => nI ((va_up cn z b) i_))))] H := by rw [← e_up]; exact hP
    have hD : va_D A [(h0, .inr (4, [.ref h2, .ref h3, .int (nI z)])), (h2, .inl (cI, N, .inl (fun i_ => nI ((va_up pr z a) i_)))), (h3, .inl (cI, N, .inl (fun i_ => nI ((va_up cn z b) i_))))] := by rw [← e_up]; exact hD
    clear e_up
    refine lv_aload_n hx hb dX4_append_32 rfl (lv_at hl 0 rfl) ?_
    refine lv_dup hx hb dX4_append_33 rfl ?_
    refine va_get (D := D) (ci := 4) (v := .int (nI z)) (C := RX4) (T := TX4) (N := 3) hx hb hts (by decide +kernel) hown hK hP 0 rfl rfl 2 (by decide) (hts (.fieldLink RX4 24 "ConceptTable$Rules" "size" "I") (by decide +kernel)) (fun _ h9 => h9) rfl dX4_append_34 ?_
    refine lv_iconst (v := 1) hx hb dX4_append_37 (by decide) ?_
    refine lv_iadd hx hb dX4_append_38 ?_
    refine lv_re (y := (nI (z + 1))) (nI_add z 1) ?_
    refine va_put (D := D) (ci := 4) (v := .int (nI (z + 1))) (ty := .int) (C := RX4) (T := TX4) (N := 3) hx hb hts (by decide +kernel) tyX4 tyX4_ok nmX4 hown hK hP hD hS 0 rfl rfl 2 (by decide) (hts (.fieldLink RX4 24 "ConceptTable$Rules" "size" "I") (by decide +kernel)) (fun _ h9 => h9) rfl (by decide +kernel) rfl rfl (Nat.le_of_ble_eq_true rfl) dX4_append_39 (fun H locs hP hD hS => ?_)
    have hP : va_P D vwCl [(h0, .inr (4, [.ref h2, .ref h3, .int (nI (z + 1))])), (h2, .inl (cI, N, .inl (fun i_ => nI ((va_up pr z a) i_)))), (h3, .inl (cI, N, .inl (fun i_ => nI ((va_up cn z b) i_))))] H := hP
    have hD : va_D A [(h0, .inr (4, [.ref h2, .ref h3, .int (nI (z + 1))])), (h2, .inl (cI, N, .inl (fun i_ => nI ((va_up pr z a) i_)))), (h3, .inl (cI, N, .inl (fun i_ => nI ((va_up cn z b) i_))))] := hD
    have hP := hP.sub (ws' := [(h0, .inr (4, [.ref h2, .ref h3, .int (nI (z + 1))])), (h2, .inl (cI, N, .inl (fun i_ => nI ((va_up pr z a) i_)))), (h3, .inl (cI, N, .inl (fun i_ => nI ((va_up cn z b) i_))))]) [0, 1, 2] rfl
    have hD := hD.sub (ws' := [(h0, .inr (4, [.ref h2, .ref h3, .int (nI (z + 1))])), (h2, .inl (cI, N, .inl (fun i_ => nI ((va_up pr z a) i_)))), (h3, .inl (cI, N, .inl (fun i_ => nI ((va_up cn z b) i_))))]) [0, 1, 2] (by decide) rfl
    have hP : va_P D vwCl [(h0, .inr (4, [.ref h2, .ref h3, .int (nI (z + 1))])), (h2, .inl (cI, N, .inl (fun i_ => nI ((va_up pr z a) i_)))), (h3, .inl (cI, N, .inl (fun i_ => nI ((va_up cn z b) i_))))] H := by exact hP
    have hD : va_D A [(h0, .inr (4, [.ref h2, .ref h3, .int (nI (z + 1))])), (h2, .inl (cI, N, .inl (fun i_ => nI ((va_up pr z a) i_)))), (h3, .inl (cI, N, .inl (fun i_ => nI ((va_up cn z b) i_))))] := by exact hD
    exact W.vret hx hb hr (fun t ht hW => ⟨⟨rfl, by rw [ht]; exact hP, hD⟩, hS.F ht⟩) hS.2.2 dX4_append_42
