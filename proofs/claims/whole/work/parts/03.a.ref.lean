set_option maxHeartbeats 4000000 in
set_option maxRecDepth 100000 in
theorem c_X8_in (l : Launch) (D : va_G) (v : Int32) (lo : Int32) (hi : Int32)  : Met l yX8_in wsX8_in ({ frames := 0, cells := 0, slots := 0, locals := 0 }) (va_Pc [.int v, .int lo, .int hi] (fun U => va_P D vwCl [] U.heap ∧ va_K D vwCl [] U)) (QcRead (b2 (decide (¬ v < lo) && decide (¬ hi < v)))) 0 0 (fun _ => False) := by
  refine Met.ofW (cc := cX8_in) (maxL := 3) (ret := (some .boolean)) (by decide) rfl ?_
  intro p e s m args below meth c s₁ B hml hv
  obtain ⟨rfl, hP, hK⟩ := hv
  have hx := B.exec
  have hb := B.bytes
  have hr := B.returns
  have hts := atoms_spec (ws := wsX8_in) B.pre
  have hown : s.vm.findClass RX8 = some m.cls := findClass_of_methodNamed B.named
  have hlocks := B.notSynchronized
  have hl := lv_entry ([.int v, .int lo, .int hi]) (n := 3) (Nat.le_of_ble_eq_true rfl)
  rw [lg_entry_eq]
  generalize (lg_sl ([.int v, .int lo, .int hi]) ++ List.replicate (3 - (lg_sl ([.int v, .int lo, .int hi])).length) Slot.unset).toArray = ls at hl ⊢
  have hl : lv_has ls 3 [(0, .int v), (1, .int lo), (2, .int hi)] := hl
  refine lv_iload_n hx hb dX8_in_0 rfl (lv_at hl 0 rfl) ?_
  refine lv_iload_n hx hb dX8_in_1 rfl (lv_at hl 1 rfl) ?_
  refine lv_icmp_lt (tgt := 14) hx hb dX8_in_2 (by decide) (fun c_2 => ?_) (fun c_2 => ?_)
  · refine lv_iconst (v := 0) hx hb dX8_in_14 (by decide) ?_
    have e_ret : (0 : Int32) = (b2 (decide (¬ v < lo) && decide (¬ hi < v))) := by simp [b2, c_2]
    exact W.zret (v := (0 : Int32)) hx hb hr rfl (fun t ht hW => ⟨congrArg (fun z_ => Outcome.returned (some (Value.int z_))) e_ret, ht⟩) (fun q h => by cases h) dX8_in_15
  · refine lv_iload_n hx hb dX8_in_5 rfl (lv_at hl 0 rfl) ?_
    refine lv_iload_n hx hb dX8_in_6 rfl (lv_at hl 2 rfl) ?_
    refine lv_icmp_gt (tgt := 14) hx hb dX8_in_7 (by decide) (fun c_7 => ?_) (fun c_7 => ?_)
    · refine lv_iconst (v := 0) hx hb dX8_in_14 (by decide) ?_
      have e_ret : (0 : Int32) = (b2 (decide (¬ v < lo) && decide (¬ hi < v))) := by simp [b2, c_2, c_7]
      exact W.zret (v := (0 : Int32)) hx hb hr rfl (fun t ht hW => ⟨congrArg (fun z_ => Outcome.returned (some (Value.int z_))) e_ret, ht⟩) (fun q h => by cases h) dX8_in_15
    · refine lv_iconst (v := 1) hx hb dX8_in_10 (by decide) ?_
      refine lv_goto (tgt := 15) hx hb dX8_in_11 (by decide) ?_
      have e_ret : (1 : Int32) = (b2 (decide (¬ v < lo) && decide (¬ hi < v))) := by simp [b2, c_2, c_7]
      exact W.zret (v := (1 : Int32)) hx hb hr rfl (fun t ht hW => ⟨congrArg (fun z_ => Outcome.returned (some (Value.int z_))) e_ret, ht⟩) (fun q h => by cases h) dX8_in_15

set_option maxHeartbeats 4000000 in
set_option maxRecDepth 100000 in
theorem c_X8_isPart (l : Launch) (D : va_G) (a : Int32) (b : Int32)  : Met l yX8_isPart wsX8_isPart ({ frames := 0, cells := 0, slots := 0, locals := 0 }) (va_Pc [.int a, .int b] (fun U => va_P D vwCl [] U.heap ∧ va_K D vwCl [] U)) (QcRead (b2 (sb a b))) 0 0 (fun _ => False) := by
  refine Met.ofW (cc := cX8_isPart) (maxL := 2) (ret := (some .boolean)) (by decide) rfl ?_
  intro p e s m args below meth c s₁ B hml hv
  obtain ⟨rfl, hP, hK⟩ := hv
  have hx := B.exec
  have hb := B.bytes
  have hr := B.returns
  have hts := atoms_spec (ws := wsX8_isPart) B.pre
  have hown : s.vm.findClass RX8 = some m.cls := findClass_of_methodNamed B.named
  have hlocks := B.notSynchronized
  have hl := lv_entry ([.int a, .int b]) (n := 2) (Nat.le_of_ble_eq_true rfl)
  rw [lg_entry_eq]
  generalize (lg_sl ([.int a, .int b]) ++ List.replicate (2 - (lg_sl ([.int a, .int b])).length) Slot.unset).toArray = ls at hl ⊢
  have hl : lv_has ls 2 [(0, .int a), (1, .int b)] := hl
  refine lv_iload_n hx hb dX8_isPart_0 rfl (lv_at hl 0 rfl) ?_
  refine lv_iload_n hx hb dX8_isPart_1 rfl (lv_at hl 1 rfl) ?_
  refine lv_iconst (v := -1) hx hb dX8_isPart_2 (by decide) ?_
  refine lv_ixor hx hb dX8_isPart_3 ?_
  refine lv_iand hx hb dX8_isPart_4 ?_
  refine lv_if_ne (tgt := 12) hx hb dX8_isPart_5 (by decide) (fun c_5 => ?_) (fun c_5 => ?_)
  · refine lv_iconst (v := 0) hx hb dX8_isPart_12 (by decide) ?_
    have e_ret : (0 : Int32) = (b2 (sb a b)) := by exact sb_0 c_5
    exact W.zret (v := (0 : Int32)) hx hb hr rfl (fun t ht hW => ⟨congrArg (fun z_ => Outcome.returned (some (Value.int z_))) e_ret, ht⟩) (fun q h => by cases h) dX8_isPart_13
  · refine lv_iconst (v := 1) hx hb dX8_isPart_8 (by decide) ?_
    refine lv_goto (tgt := 13) hx hb dX8_isPart_9 (by decide) ?_
    have e_ret : (1 : Int32) = (b2 (sb a b)) := by exact sb_1 c_5
    exact W.zret (v := (1 : Int32)) hx hb hr rfl (fun t ht hW => ⟨congrArg (fun z_ => Outcome.returned (some (Value.int z_))) e_ret, ht⟩) (fun q h => by cases h) dX8_isPart_13

theorem c_X8_isPart_N (l : Launch) (D : va_G) (a b : Nat) (ha : a < 2 ^ 31) : Met l yX8_isPart wsX8_isPart ({ frames := 0, cells := 0, slots := 0, locals := 0 }) (va_Pc [.int (nI a), .int (nI b)] (fun U => va_P D vwCl [] U.heap ∧ va_K D vwCl [] U)) (QcRead (b2 (sN a b))) 0 0 (fun _ => False) := by
  rw [← sb_nI ha]; exact c_X8_isPart l D (nI a) (nI b)

set_option maxHeartbeats 4000000 in
set_option maxRecDepth 100000 in
theorem c_X8_all (l : Launch) (D : va_G) (h0 : Nat) (fs : List Value) (n : Nat) (f0 : fs[0]? = some (.int (nI n))) (hn : n ≤ 12) : Met l yX8_all wsX8_all ({ frames := 0, cells := 0, slots := 0, locals := 0 }) (va_Pc [.ref h0] (fun U => va_P D vwCl [(h0, .inr (7, fs))] U.heap ∧ va_K D vwCl [] U)) (QcRead (nI (2 ^ n - 1))) 0 0 (fun _ => False) := by
  refine Met.ofW (cc := cX8_all) (maxL := 1) (ret := (some .int)) (by decide) rfl ?_
  intro p e s m args below meth c s₁ B hml hv
  obtain ⟨rfl, hP, hK⟩ := hv
  have hx := B.exec
  have hb := B.bytes
  have hr := B.returns
  have hts := atoms_spec (ws := wsX8_all) B.pre
  have hown : s.vm.findClass RX8 = some m.cls := findClass_of_methodNamed B.named
  have hlocks := B.notSynchronized
  have hl := lv_entry ([.ref h0]) (n := 1) (Nat.le_of_ble_eq_true rfl)
  rw [lg_entry_eq]
  generalize (lg_sl ([.ref h0]) ++ List.replicate (1 - (lg_sl ([.ref h0])).length) Slot.unset).toArray = ls at hl ⊢
  have hl : lv_has ls 1 [(0, .ref h0)] := hl
  refine lv_iconst (v := 1) hx hb dX8_all_0 (by decide) ?_
  refine lv_aload_n hx hb dX8_all_1 rfl (lv_at hl 0 rfl) ?_
  refine va_get (D := D) (ci := 7) (v := .int (nI n)) (C := RX8) (T := TX8) (N := 18) hx hb hts (by decide +kernel) hown hK hP 0 rfl rfl 0 (by decide) (hts (.fieldLink RX8 7 "ConceptTableModel" "n" "I") (by decide +kernel)) (fun _ h9 => h9) f0 dX8_all_2 ?_
  refine lv_ishl hx hb dX8_all_5 ?_
  refine lv_re (y := (nI (2 ^ n))) (nx_sh1 (k := n) (by omega)) ?_
  refine lv_iconst (v := 1) hx hb dX8_all_6 (by decide) ?_
  refine lv_isub hx hb dX8_all_7 ?_
  refine lv_re (y := (nI ((2 ^ n) - 1))) (pk_sub (a := (2 ^ n)) (b := 1) (p2_pos n)) ?_
  have e_ret : (nI ((2 ^ n) - 1)) = (nI (2 ^ n - 1)) := by rfl
  exact W.iret (v := (nI ((2 ^ n) - 1))) hx hb hr (fun t ht hW => ⟨congrArg (fun z_ => Outcome.returned (some (Value.int z_))) e_ret, ht⟩) (fun q h => by cases h) dX8_all_8

set_option maxHeartbeats 4000000 in
set_option maxRecDepth 100000 in
theorem c_X8_isSet (l : Launch) (D : va_G) (h0 : Nat) (fs : List Value) (n : Nat) (set : Int32) (f0 : fs[0]? = some (.int (nI n))) (hn : n ≤ 12) : Met l yX8_isSet wsX8_isSet ({ frames := 1, cells := 0, slots := 0, locals := 21 }) (va_Pc [.ref h0, .int set] (fun U => va_P D vwCl [(h0, .inr (7, fs))] U.heap ∧ va_K D vwCl [] U)) (QcRead (b2 (sb set (nI (2 ^ n - 1))))) 0 0 (fun _ => False) := by
  refine Met.ofW (cc := cX8_isSet) (maxL := 2) (ret := (some .boolean)) (by decide) rfl ?_
  intro p e s m args below meth c s₁ B hml hv
  obtain ⟨rfl, hP, hK⟩ := hv
  have hx := B.exec
  have hb := B.bytes
  have hr := B.returns
  have hts := atoms_spec (ws := wsX8_isSet) B.pre
  have hown : s.vm.findClass RX8 = some m.cls := findClass_of_methodNamed B.named
  have hlocks := B.notSynchronized
  have hl := lv_entry ([.ref h0, .int set]) (n := 2) (Nat.le_of_ble_eq_true rfl)
  rw [lg_entry_eq]
  generalize (lg_sl ([.ref h0, .int set]) ++ List.replicate (2 - (lg_sl ([.ref h0, .int set])).length) Slot.unset).toArray = ls at hl ⊢
  have hl : lv_has ls 2 [(0, .ref h0), (1, .int set)] := hl
  refine lv_iload_n hx hb dX8_isSet_0 rfl (lv_at hl 1 rfl) ?_
  refine lv_aload_n hx hb dX8_isSet_1 rfl (lv_at hl 0 rfl) ?_
  refine rd_V (As := []) (rest := [.int set]) ⟨hx, hb, hml, hown, hts⟩ (c_X8_all l D h0 fs n f0 (by assumption)) (cwV 0 hts gX8_isSet_X8_all rfl rfl rfl (by decide +kernel) ⟨Nat.le_of_ble_eq_true rfl, Nat.le_of_ble_eq_true rfl⟩) (hP.sub (ws' := [(h0, .inr (7, fs))]) [0] rfl) (hK.sub (tys' := []) [] rfl) (va_recv hK hP (ci := 7) (q0 := 0) rfl rfl) rfl rfl hl.1 rfl (lv_room (Nat.le_of_ble_eq_true rfl)) dX8_isSet_2 ⟨Nat.le_of_ble_eq_true rfl, Nat.le_of_ble_eq_true rfl⟩ ?_
  refine rd_S (As := [.int set, .int (nI (2 ^ n - 1))]) (rest := []) ⟨hx, hb, hml, hown, hts⟩ (c_X8_isPart l D set (nI (2 ^ n - 1)) ) (va_cwS 2 hts gX8_isSet_X8_isPart rfl rfl rfl (by decide +kernel) ⟨Nat.le_of_ble_eq_true rfl, Nat.le_of_ble_eq_true rfl⟩) (hP.sub (ws' := []) [] rfl) (hK.sub (tys' := []) [] rfl) rfl rfl hl.1 rfl (lv_room (Nat.le_of_ble_eq_true rfl)) dX8_isSet_5 ⟨Nat.le_of_ble_eq_true rfl, Nat.le_of_ble_eq_true rfl⟩ ?_
  have e_ret : (b2 (sb set (nI (2 ^ n - 1)))) = (b2 (sb set (nI (2 ^ n - 1)))) := by rfl
  exact W.zret (v := (b2 (sb set (nI (2 ^ n - 1))))) hx hb hr (nb_b2 _) (fun t ht hW => ⟨congrArg (fun z_ => Outcome.returned (some (Value.int z_))) e_ret, ht⟩) (fun q h => by cases h) dX8_isSet_8

set_option maxHeartbeats 4000000 in
set_option maxRecDepth 100000 in
theorem c_X8_commonOf (l : Launch) (D : va_G) (h0 : Nat) (fs : List Value) (h2 : Nat) (cI : ClassId) (n : Nat) (o : Nat) (r : Nat → Nat) (q : Nat) (f0 : fs[0]? = some (.int (nI n))) (f1 : fs[1]? = some (.int (nI o))) (f2 : fs[2]? = some (.ref h2)) (hn : n ≤ 12) (ho : o ≤ 20) (hq : q < 2 ^ 31) : Met l yX8_commonOf wsX8_commonOf ({ frames := 1, cells := 0, slots := 0, locals := 20 }) (va_Pc [.ref h0, .int (nI q)] (fun U => va_P D vwCl [(h0, .inr (7, fs)), (h2, .inl (cI, 20, .inl (fun i_ => nI (r i_))))] U.heap ∧ va_K D vwCl [(cI, .int)] U)) (QcRead (nI (com r n q o))) 0 0 (fun _ => False) := by
  refine Met.ofW (cc := cX8_commonOf) (maxL := 4) (ret := (some .int)) (by decide) rfl ?_
  intro p e s m args below meth c s₁ B hml hv
  obtain ⟨rfl, hP, hK⟩ := hv
  have hx := B.exec
  have hb := B.bytes
  have hr := B.returns
  have hts := atoms_spec (ws := wsX8_commonOf) B.pre
  have hown : s.vm.findClass RX8 = some m.cls := findClass_of_methodNamed B.named
  have hlocks := B.notSynchronized
  have hl := lv_entry ([.ref h0, .int (nI q)]) (n := 4) (Nat.le_of_ble_eq_true rfl)
  rw [lg_entry_eq]
  generalize (lg_sl ([.ref h0, .int (nI q)]) ++ List.replicate (4 - (lg_sl ([.ref h0, .int (nI q)])).length) Slot.unset).toArray = ls at hl ⊢
  have hl : lv_has ls 4 [(0, .ref h0), (1, .int (nI q))] := hl
  refine lv_aload_n hx hb dX8_commonOf_0 rfl (lv_at hl 0 rfl) ?_
  refine rd_V (As := []) (rest := []) ⟨hx, hb, hml, hown, hts⟩ (c_X8_all l D h0 fs n f0 (by assumption)) (cwV 0 hts gX8_commonOf_X8_all rfl rfl rfl (by decide +kernel) ⟨Nat.le_of_ble_eq_true rfl, Nat.le_of_ble_eq_true rfl⟩) (hP.sub (ws' := [(h0, .inr (7, fs))]) [0] rfl) (hK.sub (tys' := []) [] rfl) (va_recv hK hP (ci := 7) (q0 := 0) rfl rfl) rfl rfl hl.1 rfl (lv_room (Nat.le_of_ble_eq_true rfl)) dX8_commonOf_1 ⟨Nat.le_of_ble_eq_true rfl, Nat.le_of_ble_eq_true rfl⟩ ?_
  refine lv_istore_n (lv' := [(2, .int (nI (2 ^ n - 1))), (0, .ref h0), (1, .int (nI q))]) hx hb dX8_commonOf_4 rfl hl (by decide) rfl (fun ls hl => ?_)
  refine lv_iconst (v := 0) hx hb dX8_commonOf_5 (by decide) ?_
  refine lv_istore_n (lv' := [(3, .int (0 : Int32)), (2, .int (nI (2 ^ n - 1))), (0, .ref h0), (1, .int (nI q))]) hx hb dX8_commonOf_6 rfl hl (by decide) rfl (fun ls hl => ?_)
  have lp_7 : ∀ (n_ : Nat) (k : Nat), o - k < n_ → (k ≤ o) → ∀ (x3 : Int32), x3 = nI k → ∀ (x2 : Int32), x2 = nI (com r n q k) → ∀ (ls : Array Slot), lv_has ls 4 [(3, .int x3), (2, .int x2), (0, .ref h0), (1, .int (nI q))] → W p l e (headSpec wsX8_commonOf ({ frames := 1, cells := 0, slots := 0, locals := 20 })).room s m ([.ref h0, .int (nI q)] : List Value).toArray below meth c s.heap [] 0 0 (MQ below (QcRead (nI (com r n q o))) ([.ref h0, .int (nI q)] : List Value).toArray s 0 0 (fun _ => False)) (F0 m 7 ls []) := by
    intro n_
    induction n_ with
    | zero => intro k h0_; exact absurd h0_ (Nat.not_lt_zero _)
    | succ n_ ih_7 =>
      intro k hm_7 hk_k x3 e_x3 x2 e_x2 ls hl
      subst e_x3
      subst e_x2
      refine lv_iload_n hx hb dX8_commonOf_7 rfl (lv_at hl 0 rfl) ?_
      refine lv_aload_n hx hb dX8_commonOf_8 rfl (lv_at hl 2 rfl) ?_
      refine va_get (D := D) (ci := 7) (v := .int (nI o)) (C := RX8) (T := TX8) (N := 18) hx hb hts (by decide +kernel) hown hK hP 0 rfl rfl 1 (by decide) (hts (.fieldLink RX8 67 "ConceptTableModel" "objects" "I") (by decide +kernel)) (fun _ h9 => h9) f1 dX8_commonOf_9 ?_
      refine lv_icmp_ge (tgt := 43) hx hb dX8_commonOf_12 (by decide) (fun c_12 => ?_) (fun c_12 => ?_)
      · have c_12 : o ≤ k := (nI_leI (a := o) (b := k) (by omega) (by omega)).mp c_12
        refine lv_iload_n hx hb dX8_commonOf_43 rfl (lv_at hl 1 rfl) ?_
        have e_ret : (nI (com r n q k)) = (nI (com r n q o)) := by rw [show k = o by omega]
        exact W.iret (v := (nI (com r n q k))) hx hb hr (fun t ht hW => ⟨congrArg (fun z_ => Outcome.returned (some (Value.int z_))) e_ret, ht⟩) (fun q h => by cases h) dX8_commonOf_44
      · have c_12 : k < o := Nat.lt_of_not_le (fun h_ => c_12 ((nI_leI (a := o) (b := k) (by omega) (by omega)).mpr h_))
        refine lv_iload_n hx hb dX8_commonOf_15 rfl (lv_at hl 3 rfl) ?_
        refine lv_iload_n hx hb dX8_commonOf_16 rfl (lv_at hl 0 rfl) ?_
        refine lv_ishr hx hb dX8_commonOf_17 ?_
        refine lv_re (y := (nI (q / 2 ^ k))) (nx_shr (q := q) (k := k) (by omega) (by omega)) ?_
        refine lv_iconst (v := 1) hx hb dX8_commonOf_18 (by decide) ?_
        refine lv_iand hx hb dX8_commonOf_19 ?_
        refine lv_re (y := (nI ((q / 2 ^ k) &&& 1))) (nx_and (q / 2 ^ k) 1) ?_
        refine lv_iconst (v := 1) hx hb dX8_commonOf_20 (by decide) ?_
        refine lv_icmp_ne (tgt := 35) hx hb dX8_commonOf_21 (by decide) (fun c_21 => ?_) (fun c_21 => ?_)
        · have c_21 : ¬ ((q / 2 ^ k) &&& 1) = 1 := fun h_ => c_21 ((nI_eq (a := ((q / 2 ^ k) &&& 1)) (b := 1) (Nat.lt_of_le_of_lt Nat.and_le_right (by decide)) (by decide)).mpr h_)
          refine lv_iload_n hx hb dX8_commonOf_35 rfl (lv_at hl 1 rfl) ?_
          refine lv_istore_n (lv' := [(2, .int (nI (com r n q k))), (3, .int (nI k)), (0, .ref h0), (1, .int (nI q))]) hx hb dX8_commonOf_36 rfl hl (by decide) rfl (fun ls hl => ?_)
          refine lv_iinc (v := (nI (k + 1))) (lv' := [(3, .int (nI (k + 1))), (2, .int (nI (com r n q k))), (0, .ref h0), (1, .int (nI q))]) hx hb dX8_commonOf_37 hl (k := 1) rfl (nI_add _ 1) (by decide) rfl (fun ls hl => ?_)
          refine lv_goto (tgt := 7) hx hb dX8_commonOf_40 (by decide) ?_
          exact ih_7 (k + 1) (by omega) (by omega) _ rfl _ (by rw [com, if_neg (fun z => c_21 (nx_bit.mpr z))]) _ (lv_sub hl [0, 1, 2, 3] rfl)
        · have c_21 : ((q / 2 ^ k) &&& 1) = 1 := (nI_eq (a := ((q / 2 ^ k) &&& 1)) (b := 1) (Nat.lt_of_le_of_lt Nat.and_le_right (by decide)) (by decide)).mp c_21
          refine lv_iload_n hx hb dX8_commonOf_24 rfl (lv_at hl 1 rfl) ?_
          refine lv_aload_n hx hb dX8_commonOf_25 rfl (lv_at hl 2 rfl) ?_
          refine va_get (D := D) (ci := 7) (v := .ref h2) (C := RX8) (T := TX8) (N := 18) hx hb hts (by decide +kernel) hown hK hP 0 rfl rfl 2 (by decide) (hts (.fieldLink RX8 13 "ConceptTableModel" "rows" "[I") (by decide +kernel)) (fun _ h9 => h9) f2 dX8_commonOf_26 ?_
          refine lv_iload_n hx hb dX8_commonOf_29 rfl (lv_at hl 0 rfl) ?_
          refine va_iald hx hb hK hP 1 0 rfl rfl (vp_in_nI (by omega) (by omega)) dX8_commonOf_30 ?_
          refine lv_re (y := (nI (r k))) (by rw [nI_clamp (by omega)]) ?_
          refine lv_iand hx hb dX8_commonOf_31 ?_
          refine lv_re (y := (nI ((com r n q k) &&& (r k)))) (nx_and (com r n q k) (r k)) ?_
          refine lv_goto (tgt := 36) hx hb dX8_commonOf_32 (by decide) ?_
          refine lv_istore_n (lv' := [(2, .int (nI ((com r n q k) &&& (r k)))), (3, .int (nI k)), (0, .ref h0), (1, .int (nI q))]) hx hb dX8_commonOf_36 rfl hl (by decide) rfl (fun ls hl => ?_)
          refine lv_iinc (v := (nI (k + 1))) (lv' := [(3, .int (nI (k + 1))), (2, .int (nI ((com r n q k) &&& (r k)))), (0, .ref h0), (1, .int (nI q))]) hx hb dX8_commonOf_37 hl (k := 1) rfl (nI_add _ 1) (by decide) rfl (fun ls hl => ?_)
          refine lv_goto (tgt := 7) hx hb dX8_commonOf_40 (by decide) ?_
          exact ih_7 (k + 1) (by omega) (by omega) _ rfl _ (by rw [com, if_pos (nx_bit.mp c_21)]) _ (lv_sub hl [0, 1, 2, 3] rfl)
  exact lp_7 _ 0 (Nat.lt_succ_self _) (Nat.zero_le _) _ rfl _ rfl _ (lv_sub hl [0, 1, 2, 3] rfl)

set_option maxHeartbeats 4000000 in
set_option maxRecDepth 100000 in
theorem c_X8_extentOf (l : Launch) (D : va_G) (h0 : Nat) (fs : List Value) (h2 : Nat) (cI : ClassId) (o : Nat) (r : Nat → Nat) (q : Nat) (f1 : fs[1]? = some (.int (nI o))) (f2 : fs[2]? = some (.ref h2)) (ho : o ≤ 20) (hq : q < 2 ^ 31) : Met l yX8_extentOf wsX8_extentOf ({ frames := 1, cells := 0, slots := 0, locals := 21 }) (va_Pc [.ref h0, .int (nI q)] (fun U => va_P D vwCl [(h0, .inr (7, fs)), (h2, .inl (cI, 20, .inl (fun i_ => nI (r i_))))] U.heap ∧ va_K D vwCl [(cI, .int)] U)) (QcRead (nI (ext r q o))) 0 0 (fun _ => False) := by
  refine Met.ofW (cc := cX8_extentOf) (maxL := 4) (ret := (some .int)) (by decide) rfl ?_
  intro p e s m args below meth c s₁ B hml hv
  obtain ⟨rfl, hP, hK⟩ := hv
  have hx := B.exec
  have hb := B.bytes
  have hr := B.returns
  have hts := atoms_spec (ws := wsX8_extentOf) B.pre
  have hown : s.vm.findClass RX8 = some m.cls := findClass_of_methodNamed B.named
  have hlocks := B.notSynchronized
  have hl := lv_entry ([.ref h0, .int (nI q)]) (n := 4) (Nat.le_of_ble_eq_true rfl)
  rw [lg_entry_eq]
  generalize (lg_sl ([.ref h0, .int (nI q)]) ++ List.replicate (4 - (lg_sl ([.ref h0, .int (nI q)])).length) Slot.unset).toArray = ls at hl ⊢
  have hl : lv_has ls 4 [(0, .ref h0), (1, .int (nI q))] := hl
  refine lv_iconst (v := 0) hx hb dX8_extentOf_0 (by decide) ?_
  refine lv_istore_n (lv' := [(2, .int (0 : Int32)), (0, .ref h0), (1, .int (nI q))]) hx hb dX8_extentOf_1 rfl hl (by decide) rfl (fun ls hl => ?_)
  refine lv_iconst (v := 0) hx hb dX8_extentOf_2 (by decide) ?_
  refine lv_istore_n (lv' := [(3, .int (0 : Int32)), (2, .int (0 : Int32)), (0, .ref h0), (1, .int (nI q))]) hx hb dX8_extentOf_3 rfl hl (by decide) rfl (fun ls hl => ?_)
  have lp_4 : ∀ (n_ : Nat) (k : Nat), o - k < n_ → (k ≤ o) → ∀ (x3 : Int32), x3 = nI k → ∀ (x2 : Int32), x2 = nI (ext r q k) → ∀ (ls : Array Slot), lv_has ls 4 [(3, .int x3), (2, .int x2), (0, .ref h0), (1, .int (nI q))] → W p l e (headSpec wsX8_extentOf ({ frames := 1, cells := 0, slots := 0, locals := 21 })).room s m ([.ref h0, .int (nI q)] : List Value).toArray below meth c s.heap [] 0 0 (MQ below (QcRead (nI (ext r q o))) ([.ref h0, .int (nI q)] : List Value).toArray s 0 0 (fun _ => False)) (F0 m 4 ls []) := by
    intro n_
    induction n_ with
    | zero => intro k h0_; exact absurd h0_ (Nat.not_lt_zero _)
    | succ n_ ih_4 =>
      intro k hm_4 hk_k x3 e_x3 x2 e_x2 ls hl
      subst e_x3
      subst e_x2
      refine lv_iload_n hx hb dX8_extentOf_4 rfl (lv_at hl 0 rfl) ?_
      refine lv_aload_n hx hb dX8_extentOf_5 rfl (lv_at hl 2 rfl) ?_
      refine va_get (D := D) (ci := 7) (v := .int (nI o)) (C := RX8) (T := TX8) (N := 18) hx hb hts (by decide +kernel) hown hK hP 0 rfl rfl 1 (by decide) (hts (.fieldLink RX8 67 "ConceptTableModel" "objects" "I") (by decide +kernel)) (fun _ h9 => h9) f1 dX8_extentOf_6 ?_
      refine lv_icmp_ge (tgt := 41) hx hb dX8_extentOf_9 (by decide) (fun c_9 => ?_) (fun c_9 => ?_)
      · have c_9 : o ≤ k := (nI_leI (a := o) (b := k) (by omega) (by omega)).mp c_9
        refine lv_iload_n hx hb dX8_extentOf_41 rfl (lv_at hl 1 rfl) ?_
        have e_ret : (nI (ext r q k)) = (nI (ext r q o)) := by rw [show k = o by omega]
        exact W.iret (v := (nI (ext r q k))) hx hb hr (fun t ht hW => ⟨congrArg (fun z_ => Outcome.returned (some (Value.int z_))) e_ret, ht⟩) (fun q h => by cases h) dX8_extentOf_42
      · have c_9 : k < o := Nat.lt_of_not_le (fun h_ => c_9 ((nI_leI (a := o) (b := k) (by omega) (by omega)).mpr h_))
        refine lv_iload_n hx hb dX8_extentOf_12 rfl (lv_at hl 3 rfl) ?_
        refine lv_aload_n hx hb dX8_extentOf_13 rfl (lv_at hl 2 rfl) ?_
        refine va_get (D := D) (ci := 7) (v := .ref h2) (C := RX8) (T := TX8) (N := 18) hx hb hts (by decide +kernel) hown hK hP 0 rfl rfl 2 (by decide) (hts (.fieldLink RX8 13 "ConceptTableModel" "rows" "[I") (by decide +kernel)) (fun _ h9 => h9) f2 dX8_extentOf_14 ?_
        refine lv_iload_n hx hb dX8_extentOf_17 rfl (lv_at hl 0 rfl) ?_
        refine va_iald hx hb hK hP 1 0 rfl rfl (vp_in_nI (by omega) (by omega)) dX8_extentOf_18 ?_
        refine lv_re (y := (nI (r k))) (by rw [nI_clamp (by omega)]) ?_
        refine rd_S (As := [.int (nI q), .int (nI (r k))]) (rest := []) ⟨hx, hb, hml, hown, hts⟩ (c_X8_isPart_N l D q (r k) (by assumption)) (va_cwS 2 hts gX8_extentOf_X8_isPart rfl rfl rfl (by decide +kernel) ⟨Nat.le_of_ble_eq_true rfl, Nat.le_of_ble_eq_true rfl⟩) (hP.sub (ws' := []) [] rfl) (hK.sub (tys' := []) [] rfl) rfl rfl hl.1 rfl (lv_room (Nat.le_of_ble_eq_true rfl)) dX8_extentOf_19 ⟨Nat.le_of_ble_eq_true rfl, Nat.le_of_ble_eq_true rfl⟩ ?_
        refine lv_if_eq (tgt := 33) hx hb dX8_extentOf_22 (by decide) (fun c_22 => ?_) (fun c_22 => ?_)
        · have c_22 := b2_0.mp c_22
          refine lv_iload_n hx hb dX8_extentOf_33 rfl (lv_at hl 1 rfl) ?_
          refine lv_istore_n (lv' := [(2, .int (nI (ext r q k))), (3, .int (nI k)), (0, .ref h0), (1, .int (nI q))]) hx hb dX8_extentOf_34 rfl hl (by decide) rfl (fun ls hl => ?_)
          refine lv_iinc (v := (nI (k + 1))) (lv' := [(3, .int (nI (k + 1))), (2, .int (nI (ext r q k))), (0, .ref h0), (1, .int (nI q))]) hx hb dX8_extentOf_35 hl (k := 1) rfl (nI_add _ 1) (by decide) rfl (fun ls hl => ?_)
          refine lv_goto (tgt := 4) hx hb dX8_extentOf_38 (by decide) ?_
          exact ih_4 (k + 1) (by omega) (by omega) _ rfl _ (by rw [ext, if_neg (by rw [c_22]; decide)]) _ (lv_sub hl [0, 1, 2, 3] rfl)
        · have c_22 := b2_n0.mp c_22
          refine lv_iload_n hx hb dX8_extentOf_25 rfl (lv_at hl 1 rfl) ?_
          refine lv_iconst (v := 1) hx hb dX8_extentOf_26 (by decide) ?_
          refine lv_iload_n hx hb dX8_extentOf_27 rfl (lv_at hl 0 rfl) ?_
          refine lv_ishl hx hb dX8_extentOf_28 ?_
          refine lv_re (y := (nI (2 ^ k))) (nx_sh1 (k := k) (by omega)) ?_
          refine lv_ior hx hb dX8_extentOf_29 ?_
          refine lv_re (y := (nI ((ext r q k) ||| (2 ^ k)))) (nx_or (ext r q k) (2 ^ k)) ?_
          refine lv_goto (tgt := 34) hx hb dX8_extentOf_30 (by decide) ?_
          refine lv_istore_n (lv' := [(2, .int (nI ((ext r q k) ||| (2 ^ k)))), (3, .int (nI k)), (0, .ref h0), (1, .int (nI q))]) hx hb dX8_extentOf_34 rfl hl (by decide) rfl (fun ls hl => ?_)
          refine lv_iinc (v := (nI (k + 1))) (lv' := [(3, .int (nI (k + 1))), (2, .int (nI ((ext r q k) ||| (2 ^ k)))), (0, .ref h0), (1, .int (nI q))]) hx hb dX8_extentOf_35 hl (k := 1) rfl (nI_add _ 1) (by decide) rfl (fun ls hl => ?_)
          refine lv_goto (tgt := 4) hx hb dX8_extentOf_38 (by decide) ?_
          exact ih_4 (k + 1) (by omega) (by omega) _ rfl _ (by rw [ext, if_pos c_22]) _ (lv_sub hl [0, 1, 2, 3] rfl)
  exact lp_4 _ 0 (Nat.lt_succ_self _) (Nat.zero_le _) _ rfl _ rfl _ (lv_sub hl [0, 1, 2, 3] rfl)

set_option maxHeartbeats 4000000 in
set_option maxRecDepth 100000 in
theorem c_X8_closureOf (l : Launch) (D : va_G) (h0 : Nat) (fs : List Value) (h2 : Nat) (cI : ClassId) (n : Nat) (o : Nat) (r : Nat → Nat) (q : Nat) (f0 : fs[0]? = some (.int (nI n))) (f1 : fs[1]? = some (.int (nI o))) (f2 : fs[2]? = some (.ref h2)) (hn : n ≤ 12) (ho : o ≤ 20) (hq : q < 2 ^ 31) : Met l yX8_closureOf wsX8_closureOf ({ frames := 2, cells := 0, slots := 0, locals := 44 }) (va_Pc [.ref h0, .int (nI q)] (fun U => va_P D vwCl [(h0, .inr (7, fs)), (h2, .inl (cI, 20, .inl (fun i_ => nI (r i_))))] U.heap ∧ va_K D vwCl [(cI, .int)] U)) (QcRead (nI (clo r n o q))) 0 0 (fun _ => False) := by
  refine Met.ofW (cc := cX8_closureOf) (maxL := 2) (ret := (some .int)) (by decide) rfl ?_
  intro p e s m args below meth c s₁ B hml hv
  obtain ⟨rfl, hP, hK⟩ := hv
  have hx := B.exec
  have hb := B.bytes
  have hr := B.returns
  have hts := atoms_spec (ws := wsX8_closureOf) B.pre
  have hown : s.vm.findClass RX8 = some m.cls := findClass_of_methodNamed B.named
  have hlocks := B.notSynchronized
  have hl := lv_entry ([.ref h0, .int (nI q)]) (n := 2) (Nat.le_of_ble_eq_true rfl)
  rw [lg_entry_eq]
  generalize (lg_sl ([.ref h0, .int (nI q)]) ++ List.replicate (2 - (lg_sl ([.ref h0, .int (nI q)])).length) Slot.unset).toArray = ls at hl ⊢
  have hl : lv_has ls 2 [(0, .ref h0), (1, .int (nI q))] := hl
  have hxl : ext r q o < 2 ^ 31 := Nat.lt_of_lt_of_le (ext_lt r q o) (Nat.le_trans (p2_le20 ho) (by decide))
  refine lv_aload_n hx hb dX8_closureOf_0 rfl (lv_at hl 0 rfl) ?_
  refine lv_aload_n hx hb dX8_closureOf_1 rfl (lv_at hl 0 rfl) ?_
  refine lv_iload_n hx hb dX8_closureOf_2 rfl (lv_at hl 1 rfl) ?_
  refine rd_V (As := [.int (nI q)]) (rest := [.ref h0]) ⟨hx, hb, hml, hown, hts⟩ (c_X8_extentOf l D h0 fs h2 cI o r q f1 f2 ho hq) (cwV 1 hts gX8_closureOf_X8_extentOf rfl rfl rfl (by decide +kernel) ⟨Nat.le_of_ble_eq_true rfl, Nat.le_of_ble_eq_true rfl⟩) (hP.sub (ws' := [(h0, .inr (7, fs)), (h2, .inl (cI, 20, .inl (fun i_ => nI (r i_))))]) [0, 1] rfl) (hK.sub (tys' := [(cI, .int)]) [0] rfl) (va_recv hK hP (ci := 7) (q0 := 0) rfl rfl) rfl rfl hl.1 rfl (lv_room (Nat.le_of_ble_eq_true rfl)) dX8_closureOf_3 ⟨Nat.le_of_ble_eq_true rfl, Nat.le_of_ble_eq_true rfl⟩ ?_
  refine rd_V (As := [.int (nI (ext r q o))]) (rest := []) ⟨hx, hb, hml, hown, hts⟩ (c_X8_commonOf l D h0 fs h2 cI n o r (ext r q o) f0 f1 f2 (by assumption) (by assumption) (by assumption)) (cwV 1 hts gX8_closureOf_X8_commonOf rfl rfl rfl (by decide +kernel) ⟨Nat.le_of_ble_eq_true rfl, Nat.le_of_ble_eq_true rfl⟩) (hP.sub (ws' := [(h0, .inr (7, fs)), (h2, .inl (cI, 20, .inl (fun i_ => nI (r i_))))]) [0, 1] rfl) (hK.sub (tys' := [(cI, .int)]) [0] rfl) (va_recv hK hP (ci := 7) (q0 := 0) rfl rfl) rfl rfl hl.1 rfl (lv_room (Nat.le_of_ble_eq_true rfl)) dX8_closureOf_6 ⟨Nat.le_of_ble_eq_true rfl, Nat.le_of_ble_eq_true rfl⟩ ?_
  have e_ret : (nI (com r n (ext r q o) o)) = (nI (clo r n o q)) := by rfl
  exact W.iret (v := (nI (com r n (ext r q o) o))) hx hb hr (fun t ht hW => ⟨congrArg (fun z_ => Outcome.returned (some (Value.int z_))) e_ret, ht⟩) (fun q h => by cases h) dX8_closureOf_9

set_option maxHeartbeats 4000000 in
set_option maxRecDepth 100000 in
theorem c_X8_turned (l : Launch) (D : va_G) (h0 : Nat) (fs : List Value) (n : Nat) (p_ : Nat) (f0 : fs[0]? = some (.int (nI n))) (hn : n ≤ 12) (hp_ : p_ < 2 ^ 31) : Met l yX8_turned wsX8_turned ({ frames := 0, cells := 0, slots := 0, locals := 0 }) (va_Pc [.ref h0, .int (nI p_)] (fun U => va_P D vwCl [(h0, .inr (7, fs))] U.heap ∧ va_K D vwCl [] U)) (QcRead (nI (tur n p_ n))) 0 0 (fun _ => False) := by
  refine Met.ofW (cc := cX8_turned) (maxL := 4) (ret := (some .int)) (by decide) rfl ?_
  intro p e s m args below meth c s₁ B hml hv
  obtain ⟨rfl, hP, hK⟩ := hv
  have hx := B.exec
  have hb := B.bytes
  have hr := B.returns
  have hts := atoms_spec (ws := wsX8_turned) B.pre
  have hown : s.vm.findClass RX8 = some m.cls := findClass_of_methodNamed B.named
  have hlocks := B.notSynchronized
  have hl := lv_entry ([.ref h0, .int (nI p_)]) (n := 4) (Nat.le_of_ble_eq_true rfl)
  rw [lg_entry_eq]
  generalize (lg_sl ([.ref h0, .int (nI p_)]) ++ List.replicate (4 - (lg_sl ([.ref h0, .int (nI p_)])).length) Slot.unset).toArray = ls at hl ⊢
  have hl : lv_has ls 4 [(0, .ref h0), (1, .int (nI p_))] := hl
  refine lv_iconst (v := 0) hx hb dX8_turned_0 (by decide) ?_
  refine lv_istore_n (lv' := [(2, .int (0 : Int32)), (0, .ref h0), (1, .int (nI p_))]) hx hb dX8_turned_1 rfl hl (by decide) rfl (fun ls hl => ?_)
  refine lv_iconst (v := 0) hx hb dX8_turned_2 (by decide) ?_
  refine lv_istore_n (lv' := [(3, .int (0 : Int32)), (2, .int (0 : Int32)), (0, .ref h0), (1, .int (nI p_))]) hx hb dX8_turned_3 rfl hl (by decide) rfl (fun ls hl => ?_)
  have lp_4 : ∀ (n_ : Nat) (k : Nat), n - k < n_ → (k ≤ n) → ∀ (x3 : Int32), x3 = nI k → ∀ (x2 : Int32), x2 = nI (tur n p_ k) → ∀ (ls : Array Slot), lv_has ls 4 [(3, .int x3), (2, .int x2), (0, .ref h0), (1, .int (nI p_))] → W p l e (headSpec wsX8_turned ({ frames := 0, cells := 0, slots := 0, locals := 0 })).room s m ([.ref h0, .int (nI p_)] : List Value).toArray below meth c s.heap [] 0 0 (MQ below (QcRead (nI (tur n p_ n))) ([.ref h0, .int (nI p_)] : List Value).toArray s 0 0 (fun _ => False)) (F0 m 4 ls []) := by
    intro n_
    induction n_ with
    | zero => intro k h0_; exact absurd h0_ (Nat.not_lt_zero _)
    | succ n_ ih_4 =>
      intro k hm_4 hk_k x3 e_x3 x2 e_x2 ls hl
      subst e_x3
      subst e_x2
      refine lv_iload_n hx hb dX8_turned_4 rfl (lv_at hl 0 rfl) ?_
      refine lv_aload_n hx hb dX8_turned_5 rfl (lv_at hl 2 rfl) ?_
      refine va_get (D := D) (ci := 7) (v := .int (nI n)) (C := RX8) (T := TX8) (N := 18) hx hb hts (by decide +kernel) hown hK hP 0 rfl rfl 0 (by decide) (hts (.fieldLink RX8 7 "ConceptTableModel" "n" "I") (by decide +kernel)) (fun _ h9 => h9) f0 dX8_turned_6 ?_
      refine lv_icmp_ge (tgt := 44) hx hb dX8_turned_9 (by decide) (fun c_9 => ?_) (fun c_9 => ?_)
      · have c_9 : n ≤ k := (nI_leI (a := n) (b := k) (by omega) (by omega)).mp c_9
        refine lv_iload_n hx hb dX8_turned_44 rfl (lv_at hl 1 rfl) ?_
        have e_ret : (nI (tur n p_ k)) = (nI (tur n p_ n)) := by rw [show k = n by omega]
        exact W.iret (v := (nI (tur n p_ k))) hx hb hr (fun t ht hW => ⟨congrArg (fun z_ => Outcome.returned (some (Value.int z_))) e_ret, ht⟩) (fun q h => by cases h) dX8_turned_45
      · have c_9 : k < n := Nat.lt_of_not_le (fun h_ => c_9 ((nI_leI (a := n) (b := k) (by omega) (by omega)).mpr h_))
        refine lv_iload_n hx hb dX8_turned_12 rfl (lv_at hl 3 rfl) ?_
        refine lv_aload_n hx hb dX8_turned_13 rfl (lv_at hl 2 rfl) ?_
        refine va_get (D := D) (ci := 7) (v := .int (nI n)) (C := RX8) (T := TX8) (N := 18) hx hb hts (by decide +kernel) hown hK hP 0 rfl rfl 0 (by decide) (hts (.fieldLink RX8 7 "ConceptTableModel" "n" "I") (by decide +kernel)) (fun _ h9 => h9) f0 dX8_turned_14 ?_
        refine lv_iconst (v := 1) hx hb dX8_turned_17 (by decide) ?_
        refine lv_isub hx hb dX8_turned_18 ?_
        refine lv_re (y := (nI (n - 1))) (pk_sub (a := n) (b := 1) (by omega)) ?_
        refine lv_iload_n hx hb dX8_turned_19 rfl (lv_at hl 0 rfl) ?_
        refine lv_isub hx hb dX8_turned_20 ?_
        refine lv_re (y := (nI ((n - 1) - k))) (pk_sub (a := (n - 1)) (b := k) (by omega)) ?_
        refine lv_ishr hx hb dX8_turned_21 ?_
        refine lv_re (y := (nI (p_ / 2 ^ ((n - 1) - k)))) (nx_shr (q := p_) (k := ((n - 1) - k)) (by omega) (by omega)) ?_
        refine lv_iconst (v := 1) hx hb dX8_turned_22 (by decide) ?_
        refine lv_iand hx hb dX8_turned_23 ?_
        refine lv_re (y := (nI ((p_ / 2 ^ ((n - 1) - k)) &&& 1))) (nx_and (p_ / 2 ^ ((n - 1) - k)) 1) ?_
        refine lv_iconst (v := 1) hx hb dX8_turned_24 (by decide) ?_
        refine lv_icmp_ne (tgt := 36) hx hb dX8_turned_25 (by decide) (fun c_25 => ?_) (fun c_25 => ?_)
        · have c_25 : ¬ ((p_ / 2 ^ ((n - 1) - k)) &&& 1) = 1 := fun h_ => c_25 ((nI_eq (a := ((p_ / 2 ^ ((n - 1) - k)) &&& 1)) (b := 1) (Nat.lt_of_le_of_lt Nat.and_le_right (by decide)) (by decide)).mpr h_)
          refine lv_iload_n hx hb dX8_turned_36 rfl (lv_at hl 1 rfl) ?_
          refine lv_istore_n (lv' := [(2, .int (nI (tur n p_ k))), (3, .int (nI k)), (0, .ref h0), (1, .int (nI p_))]) hx hb dX8_turned_37 rfl hl (by decide) rfl (fun ls hl => ?_)
          refine lv_iinc (v := (nI (k + 1))) (lv' := [(3, .int (nI (k + 1))), (2, .int (nI (tur n p_ k))), (0, .ref h0), (1, .int (nI p_))]) hx hb dX8_turned_38 hl (k := 1) rfl (nI_add _ 1) (by decide) rfl (fun ls hl => ?_)
          refine lv_goto (tgt := 4) hx hb dX8_turned_41 (by decide) ?_
          exact ih_4 (k + 1) (by omega) (by omega) _ rfl _ (by rw [tur, if_neg (fun z => c_25 (nx_bit.mpr z))]) _ (lv_sub hl [0, 1, 2, 3] rfl)
        · have c_25 : ((p_ / 2 ^ ((n - 1) - k)) &&& 1) = 1 := (nI_eq (a := ((p_ / 2 ^ ((n - 1) - k)) &&& 1)) (b := 1) (Nat.lt_of_le_of_lt Nat.and_le_right (by decide)) (by decide)).mp c_25
          refine lv_iload_n hx hb dX8_turned_28 rfl (lv_at hl 1 rfl) ?_
          refine lv_iconst (v := 1) hx hb dX8_turned_29 (by decide) ?_
          refine lv_iload_n hx hb dX8_turned_30 rfl (lv_at hl 0 rfl) ?_
          refine lv_ishl hx hb dX8_turned_31 ?_
          refine lv_re (y := (nI (2 ^ k))) (nx_sh1 (k := k) (by omega)) ?_
          refine lv_ior hx hb dX8_turned_32 ?_
          refine lv_re (y := (nI ((tur n p_ k) ||| (2 ^ k)))) (nx_or (tur n p_ k) (2 ^ k)) ?_
          refine lv_goto (tgt := 37) hx hb dX8_turned_33 (by decide) ?_
          refine lv_istore_n (lv' := [(2, .int (nI ((tur n p_ k) ||| (2 ^ k)))), (3, .int (nI k)), (0, .ref h0), (1, .int (nI p_))]) hx hb dX8_turned_37 rfl hl (by decide) rfl (fun ls hl => ?_)
          refine lv_iinc (v := (nI (k + 1))) (lv' := [(3, .int (nI (k + 1))), (2, .int (nI ((tur n p_ k) ||| (2 ^ k)))), (0, .ref h0), (1, .int (nI p_))]) hx hb dX8_turned_38 hl (k := 1) rfl (nI_add _ 1) (by decide) rfl (fun ls hl => ?_)
          refine lv_goto (tgt := 4) hx hb dX8_turned_41 (by decide) ?_
          exact ih_4 (k + 1) (by omega) (by omega) _ rfl _ (by rw [tur, if_pos (nx_bit.mp c_25)]) _ (lv_sub hl [0, 1, 2, 3] rfl)
  exact lp_4 _ 0 (Nat.lt_succ_self _) (Nat.zero_le _) _ rfl _ rfl _ (lv_sub hl [0, 1, 2, 3] rfl)

set_option maxHeartbeats 4000000 in
set_option maxRecDepth 100000 in
theorem c_X8_bitsOf (l : Launch) (D : va_G) (q : Nat) (hq : q < 2 ^ 31) : Met l yX8_bitsOf wsX8_bitsOf ({ frames := 0, cells := 0, slots := 0, locals := 0 }) (va_Pc [.int (nI q)] (fun U => va_P D vwCl [] U.heap ∧ va_K D vwCl [] U)) (QcRead (nI (bits q 12))) 0 0 (fun _ => False) := by
  refine Met.ofW (cc := cX8_bitsOf) (maxL := 3) (ret := (some .int)) (by decide) rfl ?_
  intro p e s m args below meth c s₁ B hml hv
  obtain ⟨rfl, hP, hK⟩ := hv
  have hx := B.exec
  have hb := B.bytes
  have hr := B.returns
  have hts := atoms_spec (ws := wsX8_bitsOf) B.pre
  have hown : s.vm.findClass RX8 = some m.cls := findClass_of_methodNamed B.named
  have hlocks := B.notSynchronized
  have hl := lv_entry ([.int (nI q)]) (n := 3) (Nat.le_of_ble_eq_true rfl)
  rw [lg_entry_eq]
  generalize (lg_sl ([.int (nI q)]) ++ List.replicate (3 - (lg_sl ([.int (nI q)])).length) Slot.unset).toArray = ls at hl ⊢
  have hl : lv_has ls 3 [(0, .int (nI q))] := hl
  refine lv_iconst (v := 0) hx hb dX8_bitsOf_0 (by decide) ?_
  refine lv_istore_n (lv' := [(1, .int (0 : Int32)), (0, .int (nI q))]) hx hb dX8_bitsOf_1 rfl hl (by decide) rfl (fun ls hl => ?_)
  refine lv_iconst (v := 0) hx hb dX8_bitsOf_2 (by decide) ?_
  refine lv_istore_n (lv' := [(2, .int (0 : Int32)), (1, .int (0 : Int32)), (0, .int (nI q))]) hx hb dX8_bitsOf_3 rfl hl (by decide) rfl (fun ls hl => ?_)
  have lp_4 : ∀ (n_ : Nat) (k : Nat), 12 - k < n_ → (k ≤ 12) → ∀ (x2 : Int32), x2 = nI k → ∀ (x1 : Int32), x1 = nI (bits q k) → ∀ (ls : Array Slot), lv_has ls 3 [(2, .int x2), (1, .int x1), (0, .int (nI q))] → W p l e (headSpec wsX8_bitsOf ({ frames := 0, cells := 0, slots := 0, locals := 0 })).room s m ([.int (nI q)] : List Value).toArray below meth c s.heap [] 0 0 (MQ below (QcRead (nI (bits q 12))) ([.int (nI q)] : List Value).toArray s 0 0 (fun _ => False)) (F0 m 4 ls []) := by
    intro n_
    induction n_ with
    | zero => intro k h0_; exact absurd h0_ (Nat.not_lt_zero _)
    | succ n_ ih_4 =>
      intro k hm_4 hk_k x2 e_x2 x1 e_x1 ls hl
      subst e_x2
      subst e_x1
      refine lv_iload_n hx hb dX8_bitsOf_4 rfl (lv_at hl 0 rfl) ?_
      refine lv_bipush (v := 12) hx hb dX8_bitsOf_5 (by decide) ?_
      refine lv_icmp_ge (tgt := 24) hx hb dX8_bitsOf_7 (by decide) (fun c_7 => ?_) (fun c_7 => ?_)
      · have c_7 : 12 ≤ k := (nI_leI (a := 12) (b := k) (by omega) (by omega)).mp c_7
        refine lv_iload_n hx hb dX8_bitsOf_24 rfl (lv_at hl 1 rfl) ?_
        have e_ret : (nI (bits q k)) = (nI (bits q 12)) := by rw [show k = 12 by omega]
        exact W.iret (v := (nI (bits q k))) hx hb hr (fun t ht hW => ⟨congrArg (fun z_ => Outcome.returned (some (Value.int z_))) e_ret, ht⟩) (fun q h => by cases h) dX8_bitsOf_25
      · have c_7 : k < 12 := Nat.lt_of_not_le (fun h_ => c_7 ((nI_leI (a := 12) (b := k) (by omega) (by omega)).mpr h_))
        refine lv_iload_n hx hb dX8_bitsOf_10 rfl (lv_at hl 1 rfl) ?_
        refine lv_iload_n hx hb dX8_bitsOf_11 rfl (lv_at hl 2 rfl) ?_
        refine lv_iload_n hx hb dX8_bitsOf_12 rfl (lv_at hl 0 rfl) ?_
        refine lv_ishr hx hb dX8_bitsOf_13 ?_
        refine lv_re (y := (nI (q / 2 ^ k))) (nx_shr (q := q) (k := k) (by omega) (by omega)) ?_
        refine lv_iconst (v := 1) hx hb dX8_bitsOf_14 (by decide) ?_
        refine lv_iand hx hb dX8_bitsOf_15 ?_
        refine lv_re (y := (nI ((q / 2 ^ k) &&& 1))) (nx_and (q / 2 ^ k) 1) ?_
        refine lv_iadd hx hb dX8_bitsOf_16 ?_
        refine lv_re (y := (nI ((bits q k) + ((q / 2 ^ k) &&& 1)))) (nI_add (bits q k) ((q / 2 ^ k) &&& 1)) ?_
        refine lv_istore_n (lv' := [(1, .int (nI ((bits q k) + ((q / 2 ^ k) &&& 1)))), (2, .int (nI k)), (0, .int (nI q))]) hx hb dX8_bitsOf_17 rfl hl (by decide) rfl (fun ls hl => ?_)
        refine lv_iinc (v := (nI (k + 1))) (lv' := [(2, .int (nI (k + 1))), (1, .int (nI ((bits q k) + ((q / 2 ^ k) &&& 1)))), (0, .int (nI q))]) hx hb dX8_bitsOf_18 hl (k := 1) rfl (nI_add _ 1) (by decide) rfl (fun ls hl => ?_)
        refine lv_goto (tgt := 4) hx hb dX8_bitsOf_21 (by decide) ?_
        exact ih_4 (k + 1) (by omega) (by omega) _ rfl _ rfl _ (lv_sub hl [0, 1, 2] rfl)
  exact lp_4 _ 0 (Nat.lt_succ_self _) (Nat.zero_le _) _ rfl _ rfl _ (lv_sub hl [0, 1, 2] rfl)

set_option maxHeartbeats 4000000 in
set_option maxRecDepth 100000 in
theorem c_X8_bitsOf20 (l : Launch) (D : va_G) (q : Nat) (hq : q < 2 ^ 31) : Met l yX8_bitsOf20 wsX8_bitsOf20 ({ frames := 0, cells := 0, slots := 0, locals := 0 }) (va_Pc [.int (nI q)] (fun U => va_P D vwCl [] U.heap ∧ va_K D vwCl [] U)) (QcRead (nI (bits q 20))) 0 0 (fun _ => False) := by
  refine Met.ofW (cc := cX8_bitsOf20) (maxL := 3) (ret := (some .int)) (by decide) rfl ?_
  intro p e s m args below meth c s₁ B hml hv
  obtain ⟨rfl, hP, hK⟩ := hv
  have hx := B.exec
  have hb := B.bytes
  have hr := B.returns
  have hts := atoms_spec (ws := wsX8_bitsOf20) B.pre
  have hown : s.vm.findClass RX8 = some m.cls := findClass_of_methodNamed B.named
  have hlocks := B.notSynchronized
  have hl := lv_entry ([.int (nI q)]) (n := 3) (Nat.le_of_ble_eq_true rfl)
  rw [lg_entry_eq]
  generalize (lg_sl ([.int (nI q)]) ++ List.replicate (3 - (lg_sl ([.int (nI q)])).length) Slot.unset).toArray = ls at hl ⊢
  have hl : lv_has ls 3 [(0, .int (nI q))] := hl
  refine lv_iconst (v := 0) hx hb dX8_bitsOf20_0 (by decide) ?_
  refine lv_istore_n (lv' := [(1, .int (0 : Int32)), (0, .int (nI q))]) hx hb dX8_bitsOf20_1 rfl hl (by decide) rfl (fun ls hl => ?_)
  refine lv_iconst (v := 0) hx hb dX8_bitsOf20_2 (by decide) ?_
  refine lv_istore_n (lv' := [(2, .int (0 : Int32)), (1, .int (0 : Int32)), (0, .int (nI q))]) hx hb dX8_bitsOf20_3 rfl hl (by decide) rfl (fun ls hl => ?_)
  have lp_4 : ∀ (n_ : Nat) (k : Nat), 20 - k < n_ → (k ≤ 20) → ∀ (x2 : Int32), x2 = nI k → ∀ (x1 : Int32), x1 = nI (bits q k) → ∀ (ls : Array Slot), lv_has ls 3 [(2, .int x2), (1, .int x1), (0, .int (nI q))] → W p l e (headSpec wsX8_bitsOf20 ({ frames := 0, cells := 0, slots := 0, locals := 0 })).room s m ([.int (nI q)] : List Value).toArray below meth c s.heap [] 0 0 (MQ below (QcRead (nI (bits q 20))) ([.int (nI q)] : List Value).toArray s 0 0 (fun _ => False)) (F0 m 4 ls []) := by
    intro n_
    induction n_ with
    | zero => intro k h0_; exact absurd h0_ (Nat.not_lt_zero _)
    | succ n_ ih_4 =>
      intro k hm_4 hk_k x2 e_x2 x1 e_x1 ls hl
      subst e_x2
      subst e_x1
      refine lv_iload_n hx hb dX8_bitsOf20_4 rfl (lv_at hl 0 rfl) ?_
      refine lv_bipush (v := 20) hx hb dX8_bitsOf20_5 (by decide) ?_
      refine lv_icmp_ge (tgt := 24) hx hb dX8_bitsOf20_7 (by decide) (fun c_7 => ?_) (fun c_7 => ?_)
      · have c_7 : 20 ≤ k := (nI_leI (a := 20) (b := k) (by omega) (by omega)).mp c_7
        refine lv_iload_n hx hb dX8_bitsOf20_24 rfl (lv_at hl 1 rfl) ?_
        have e_ret : (nI (bits q k)) = (nI (bits q 20)) := by rw [show k = 20 by omega]
        exact W.iret (v := (nI (bits q k))) hx hb hr (fun t ht hW => ⟨congrArg (fun z_ => Outcome.returned (some (Value.int z_))) e_ret, ht⟩) (fun q h => by cases h) dX8_bitsOf20_25
      · have c_7 : k < 20 := Nat.lt_of_not_le (fun h_ => c_7 ((nI_leI (a := 20) (b := k) (by omega) (by omega)).mpr h_))
        refine lv_iload_n hx hb dX8_bitsOf20_10 rfl (lv_at hl 1 rfl) ?_
        refine lv_iload_n hx hb dX8_bitsOf20_11 rfl (lv_at hl 2 rfl) ?_
        refine lv_iload_n hx hb dX8_bitsOf20_12 rfl (lv_at hl 0 rfl) ?_
        refine lv_ishr hx hb dX8_bitsOf20_13 ?_
        refine lv_re (y := (nI (q / 2 ^ k))) (nx_shr (q := q) (k := k) (by omega) (by omega)) ?_
        refine lv_iconst (v := 1) hx hb dX8_bitsOf20_14 (by decide) ?_
        refine lv_iand hx hb dX8_bitsOf20_15 ?_
        refine lv_re (y := (nI ((q / 2 ^ k) &&& 1))) (nx_and (q / 2 ^ k) 1) ?_
        refine lv_iadd hx hb dX8_bitsOf20_16 ?_
        refine lv_re (y := (nI ((bits q k) + ((q / 2 ^ k) &&& 1)))) (nI_add (bits q k) ((q / 2 ^ k) &&& 1)) ?_
        refine lv_istore_n (lv' := [(1, .int (nI ((bits q k) + ((q / 2 ^ k) &&& 1)))), (2, .int (nI k)), (0, .int (nI q))]) hx hb dX8_bitsOf20_17 rfl hl (by decide) rfl (fun ls hl => ?_)
        refine lv_iinc (v := (nI (k + 1))) (lv' := [(2, .int (nI (k + 1))), (1, .int (nI ((bits q k) + ((q / 2 ^ k) &&& 1)))), (0, .int (nI q))]) hx hb dX8_bitsOf20_18 hl (k := 1) rfl (nI_add _ 1) (by decide) rfl (fun ls hl => ?_)
        refine lv_goto (tgt := 4) hx hb dX8_bitsOf20_21 (by decide) ?_
        exact ih_4 (k + 1) (by omega) (by omega) _ rfl _ rfl _ (lv_sub hl [0, 1, 2] rfl)
  exact lp_4 _ 0 (Nat.lt_succ_self _) (Nat.zero_le _) _ rfl _ rfl _ (lv_sub hl [0, 1, 2] rfl)

set_option maxHeartbeats 4000000 in
set_option maxRecDepth 100000 in
theorem c_X8_forget (l : Launch) (D : va_G) (sz : Nat) (h0 : Nat) (n : Nat) (o : Nat) (h2 : Nat) (h3 : Nat) (h4 : Nat) (co : Nat) (h6 : Nat) (h7 : Nat) (ba : Nat) (h9 : Nat) (h10 : Nat) (kn : Bool) (ak : Bool) (qu : Int32) (ac : Nat) (h15 : Nat) (h16 : Nat) (h17 : Nat)  : Met l yX8_forget wsX8_forget ({ frames := 0, cells := 0, slots := 0, locals := 0 }) (va_Pc [.ref h0] (fun U => U.heap.size = sz ∧ va_P D vwCl [(h0, .inr (7, [.int (nI n), .int (nI o), .ref h2, .ref h3, .ref h4, .int (nI co), .ref h6, .ref h7, .int (nI ba), .ref h9, .ref h10, .int (b2 kn), .int (b2 ak), .int qu, .int (nI ac), .ref h15, .ref h16, .ref h17]))] U.heap ∧ va_K D vwCl [] U ∧ va_D (fun _ => True) [(h0, .inr (7, [.int (nI n), .int (nI o), .ref h2, .ref h3, .ref h4, .int (nI co), .ref h6, .ref h7, .int (nI ba), .ref h9, .ref h10, .int (b2 kn), .int (b2 ak), .int qu, .int (nI ac), .ref h15, .ref h16, .ref h17]))])) (muQ none D vwCl [(h0, .inr (7, [.int (nI n), .int (nI o), .ref h2, .ref h3, .ref h4, .int (nI co), .ref h6, .ref h7, .int (nI ba), .ref h9, .ref h10, .int (b2 false), .int (b2 false), .int (-1 : Int32), .int (nI ac), .ref h15, .ref h16, .ref h17]))] (va_A [(h0, .inr (7, [.int (nI n), .int (nI o), .ref h2, .ref h3, .ref h4, .int (nI co), .ref h6, .ref h7, .int (nI ba), .ref h9, .ref h10, .int (b2 kn), .int (b2 ak), .int qu, .int (nI ac), .ref h15, .ref h16, .ref h17]))] sz)) 0 0 (va_A [(h0, .inr (7, [.int (nI n), .int (nI o), .ref h2, .ref h3, .ref h4, .int (nI co), .ref h6, .ref h7, .int (nI ba), .ref h9, .ref h10, .int (b2 kn), .int (b2 ak), .int qu, .int (nI ac), .ref h15, .ref h16, .ref h17]))] sz) := by
  refine Met.ofW (cc := cX8_forget) (maxL := 1) (ret := none) (by decide) rfl ?_
  intro p e s m args below meth c s₁ B hml hv
  obtain ⟨rfl, hsz, hP, hK, hD0⟩ := hv
  have hx := B.exec
  have hb := B.bytes
  have hr := B.returns
  have hts := atoms_spec (ws := wsX8_forget) B.pre
  have hown : s.vm.findClass RX8 = some m.cls := findClass_of_methodNamed B.named
  have hlocks := B.notSynchronized
  subst hsz
  have hD := hD0.self (sz := s.heap.size)
  generalize hAe : va_A [(h0, .inr (7, [.int (nI n), .int (nI o), .ref h2, .ref h3, .ref h4, .int (nI co), .ref h6, .ref h7, .int (nI ba), .ref h9, .ref h10, .int (b2 kn), .int (b2 ak), .int qu, .int (nI ac), .ref h15, .ref h16, .ref h17]))] s.heap.size = A at hD ⊢
  have hA : ∀ q : Nat, s.heap.size ≤ q → A q := fun q h => by rw [← hAe]; exact Or.inr h
  have hS : va_S A s.heap s.heap [] := va_S.rf
  have hl := lv_entry ([.ref h0]) (n := 1) (Nat.le_of_ble_eq_true rfl)
  rw [lg_entry_eq]
  generalize (lg_sl ([.ref h0]) ++ List.replicate (1 - (lg_sl ([.ref h0])).length) Slot.unset).toArray = ls at hl ⊢
  have hl : lv_has ls 1 [(0, .ref h0)] := hl
  refine lv_aload_n hx hb dX8_forget_0 rfl (lv_at hl 0 rfl) ?_
  refine lv_iconst (v := 0) hx hb dX8_forget_1 (by decide) ?_
  refine va_put (D := D) (ci := 7) (v := .int (0 : Int32)) (ty := .boolean) (C := RX8) (T := TX8) (N := 18) hx hb hts (by decide +kernel) tyX8 tyX8_ok nmX8 hown hK hP hD hS 0 rfl rfl 11 (by decide) (hts (.fieldLink RX8 56 "ConceptTableModel" "isKnown" "Z") (by decide +kernel)) (fun _ h9 => h9) rfl (by decide +kernel) rfl rfl (Nat.le_of_ble_eq_true rfl) dX8_forget_2 (fun H locs hP hD hS => ?_)
  have hP : va_P D vwCl [(h0, .inr (7, [.int (nI n), .int (nI o), .ref h2, .ref h3, .ref h4, .int (nI co), .ref h6, .ref h7, .int (nI ba), .ref h9, .ref h10, .int (0 : Int32), .int (b2 ak), .int qu, .int (nI ac), .ref h15, .ref h16, .ref h17]))] H := hP
  have hD : va_D A [(h0, .inr (7, [.int (nI n), .int (nI o), .ref h2, .ref h3, .ref h4, .int (nI co), .ref h6, .ref h7, .int (nI ba), .ref h9, .ref h10, .int (0 : Int32), .int (b2 ak), .int qu, .int (nI ac), .ref h15, .ref h16, .ref h17]))] := hD
  refine lv_aload_n hx hb dX8_forget_5 rfl (lv_at hl 0 rfl) ?_
  refine lv_iconst (v := 0) hx hb dX8_forget_6 (by decide) ?_
  refine va_put (D := D) (ci := 7) (v := .int (0 : Int32)) (ty := .boolean) (C := RX8) (T := TX8) (N := 18) hx hb hts (by decide +kernel) tyX8 tyX8_ok nmX8 hown hK hP hD hS 0 rfl rfl 12 (by decide) (hts (.fieldLink RX8 60 "ConceptTableModel" "isAsking" "Z") (by decide +kernel)) (fun _ h9 => h9) rfl (by decide +kernel) rfl rfl (Nat.le_of_ble_eq_true rfl) dX8_forget_7 (fun H locs hP hD hS => ?_)
  have hP : va_P D vwCl [(h0, .inr (7, [.int (nI n), .int (nI o), .ref h2, .ref h3, .ref h4, .int (nI co), .ref h6, .ref h7, .int (nI ba), .ref h9, .ref h10, .int (0 : Int32), .int (0 : Int32), .int qu, .int (nI ac), .ref h15, .ref h16, .ref h17]))] H := hP
  have hD : va_D A [(h0, .inr (7, [.int (nI n), .int (nI o), .ref h2, .ref h3, .ref h4, .int (nI co), .ref h6, .ref h7, .int (nI ba), .ref h9, .ref h10, .int (0 : Int32), .int (0 : Int32), .int qu, .int (nI ac), .ref h15, .ref h16, .ref h17]))] := hD
  refine lv_aload_n hx hb dX8_forget_10 rfl (lv_at hl 0 rfl) ?_
  refine lv_iconst (v := -1) hx hb dX8_forget_11 (by decide) ?_
  refine va_put (D := D) (ci := 7) (v := .int (-1 : Int32)) (ty := .int) (C := RX8) (T := TX8) (N := 18) hx hb hts (by decide +kernel) tyX8 tyX8_ok nmX8 hown hK hP hD hS 0 rfl rfl 13 (by decide) (hts (.fieldLink RX8 36 "ConceptTableModel" "question" "I") (by decide +kernel)) (fun _ h9 => h9) rfl (by decide +kernel) rfl rfl (Nat.le_of_ble_eq_true rfl) dX8_forget_12 (fun H locs hP hD hS => ?_)
  have hP : va_P D vwCl [(h0, .inr (7, [.int (nI n), .int (nI o), .ref h2, .ref h3, .ref h4, .int (nI co), .ref h6, .ref h7, .int (nI ba), .ref h9, .ref h10, .int (0 : Int32), .int (0 : Int32), .int (-1 : Int32), .int (nI ac), .ref h15, .ref h16, .ref h17]))] H := hP
  have hD : va_D A [(h0, .inr (7, [.int (nI n), .int (nI o), .ref h2, .ref h3, .ref h4, .int (nI co), .ref h6, .ref h7, .int (nI ba), .ref h9, .ref h10, .int (0 : Int32), .int (0 : Int32), .int (-1 : Int32), .int (nI ac), .ref h15, .ref h16, .ref h17]))] := hD
  have hP := hP.sub (ws' := [(h0, .inr (7, [.int (nI n), .int (nI o), .ref h2, .ref h3, .ref h4, .int (nI co), .ref h6, .ref h7, .int (nI ba), .ref h9, .ref h10, .int (0 : Int32), .int (0 : Int32), .int (-1 : Int32), .int (nI ac), .ref h15, .ref h16, .ref h17]))]) [0] rfl
  have hD := hD.sub (ws' := [(h0, .inr (7, [.int (nI n), .int (nI o), .ref h2, .ref h3, .ref h4, .int (nI co), .ref h6, .ref h7, .int (nI ba), .ref h9, .ref h10, .int (0 : Int32), .int (0 : Int32), .int (-1 : Int32), .int (nI ac), .ref h15, .ref h16, .ref h17]))]) [0] (by decide) rfl
  have hP : va_P D vwCl [(h0, .inr (7, [.int (nI n), .int (nI o), .ref h2, .ref h3, .ref h4, .int (nI co), .ref h6, .ref h7, .int (nI ba), .ref h9, .ref h10, .int (b2 false), .int (b2 false), .int (-1 : Int32), .int (nI ac), .ref h15, .ref h16, .ref h17]))] H := by exact hP
  have hD : va_D A [(h0, .inr (7, [.int (nI n), .int (nI o), .ref h2, .ref h3, .ref h4, .int (nI co), .ref h6, .ref h7, .int (nI ba), .ref h9, .ref h10, .int (b2 false), .int (b2 false), .int (-1 : Int32), .int (nI ac), .ref h15, .ref h16, .ref h17]))] := by exact hD
  exact W.vret hx hb hr (fun t ht hW => ⟨⟨rfl, by rw [ht]; exact hP, hD⟩, hS.F ht⟩) hS.2.2 dX8_forget_15

set_option maxHeartbeats 4000000 in
set_option maxRecDepth 100000 in
theorem c_X8_begin (l : Launch) (D : va_G) (sz : Nat) (h0 : Nat) (n : Nat) (o : Nat) (h2 : Nat) (h3 : Nat) (h4 : Nat) (co : Nat) (h6 : Nat) (h7 : Nat) (ba : Nat) (h9 : Nat) (h10 : Nat) (kn : Bool) (ak : Bool) (qu : Int32) (ac : Nat) (h15 : Nat) (h16 : Nat) (h17 : Nat) (a : Nat) (ha1 : 1 ≤ a) (ha2 : a ≤ 12) : Met l yX8_begin wsX8_begin ({ frames := 1, cells := 0, slots := 0, locals := 22 }) (va_Pc [.ref h0, .int (nI a)] (fun U => U.heap.size = sz ∧ va_P D vwCl [(h0, .inr (7, [.int (nI n), .int (nI o), .ref h2, .ref h3, .ref h4, .int (nI co), .ref h6, .ref h7, .int (nI ba), .ref h9, .ref h10, .int (b2 kn), .int (b2 ak), .int qu, .int (nI ac), .ref h15, .ref h16, .ref h17]))] U.heap ∧ va_K D vwCl [] U ∧ va_D (fun _ => True) [(h0, .inr (7, [.int (nI n), .int (nI o), .ref h2, .ref h3, .ref h4, .int (nI co), .ref h6, .ref h7, .int (nI ba), .ref h9, .ref h10, .int (b2 kn), .int (b2 ak), .int qu, .int (nI ac), .ref h15, .ref h16, .ref h17]))])) (muQ (some (.int (nI o))) D vwCl [(h0, .inr (7, [.int (nI a), .int (nI 0), .ref h2, .ref h3, .ref h4, .int (nI co), .ref h6, .ref h7, .int (nI ba), .ref h9, .ref h10, .int (b2 false), .int (b2 false), .int (-1 : Int32), .int (nI 0), .ref h15, .ref h16, .ref h17]))] (va_A [(h0, .inr (7, [.int (nI n), .int (nI o), .ref h2, .ref h3, .ref h4, .int (nI co), .ref h6, .ref h7, .int (nI ba), .ref h9, .ref h10, .int (b2 kn), .int (b2 ak), .int qu, .int (nI ac), .ref h15, .ref h16, .ref h17]))] sz)) 0 0 (va_A [(h0, .inr (7, [.int (nI n), .int (nI o), .ref h2, .ref h3, .ref h4, .int (nI co), .ref h6, .ref h7, .int (nI ba), .ref h9, .ref h10, .int (b2 kn), .int (b2 ak), .int qu, .int (nI ac), .ref h15, .ref h16, .ref h17]))] sz) := by
  refine Met.ofW (cc := cX8_begin) (maxL := 3) (ret := (some .int)) (by decide) rfl ?_
  intro p e s m args below meth c s₁ B hml hv
  obtain ⟨rfl, hsz, hP, hK, hD0⟩ := hv
  have hx := B.exec
  have hb := B.bytes
  have hr := B.returns
  have hts := atoms_spec (ws := wsX8_begin) B.pre
  have hown : s.vm.findClass RX8 = some m.cls := findClass_of_methodNamed B.named
  have hlocks := B.notSynchronized
  subst hsz
  have hD := hD0.self (sz := s.heap.size)
  generalize hAe : va_A [(h0, .inr (7, [.int (nI n), .int (nI o), .ref h2, .ref h3, .ref h4, .int (nI co), .ref h6, .ref h7, .int (nI ba), .ref h9, .ref h10, .int (b2 kn), .int (b2 ak), .int qu, .int (nI ac), .ref h15, .ref h16, .ref h17]))] s.heap.size = A at hD ⊢
  have hA : ∀ q : Nat, s.heap.size ≤ q → A q := fun q h => by rw [← hAe]; exact Or.inr h
  have hS : va_S A s.heap s.heap [] := va_S.rf
  have hl := lv_entry ([.ref h0, .int (nI a)]) (n := 3) (Nat.le_of_ble_eq_true rfl)
  rw [lg_entry_eq]
  generalize (lg_sl ([.ref h0, .int (nI a)]) ++ List.replicate (3 - (lg_sl ([.ref h0, .int (nI a)])).length) Slot.unset).toArray = ls at hl ⊢
  have hl : lv_has ls 3 [(0, .ref h0), (1, .int (nI a))] := hl
  refine lv_iload_n hx hb dX8_begin_0 rfl (lv_at hl 1 rfl) ?_
  refine lv_iconst (v := 1) hx hb dX8_begin_1 (by decide) ?_
  refine lv_bipush (v := 12) hx hb dX8_begin_2 (by decide) ?_
  refine rd_S (As := [.int (nI a), .int (1 : Int32), .int (12 : Int32)]) (rest := []) ⟨hx, hb, hml, hown, hts⟩ (c_X8_in l D (nI a) (1 : Int32) (12 : Int32) ) (va_cwS 3 hts gX8_begin_X8_in rfl rfl rfl (by decide +kernel) ⟨Nat.le_of_ble_eq_true rfl, Nat.le_of_ble_eq_true rfl⟩) (hP.sub (ws' := []) [] rfl) (hK.sub (tys' := []) [] rfl) rfl rfl hl.1 rfl (lv_room (Nat.le_of_ble_eq_true rfl)) dX8_begin_4 ⟨Nat.le_of_ble_eq_true rfl, Nat.le_of_ble_eq_true rfl⟩ ?_
  refine lv_if_ne (tgt := 13) hx hb dX8_begin_7 (by decide) (fun c_7 => ?_) (fun c_7 => ?_)
  · have c_7 := b2_n0.mp c_7
    refine lv_aload_n hx hb dX8_begin_13 rfl (lv_at hl 0 rfl) ?_
    refine va_get (D := D) (ci := 7) (v := .int (nI o)) (C := RX8) (T := TX8) (N := 18) hx hb hts (by decide +kernel) hown hK hP 0 rfl rfl 1 (by decide) (hts (.fieldLink RX8 67 "ConceptTableModel" "objects" "I") (by decide +kernel)) (fun _ h9 => h9) rfl dX8_begin_14 ?_
    refine lv_istore_n (lv' := [(2, .int (nI o)), (0, .ref h0), (1, .int (nI a))]) hx hb dX8_begin_17 rfl hl (by decide) rfl (fun ls hl => ?_)
    refine lv_aload_n hx hb dX8_begin_18 rfl (lv_at hl 1 rfl) ?_
    refine lv_iload_n hx hb dX8_begin_19 rfl (lv_at hl 2 rfl) ?_
    refine va_put (D := D) (ci := 7) (v := .int (nI a)) (ty := .int) (C := RX8) (T := TX8) (N := 18) hx hb hts (by decide +kernel) tyX8 tyX8_ok nmX8 hown hK hP hD hS 0 rfl rfl 0 (by decide) (hts (.fieldLink RX8 7 "ConceptTableModel" "n" "I") (by decide +kernel)) (fun _ h9 => h9) rfl (by decide +kernel) rfl rfl (Nat.le_of_ble_eq_true rfl) dX8_begin_20 (fun H locs hP hD hS => ?_)
    have hP : va_P D vwCl [(h0, .inr (7, [.int (nI a), .int (nI o), .ref h2, .ref h3, .ref h4, .int (nI co), .ref h6, .ref h7, .int (nI ba), .ref h9, .ref h10, .int (b2 kn), .int (b2 ak), .int qu, .int (nI ac), .ref h15, .ref h16, .ref h17]))] H := hP
    have hD : va_D A [(h0, .inr (7, [.int (nI a), .int (nI o), .ref h2, .ref h3, .ref h4, .int (nI co), .ref h6, .ref h7, .int (nI ba), .ref h9, .ref h10, .int (b2 kn), .int (b2 ak), .int qu, .int (nI ac), .ref h15, .ref h16, .ref h17]))] := hD
    refine lv_aload_n hx hb dX8_begin_23 rfl (lv_at hl 1 rfl) ?_
    refine lv_iconst (v := 0) hx hb dX8_begin_24 (by decide) ?_
    refine va_put (D := D) (ci := 7) (v := .int (0 : Int32)) (ty := .int) (C := RX8) (T := TX8) (N := 18) hx hb hts (by decide +kernel) tyX8 tyX8_ok nmX8 hown hK hP hD hS 0 rfl rfl 1 (by decide) (hts (.fieldLink RX8 67 "ConceptTableModel" "objects" "I") (by decide +kernel)) (fun _ h9 => h9) rfl (by decide +kernel) rfl rfl (Nat.le_of_ble_eq_true rfl) dX8_begin_25 (fun H locs hP hD hS => ?_)
    have hP : va_P D vwCl [(h0, .inr (7, [.int (nI a), .int (0 : Int32), .ref h2, .ref h3, .ref h4, .int (nI co), .ref h6, .ref h7, .int (nI ba), .ref h9, .ref h10, .int (b2 kn), .int (b2 ak), .int qu, .int (nI ac), .ref h15, .ref h16, .ref h17]))] H := hP
    have hD : va_D A [(h0, .inr (7, [.int (nI a), .int (0 : Int32), .ref h2, .ref h3, .ref h4, .int (nI co), .ref h6, .ref h7, .int (nI ba), .ref h9, .ref h10, .int (b2 kn), .int (b2 ak), .int qu, .int (nI ac), .ref h15, .ref h16, .ref h17]))] := hD
    refine lv_aload_n hx hb dX8_begin_28 rfl (lv_at hl 1 rfl) ?_
    refine lv_iconst (v := 0) hx hb dX8_begin_29 (by decide) ?_
    refine va_put (D := D) (ci := 7) (v := .int (0 : Int32)) (ty := .int) (C := RX8) (T := TX8) (N := 18) hx hb hts (by decide +kernel) tyX8 tyX8_ok nmX8 hown hK hP hD hS 0 rfl rfl 14 (by decide) (hts (.fieldLink RX8 70 "ConceptTableModel" "accepted" "I") (by decide +kernel)) (fun _ h9 => h9) rfl (by decide +kernel) rfl rfl (Nat.le_of_ble_eq_true rfl) dX8_begin_30 (fun H locs hP hD hS => ?_)
    have hP : va_P D vwCl [(h0, .inr (7, [.int (nI a), .int (0 : Int32), .ref h2, .ref h3, .ref h4, .int (nI co), .ref h6, .ref h7, .int (nI ba), .ref h9, .ref h10, .int (b2 kn), .int (b2 ak), .int qu, .int (0 : Int32), .ref h15, .ref h16, .ref h17]))] H := hP
    have hD : va_D A [(h0, .inr (7, [.int (nI a), .int (0 : Int32), .ref h2, .ref h3, .ref h4, .int (nI co), .ref h6, .ref h7, .int (nI ba), .ref h9, .ref h10, .int (b2 kn), .int (b2 ak), .int qu, .int (0 : Int32), .ref h15, .ref h16, .ref h17]))] := hD
    refine lv_aload_n hx hb dX8_begin_33 rfl (lv_at hl 1 rfl) ?_
    have hPc := hP.sub (ws' := [(h0, .inr (7, [.int (nI a), .int (0 : Int32), .ref h2, .ref h3, .ref h4, .int (nI co), .ref h6, .ref h7, .int (nI ba), .ref h9, .ref h10, .int (b2 kn), .int (b2 ak), .int qu, .int (0 : Int32), .ref h15, .ref h16, .ref h17]))]) [0] rfl
    have hDc := hD.sub (ws' := [(h0, .inr (7, [.int (nI a), .int (0 : Int32), .ref h2, .ref h3, .ref h4, .int (nI co), .ref h6, .ref h7, .int (nI ba), .ref h9, .ref h10, .int (b2 kn), .int (b2 ak), .int qu, .int (0 : Int32), .ref h15, .ref h16, .ref h17]))]) [0] (by decide) rfl
    have hKc := hK.sub (tys' := []) [] rfl
    have hFc := va_free (wc := [(h0, .inr (7, [.int (nI a), .int (0 : Int32), .ref h2, .ref h3, .ref h4, .int (nI co), .ref h6, .ref h7, .int (nI ba), .ref h9, .ref h10, .int (b2 kn), .int (b2 ak), .int qu, .int (0 : Int32), .ref h15, .ref h16, .ref h17]))]) hD hS hA [0] rfl
    refine mu_call (va_runV (As := []) (rest := []) ⟨hx, hb, hml, hown, hts⟩ (c_X8_forget l D H.size h0 a 0 h2 h3 h4 co h6 h7 ba h9 h10 kn ak qu 0 h15 h16 h17 ) (cwV 0 hts gX8_begin_X8_forget rfl rfl rfl (by decide +kernel) ⟨Nat.le_of_ble_eq_true rfl, Nat.le_of_ble_eq_true rfl⟩) ⟨mu_bl, va_recv hKc hPc (ci := 7) (q0 := 0) rfl rfl, fun U hU hW => ⟨rfl, by rw [hU], by rw [hU]; exact hPc, va_K.moved hW.alike hKc, hDc.weaken (fun _ _ _ _ => trivial)⟩⟩ rfl rfl hl.1 rfl (lv_room (Nat.le_of_ble_eq_true rfl)) dX8_begin_34 ⟨Nat.le_of_ble_eq_true rfl, Nat.le_of_ble_eq_true rfl⟩) hS (fun q _ h => hFc q h) hFc (fun H1 locs hP1 hD1 hk1 hS => ?_)
    obtain ⟨hP, hD⟩ := va_join (wr := []) (w1 := [(h0, .inr (7, [.int (nI a), .int (nI 0), .ref h2, .ref h3, .ref h4, .int (nI co), .ref h6, .ref h7, .int (nI ba), .ref h9, .ref h10, .int (b2 false), .int (b2 false), .int (-1 : Int32), .int (nI 0), .ref h15, .ref h16, .ref h17]))]) hP hD [0] [] rfl rfl (by decide) (by decide) hk1 hFc hP1 hD1
    generalize H1 = H at hP hS ⊢
    have hP : va_P D vwCl [(h0, .inr (7, [.int (nI a), .int (nI 0), .ref h2, .ref h3, .ref h4, .int (nI co), .ref h6, .ref h7, .int (nI ba), .ref h9, .ref h10, .int (b2 false), .int (b2 false), .int (-1 : Int32), .int (nI 0), .ref h15, .ref h16, .ref h17]))] H := hP
    have hD : va_D A [(h0, .inr (7, [.int (nI a), .int (nI 0), .ref h2, .ref h3, .ref h4, .int (nI co), .ref h6, .ref h7, .int (nI ba), .ref h9, .ref h10, .int (b2 false), .int (b2 false), .int (-1 : Int32), .int (nI 0), .ref h15, .ref h16, .ref h17]))] := hD
    refine lv_iload_n hx hb dX8_begin_37 rfl (lv_at hl 0 rfl) ?_
    have e_ret : (nI o) = (nI o) := by rfl
    have hP := hP.sub (ws' := [(h0, .inr (7, [.int (nI a), .int (nI 0), .ref h2, .ref h3, .ref h4, .int (nI co), .ref h6, .ref h7, .int (nI ba), .ref h9, .ref h10, .int (b2 false), .int (b2 false), .int (-1 : Int32), .int (nI 0), .ref h15, .ref h16, .ref h17]))]) [0] rfl
    have hD := hD.sub (ws' := [(h0, .inr (7, [.int (nI a), .int (nI 0), .ref h2, .ref h3, .ref h4, .int (nI co), .ref h6, .ref h7, .int (nI ba), .ref h9, .ref h10, .int (b2 false), .int (b2 false), .int (-1 : Int32), .int (nI 0), .ref h15, .ref h16, .ref h17]))]) [0] (by decide) rfl
    have hP : va_P D vwCl [(h0, .inr (7, [.int (nI a), .int (nI 0), .ref h2, .ref h3, .ref h4, .int (nI co), .ref h6, .ref h7, .int (nI ba), .ref h9, .ref h10, .int (b2 false), .int (b2 false), .int (-1 : Int32), .int (nI 0), .ref h15, .ref h16, .ref h17]))] H := by exact hP
    have hD : va_D A [(h0, .inr (7, [.int (nI a), .int (nI 0), .ref h2, .ref h3, .ref h4, .int (nI co), .ref h6, .ref h7, .int (nI ba), .ref h9, .ref h10, .int (b2 false), .int (b2 false), .int (-1 : Int32), .int (nI 0), .ref h15, .ref h16, .ref h17]))] := by exact hD
    exact W.iret (v := (nI o)) hx hb hr (fun t ht hW => ⟨⟨congrArg (fun z_ => Outcome.returned (some (Value.int z_))) e_ret, by rw [ht]; exact hP, hD⟩, hS.F ht⟩) hS.2.2 dX8_begin_38
  · have c_7 := b2_0.mp c_7
    exact Bool.noConfusion ((in_t (lo := 1) (hi := 12) ha1 ha2 (by decide)).symm.trans c_7)

set_option maxHeartbeats 4000000 in
set_option maxRecDepth 100000 in
theorem c_X8_begin_bad (l : Launch) (D : va_G) (sz : Nat) (h0 : Nat) (n : Nat) (o : Nat) (h2 : Nat) (h3 : Nat) (h4 : Nat) (co : Nat) (h6 : Nat) (h7 : Nat) (ba : Nat) (h9 : Nat) (h10 : Nat) (kn : Bool) (ak : Bool) (qu : Int32) (ac : Nat) (h15 : Nat) (h16 : Nat) (h17 : Nat) (x : Int32) (hb_ : (decide (¬ x < 1) && decide (¬ (12 : Int32) < x)) = false) : Met l yX8_begin wsX8_begin ({ frames := 1, cells := 0, slots := 0, locals := 22 }) (va_Pc [.ref h0, .int x] (fun U => U.heap.size = sz ∧ va_P D vwCl [(h0, .inr (7, [.int (nI n), .int (nI o), .ref h2, .ref h3, .ref h4, .int (nI co), .ref h6, .ref h7, .int (nI ba), .ref h9, .ref h10, .int (b2 kn), .int (b2 ak), .int qu, .int (nI ac), .ref h15, .ref h16, .ref h17]))] U.heap ∧ va_K D vwCl [] U ∧ va_D (fun _ => True) [(h0, .inr (7, [.int (nI n), .int (nI o), .ref h2, .ref h3, .ref h4, .int (nI co), .ref h6, .ref h7, .int (nI ba), .ref h9, .ref h10, .int (b2 kn), .int (b2 ak), .int qu, .int (nI ac), .ref h15, .ref h16, .ref h17]))])) (muQ (some (.int (-2))) D vwCl [(h0, .inr (7, [.int (nI n), .int (nI o), .ref h2, .ref h3, .ref h4, .int (nI co), .ref h6, .ref h7, .int (nI ba), .ref h9, .ref h10, .int (b2 kn), .int (b2 ak), .int qu, .int (nI ac), .ref h15, .ref h16, .ref h17]))] (va_A [(h0, .inr (7, [.int (nI n), .int (nI o), .ref h2, .ref h3, .ref h4, .int (nI co), .ref h6, .ref h7, .int (nI ba), .ref h9, .ref h10, .int (b2 kn), .int (b2 ak), .int qu, .int (nI ac), .ref h15, .ref h16, .ref h17]))] sz)) 0 0 (va_A [(h0, .inr (7, [.int (nI n), .int (nI o), .ref h2, .ref h3, .ref h4, .int (nI co), .ref h6, .ref h7, .int (nI ba), .ref h9, .ref h10, .int (b2 kn), .int (b2 ak), .int qu, .int (nI ac), .ref h15, .ref h16, .ref h17]))] sz) := by
  refine Met.ofW (cc := cX8_begin) (maxL := 3) (ret := (some .int)) (by decide) rfl ?_
  intro p e s m args below meth c s₁ B hml hv
  obtain ⟨rfl, hsz, hP, hK, hD0⟩ := hv
  have hx := B.exec
  have hb := B.bytes
  have hr := B.returns
  have hts := atoms_spec (ws := wsX8_begin) B.pre
  have hown : s.vm.findClass RX8 = some m.cls := findClass_of_methodNamed B.named
  have hlocks := B.notSynchronized
  subst hsz
  have hD := hD0.self (sz := s.heap.size)
  generalize hAe : va_A [(h0, .inr (7, [.int (nI n), .int (nI o), .ref h2, .ref h3, .ref h4, .int (nI co), .ref h6, .ref h7, .int (nI ba), .ref h9, .ref h10, .int (b2 kn), .int (b2 ak), .int qu, .int (nI ac), .ref h15, .ref h16, .ref h17]))] s.heap.size = A at hD ⊢
  have hA : ∀ q : Nat, s.heap.size ≤ q → A q := fun q h => by rw [← hAe]; exact Or.inr h
  have hS : va_S A s.heap s.heap [] := va_S.rf
  have hl := lv_entry ([.ref h0, .int x]) (n := 3) (Nat.le_of_ble_eq_true rfl)
  rw [lg_entry_eq]
  generalize (lg_sl ([.ref h0, .int x]) ++ List.replicate (3 - (lg_sl ([.ref h0, .int x])).length) Slot.unset).toArray = ls at hl ⊢
  have hl : lv_has ls 3 [(0, .ref h0), (1, .int x)] := hl
  refine lv_iload_n hx hb dX8_begin_0 rfl (lv_at hl 1 rfl) ?_
  refine lv_iconst (v := 1) hx hb dX8_begin_1 (by decide) ?_
  refine lv_bipush (v := 12) hx hb dX8_begin_2 (by decide) ?_
  refine rd_S (As := [.int x, .int (1 : Int32), .int (12 : Int32)]) (rest := []) ⟨hx, hb, hml, hown, hts⟩ (c_X8_in l D x (1 : Int32) (12 : Int32) ) (va_cwS 3 hts gX8_begin_X8_in rfl rfl rfl (by decide +kernel) ⟨Nat.le_of_ble_eq_true rfl, Nat.le_of_ble_eq_true rfl⟩) (hP.sub (ws' := []) [] rfl) (hK.sub (tys' := []) [] rfl) rfl rfl hl.1 rfl (lv_room (Nat.le_of_ble_eq_true rfl)) dX8_begin_4 ⟨Nat.le_of_ble_eq_true rfl, Nat.le_of_ble_eq_true rfl⟩ ?_
  refine lv_if_ne (tgt := 13) hx hb dX8_begin_7 (by decide) (fun c_7 => ?_) (fun c_7 => ?_)
  · have c_7 := b2_n0.mp c_7
    exact Bool.noConfusion (hb_.symm.trans c_7)
  · have c_7 := b2_0.mp c_7
    refine lv_bipush (v := -2) hx hb dX8_begin_10 (by decide) ?_
    have e_ret : (-2 : Int32) = (-2) := by rfl
    have hP := hP.sub (ws' := [(h0, .inr (7, [.int (nI n), .int (nI o), .ref h2, .ref h3, .ref h4, .int (nI co), .ref h6, .ref h7, .int (nI ba), .ref h9, .ref h10, .int (b2 kn), .int (b2 ak), .int qu, .int (nI ac), .ref h15, .ref h16, .ref h17]))]) [0] rfl
    have hD := hD.sub (ws' := [(h0, .inr (7, [.int (nI n), .int (nI o), .ref h2, .ref h3, .ref h4, .int (nI co), .ref h6, .ref h7, .int (nI ba), .ref h9, .ref h10, .int (b2 kn), .int (b2 ak), .int qu, .int (nI ac), .ref h15, .ref h16, .ref h17]))]) [0] (by decide) rfl
    have hP : va_P D vwCl [(h0, .inr (7, [.int (nI n), .int (nI o), .ref h2, .ref h3, .ref h4, .int (nI co), .ref h6, .ref h7, .int (nI ba), .ref h9, .ref h10, .int (b2 kn), .int (b2 ak), .int qu, .int (nI ac), .ref h15, .ref h16, .ref h17]))] s.heap := by exact hP
    have hD : va_D A [(h0, .inr (7, [.int (nI n), .int (nI o), .ref h2, .ref h3, .ref h4, .int (nI co), .ref h6, .ref h7, .int (nI ba), .ref h9, .ref h10, .int (b2 kn), .int (b2 ak), .int qu, .int (nI ac), .ref h15, .ref h16, .ref h17]))] := by exact hD
    exact W.iret (v := (-2 : Int32)) hx hb hr (fun t ht hW => ⟨⟨congrArg (fun z_ => Outcome.returned (some (Value.int z_))) e_ret, by rw [ht]; exact hP, hD⟩, hS.F ht⟩) hS.2.2 dX8_begin_12

set_option maxHeartbeats 4000000 in
set_option maxRecDepth 100000 in
theorem c_X8_object_bad (l : Launch) (D : va_G) (sz : Nat) (h0 : Nat) (n : Nat) (o : Nat) (h2 : Nat) (h3 : Nat) (h4 : Nat) (co : Nat) (h6 : Nat) (h7 : Nat) (ba : Nat) (h9 : Nat) (h10 : Nat) (kn : Bool) (ak : Bool) (qu : Int32) (ac : Nat) (h15 : Nat) (h16 : Nat) (h17 : Nat) (x : Int32) (hn : n ≤ 12) (hb_ : sb x (nI (2 ^ n - 1)) = false) : Met l yX8_object wsX8_object ({ frames := 2, cells := 0, slots := 0, locals := 42 }) (va_Pc [.ref h0, .int x] (fun U => U.heap.size = sz ∧ va_P D vwCl [(h0, .inr (7, [.int (nI n), .int (nI o), .ref h2, .ref h3, .ref h4, .int (nI co), .ref h6, .ref h7, .int (nI ba), .ref h9, .ref h10, .int (b2 kn), .int (b2 ak), .int qu, .int (nI ac), .ref h15, .ref h16, .ref h17]))] U.heap ∧ va_K D vwCl [] U ∧ va_D (fun _ => True) [(h0, .inr (7, [.int (nI n), .int (nI o), .ref h2, .ref h3, .ref h4, .int (nI co), .ref h6, .ref h7, .int (nI ba), .ref h9, .ref h10, .int (b2 kn), .int (b2 ak), .int qu, .int (nI ac), .ref h15, .ref h16, .ref h17]))])) (muQ (some (.int (-2))) D vwCl [(h0, .inr (7, [.int (nI n), .int (nI o), .ref h2, .ref h3, .ref h4, .int (nI co), .ref h6, .ref h7, .int (nI ba), .ref h9, .ref h10, .int (b2 kn), .int (b2 ak), .int qu, .int (nI ac), .ref h15, .ref h16, .ref h17]))] (va_A [(h0, .inr (7, [.int (nI n), .int (nI o), .ref h2, .ref h3, .ref h4, .int (nI co), .ref h6, .ref h7, .int (nI ba), .ref h9, .ref h10, .int (b2 kn), .int (b2 ak), .int qu, .int (nI ac), .ref h15, .ref h16, .ref h17]))] sz)) 0 0 (va_A [(h0, .inr (7, [.int (nI n), .int (nI o), .ref h2, .ref h3, .ref h4, .int (nI co), .ref h6, .ref h7, .int (nI ba), .ref h9, .ref h10, .int (b2 kn), .int (b2 ak), .int qu, .int (nI ac), .ref h15, .ref h16, .ref h17]))] sz) := by
  refine Met.ofW (cc := cX8_object) (maxL := 2) (ret := (some .int)) (by decide) rfl ?_
  intro p e s m args below meth c s₁ B hml hv
  obtain ⟨rfl, hsz, hP, hK, hD0⟩ := hv
  have hx := B.exec
  have hb := B.bytes
  have hr := B.returns
  have hts := atoms_spec (ws := wsX8_object) B.pre
  have hown : s.vm.findClass RX8 = some m.cls := findClass_of_methodNamed B.named
  have hlocks := B.notSynchronized
  subst hsz
  have hD := hD0.self (sz := s.heap.size)
  generalize hAe : va_A [(h0, .inr (7, [.int (nI n), .int (nI o), .ref h2, .ref h3, .ref h4, .int (nI co), .ref h6, .ref h7, .int (nI ba), .ref h9, .ref h10, .int (b2 kn), .int (b2 ak), .int qu, .int (nI ac), .ref h15, .ref h16, .ref h17]))] s.heap.size = A at hD ⊢
  have hA : ∀ q : Nat, s.heap.size ≤ q → A q := fun q h => by rw [← hAe]; exact Or.inr h
  have hS : va_S A s.heap s.heap [] := va_S.rf
  have hl := lv_entry ([.ref h0, .int x]) (n := 2) (Nat.le_of_ble_eq_true rfl)
  rw [lg_entry_eq]
  generalize (lg_sl ([.ref h0, .int x]) ++ List.replicate (2 - (lg_sl ([.ref h0, .int x])).length) Slot.unset).toArray = ls at hl ⊢
  have hl : lv_has ls 2 [(0, .ref h0), (1, .int x)] := hl
  refine lv_aload_n hx hb dX8_object_0 rfl (lv_at hl 0 rfl) ?_
  refine lv_iload_n hx hb dX8_object_1 rfl (lv_at hl 1 rfl) ?_
  refine rd_V (As := [.int x]) (rest := []) ⟨hx, hb, hml, hown, hts⟩ (c_X8_isSet l D h0 ([.int (nI n), .int (nI o), .ref h2, .ref h3, .ref h4, .int (nI co), .ref h6, .ref h7, .int (nI ba), .ref h9, .ref h10, .int (b2 kn), .int (b2 ak), .int qu, .int (nI ac), .ref h15, .ref h16, .ref h17]) n x rfl (by assumption)) (cwV 1 hts gX8_object_X8_isSet rfl rfl rfl (by decide +kernel) ⟨Nat.le_of_ble_eq_true rfl, Nat.le_of_ble_eq_true rfl⟩) (hP.sub (ws' := [(h0, .inr (7, [.int (nI n), .int (nI o), .ref h2, .ref h3, .ref h4, .int (nI co), .ref h6, .ref h7, .int (nI ba), .ref h9, .ref h10, .int (b2 kn), .int (b2 ak), .int qu, .int (nI ac), .ref h15, .ref h16, .ref h17]))]) [0] rfl) (hK.sub (tys' := []) [] rfl) (va_recv hK hP (ci := 7) (q0 := 0) rfl rfl) rfl rfl hl.1 rfl (lv_room (Nat.le_of_ble_eq_true rfl)) dX8_object_2 ⟨Nat.le_of_ble_eq_true rfl, Nat.le_of_ble_eq_true rfl⟩ ?_
  refine lv_if_ne (tgt := 11) hx hb dX8_object_5 (by decide) (fun c_5 => ?_) (fun c_5 => ?_)
  · have c_5 := b2_n0.mp c_5
    exact Bool.noConfusion (hb_.symm.trans c_5)
  · have c_5 := b2_0.mp c_5
    refine lv_bipush (v := -2) hx hb dX8_object_8 (by decide) ?_
    have e_ret : (-2 : Int32) = (-2) := by rfl
    have hP := hP.sub (ws' := [(h0, .inr (7, [.int (nI n), .int (nI o), .ref h2, .ref h3, .ref h4, .int (nI co), .ref h6, .ref h7, .int (nI ba), .ref h9, .ref h10, .int (b2 kn), .int (b2 ak), .int qu, .int (nI ac), .ref h15, .ref h16, .ref h17]))]) [0] rfl
    have hD := hD.sub (ws' := [(h0, .inr (7, [.int (nI n), .int (nI o), .ref h2, .ref h3, .ref h4, .int (nI co), .ref h6, .ref h7, .int (nI ba), .ref h9, .ref h10, .int (b2 kn), .int (b2 ak), .int qu, .int (nI ac), .ref h15, .ref h16, .ref h17]))]) [0] (by decide) rfl
    have hP : va_P D vwCl [(h0, .inr (7, [.int (nI n), .int (nI o), .ref h2, .ref h3, .ref h4, .int (nI co), .ref h6, .ref h7, .int (nI ba), .ref h9, .ref h10, .int (b2 kn), .int (b2 ak), .int qu, .int (nI ac), .ref h15, .ref h16, .ref h17]))] s.heap := by exact hP
    have hD : va_D A [(h0, .inr (7, [.int (nI n), .int (nI o), .ref h2, .ref h3, .ref h4, .int (nI co), .ref h6, .ref h7, .int (nI ba), .ref h9, .ref h10, .int (b2 kn), .int (b2 ak), .int qu, .int (nI ac), .ref h15, .ref h16, .ref h17]))] := by exact hD
    exact W.iret (v := (-2 : Int32)) hx hb hr (fun t ht hW => ⟨⟨congrArg (fun z_ => Outcome.returned (some (Value.int z_))) e_ret, by rw [ht]; exact hP, hD⟩, hS.F ht⟩) hS.2.2 dX8_object_10

set_option maxHeartbeats 4000000 in
set_option maxRecDepth 100000 in
theorem c_X8_object_full (l : Launch) (D : va_G) (sz : Nat) (h0 : Nat) (n : Nat) (h2 : Nat) (h3 : Nat) (h4 : Nat) (co : Nat) (h6 : Nat) (h7 : Nat) (ba : Nat) (h9 : Nat) (h10 : Nat) (kn : Bool) (ak : Bool) (qu : Int32) (ac : Nat) (h15 : Nat) (h16 : Nat) (h17 : Nat) (x : Int32) (hn : n ≤ 12) (hb_ : sb x (nI (2 ^ n - 1)) = true) : Met l yX8_object wsX8_object ({ frames := 2, cells := 0, slots := 0, locals := 42 }) (va_Pc [.ref h0, .int x] (fun U => U.heap.size = sz ∧ va_P D vwCl [(h0, .inr (7, [.int (nI n), .int (nI 20), .ref h2, .ref h3, .ref h4, .int (nI co), .ref h6, .ref h7, .int (nI ba), .ref h9, .ref h10, .int (b2 kn), .int (b2 ak), .int qu, .int (nI ac), .ref h15, .ref h16, .ref h17]))] U.heap ∧ va_K D vwCl [] U ∧ va_D (fun _ => True) [(h0, .inr (7, [.int (nI n), .int (nI 20), .ref h2, .ref h3, .ref h4, .int (nI co), .ref h6, .ref h7, .int (nI ba), .ref h9, .ref h10, .int (b2 kn), .int (b2 ak), .int qu, .int (nI ac), .ref h15, .ref h16, .ref h17]))])) (muQ (some (.int (-3))) D vwCl [(h0, .inr (7, [.int (nI n), .int (nI 20), .ref h2, .ref h3, .ref h4, .int (nI co), .ref h6, .ref h7, .int (nI ba), .ref h9, .ref h10, .int (b2 kn), .int (b2 ak), .int qu, .int (nI ac), .ref h15, .ref h16, .ref h17]))] (va_A [(h0, .inr (7, [.int (nI n), .int (nI 20), .ref h2, .ref h3, .ref h4, .int (nI co), .ref h6, .ref h7, .int (nI ba), .ref h9, .ref h10, .int (b2 kn), .int (b2 ak), .int qu, .int (nI ac), .ref h15, .ref h16, .ref h17]))] sz)) 0 0 (va_A [(h0, .inr (7, [.int (nI n), .int (nI 20), .ref h2, .ref h3, .ref h4, .int (nI co), .ref h6, .ref h7, .int (nI ba), .ref h9, .ref h10, .int (b2 kn), .int (b2 ak), .int qu, .int (nI ac), .ref h15, .ref h16, .ref h17]))] sz) := by
  refine Met.ofW (cc := cX8_object) (maxL := 2) (ret := (some .int)) (by decide) rfl ?_
  intro p e s m args below meth c s₁ B hml hv
  obtain ⟨rfl, hsz, hP, hK, hD0⟩ := hv
  have hx := B.exec
  have hb := B.bytes
  have hr := B.returns
  have hts := atoms_spec (ws := wsX8_object) B.pre
  have hown : s.vm.findClass RX8 = some m.cls := findClass_of_methodNamed B.named
  have hlocks := B.notSynchronized
  subst hsz
  have hD := hD0.self (sz := s.heap.size)
  generalize hAe : va_A [(h0, .inr (7, [.int (nI n), .int (nI 20), .ref h2, .ref h3, .ref h4, .int (nI co), .ref h6, .ref h7, .int (nI ba), .ref h9, .ref h10, .int (b2 kn), .int (b2 ak), .int qu, .int (nI ac), .ref h15, .ref h16, .ref h17]))] s.heap.size = A at hD ⊢
  have hA : ∀ q : Nat, s.heap.size ≤ q → A q := fun q h => by rw [← hAe]; exact Or.inr h
  have hS : va_S A s.heap s.heap [] := va_S.rf
  have hl := lv_entry ([.ref h0, .int x]) (n := 2) (Nat.le_of_ble_eq_true rfl)
  rw [lg_entry_eq]
  generalize (lg_sl ([.ref h0, .int x]) ++ List.replicate (2 - (lg_sl ([.ref h0, .int x])).length) Slot.unset).toArray = ls at hl ⊢
  have hl : lv_has ls 2 [(0, .ref h0), (1, .int x)] := hl
  refine lv_aload_n hx hb dX8_object_0 rfl (lv_at hl 0 rfl) ?_
  refine lv_iload_n hx hb dX8_object_1 rfl (lv_at hl 1 rfl) ?_
  refine rd_V (As := [.int x]) (rest := []) ⟨hx, hb, hml, hown, hts⟩ (c_X8_isSet l D h0 ([.int (nI n), .int (nI 20), .ref h2, .ref h3, .ref h4, .int (nI co), .ref h6, .ref h7, .int (nI ba), .ref h9, .ref h10, .int (b2 kn), .int (b2 ak), .int qu, .int (nI ac), .ref h15, .ref h16, .ref h17]) n x rfl (by assumption)) (cwV 1 hts gX8_object_X8_isSet rfl rfl rfl (by decide +kernel) ⟨Nat.le_of_ble_eq_true rfl, Nat.le_of_ble_eq_true rfl⟩) (hP.sub (ws' := [(h0, .inr (7, [.int (nI n), .int (nI 20), .ref h2, .ref h3, .ref h4, .int (nI co), .ref h6, .ref h7, .int (nI ba), .ref h9, .ref h10, .int (b2 kn), .int (b2 ak), .int qu, .int (nI ac), .ref h15, .ref h16, .ref h17]))]) [0] rfl) (hK.sub (tys' := []) [] rfl) (va_recv hK hP (ci := 7) (q0 := 0) rfl rfl) rfl rfl hl.1 rfl (lv_room (Nat.le_of_ble_eq_true rfl)) dX8_object_2 ⟨Nat.le_of_ble_eq_true rfl, Nat.le_of_ble_eq_true rfl⟩ ?_
  refine lv_if_ne (tgt := 11) hx hb dX8_object_5 (by decide) (fun c_5 => ?_) (fun c_5 => ?_)
  · have c_5 := b2_n0.mp c_5
    refine lv_aload_n hx hb dX8_object_11 rfl (lv_at hl 0 rfl) ?_
    refine va_get (D := D) (ci := 7) (v := .int (nI 20)) (C := RX8) (T := TX8) (N := 18) hx hb hts (by decide +kernel) hown hK hP 0 rfl rfl 1 (by decide) (hts (.fieldLink RX8 67 "ConceptTableModel" "objects" "I") (by decide +kernel)) (fun _ h9 => h9) rfl dX8_object_12 ?_
    refine lv_bipush (v := 20) hx hb dX8_object_15 (by decide) ?_
    refine lv_icmp_ne (tgt := 23) hx hb dX8_object_17 (by decide) (fun c_17 => ?_) (fun c_17 => ?_)
    · exact absurd rfl c_17
    · refine lv_bipush (v := -3) hx hb dX8_object_20 (by decide) ?_
      have e_ret : (-3 : Int32) = (-3) := by rfl
      have hP := hP.sub (ws' := [(h0, .inr (7, [.int (nI n), .int (nI 20), .ref h2, .ref h3, .ref h4, .int (nI co), .ref h6, .ref h7, .int (nI ba), .ref h9, .ref h10, .int (b2 kn), .int (b2 ak), .int qu, .int (nI ac), .ref h15, .ref h16, .ref h17]))]) [0] rfl
      have hD := hD.sub (ws' := [(h0, .inr (7, [.int (nI n), .int (nI 20), .ref h2, .ref h3, .ref h4, .int (nI co), .ref h6, .ref h7, .int (nI ba), .ref h9, .ref h10, .int (b2 kn), .int (b2 ak), .int qu, .int (nI ac), .ref h15, .ref h16, .ref h17]))]) [0] (by decide) rfl
      have hP : va_P D vwCl [(h0, .inr (7, [.int (nI n), .int (nI 20), .ref h2, .ref h3, .ref h4, .int (nI co), .ref h6, .ref h7, .int (nI ba), .ref h9, .ref h10, .int (b2 kn), .int (b2 ak), .int qu, .int (nI ac), .ref h15, .ref h16, .ref h17]))] s.heap := by exact hP
      have hD : va_D A [(h0, .inr (7, [.int (nI n), .int (nI 20), .ref h2, .ref h3, .ref h4, .int (nI co), .ref h6, .ref h7, .int (nI ba), .ref h9, .ref h10, .int (b2 kn), .int (b2 ak), .int qu, .int (nI ac), .ref h15, .ref h16, .ref h17]))] := by exact hD
      exact W.iret (v := (-3 : Int32)) hx hb hr (fun t ht hW => ⟨⟨congrArg (fun z_ => Outcome.returned (some (Value.int z_))) e_ret, by rw [ht]; exact hP, hD⟩, hS.F ht⟩) hS.2.2 dX8_object_22
  · have c_5 := b2_0.mp c_5
    exact Bool.noConfusion (hb_.symm.trans c_5)

set_option maxHeartbeats 4000000 in
set_option maxRecDepth 100000 in
theorem c_X8_object_ok (l : Launch) (D : va_G) (sz : Nat) (h0 : Nat) (n : Nat) (o : Nat) (h2 : Nat) (h3 : Nat) (h4 : Nat) (co : Nat) (h6 : Nat) (h7 : Nat) (ba : Nat) (h9 : Nat) (h10 : Nat) (kn : Bool) (ak : Bool) (qu : Int32) (ac : Nat) (h15 : Nat) (h16 : Nat) (h17 : Nat) (cI : ClassId) (r : Nat → Nat) (q : Nat) (hn : n ≤ 12) (ho : o < 20) (hb_ : sb (nI q) (nI (2 ^ n - 1)) = true) : Met l yX8_object wsX8_object ({ frames := 2, cells := 0, slots := 0, locals := 42 }) (va_Pc [.ref h0, .int (nI q)] (fun U => U.heap.size = sz ∧ va_P D vwCl [(h0, .inr (7, [.int (nI n), .int (nI o), .ref h2, .ref h3, .ref h4, .int (nI co), .ref h6, .ref h7, .int (nI ba), .ref h9, .ref h10, .int (b2 kn), .int (b2 ak), .int qu, .int (nI ac), .ref h15, .ref h16, .ref h17])), (h2, .inl (cI, 20, .inl (fun i_ => nI (r i_))))] U.heap ∧ va_K D vwCl [(cI, .int)] U ∧ va_D (fun _ => True) [(h0, .inr (7, [.int (nI n), .int (nI o), .ref h2, .ref h3, .ref h4, .int (nI co), .ref h6, .ref h7, .int (nI ba), .ref h9, .ref h10, .int (b2 kn), .int (b2 ak), .int qu, .int (nI ac), .ref h15, .ref h16, .ref h17])), (h2, .inl (cI, 20, .inl (fun i_ => nI (r i_))))])) (muQ (some (.int (nI o))) D vwCl [(h0, .inr (7, [.int (nI n), .int (nI (o + 1)), .ref h2, .ref h3, .ref h4, .int (nI co), .ref h6, .ref h7, .int (nI ba), .ref h9, .ref h10, .int (b2 false), .int (b2 false), .int (-1 : Int32), .int (nI ac), .ref h15, .ref h16, .ref h17])), (h2, .inl (cI, 20, .inl (fun i_ => nI ((va_up r o q) i_))))] (va_A [(h0, .inr (7, [.int (nI n), .int (nI o), .ref h2, .ref h3, .ref h4, .int (nI co), .ref h6, .ref h7, .int (nI ba), .ref h9, .ref h10, .int (b2 kn), .int (b2 ak), .int qu, .int (nI ac), .ref h15, .ref h16, .ref h17])), (h2, .inl (cI, 20, .inl (fun i_ => nI (r i_))))] sz)) 0 0 (va_A [(h0, .inr (7, [.int (nI n), .int (nI o), .ref h2, .ref h3, .ref h4, .int (nI co), .ref h6, .ref h7, .int (nI ba), .ref h9, .ref h10, .int (b2 kn), .int (b2 ak), .int qu, .int (nI ac), .ref h15, .ref h16, .ref h17])), (h2, .inl (cI, 20, .inl (fun i_ => nI (r i_))))] sz) := by
  refine Met.ofW (cc := cX8_object) (maxL := 2) (ret := (some .int)) (by decide) rfl ?_
  intro p e s m args below meth c s₁ B hml hv
  obtain ⟨rfl, hsz, hP, hK, hD0⟩ := hv
  have hx := B.exec
  have hb := B.bytes
  have hr := B.returns
  have hts := atoms_spec (ws := wsX8_object) B.pre
  have hown : s.vm.findClass RX8 = some m.cls := findClass_of_methodNamed B.named
  have hlocks := B.notSynchronized
  subst hsz
  have hD := hD0.self (sz := s.heap.size)
  generalize hAe : va_A [(h0, .inr (7, [.int (nI n), .int (nI o), .ref h2, .ref h3, .ref h4, .int (nI co), .ref h6, .ref h7, .int (nI ba), .ref h9, .ref h10, .int (b2 kn), .int (b2 ak), .int qu, .int (nI ac), .ref h15, .ref h16, .ref h17])), (h2, .inl (cI, 20, .inl (fun i_ => nI (r i_))))] s.heap.size = A at hD ⊢
  have hA : ∀ q : Nat, s.heap.size ≤ q → A q := fun q h => by rw [← hAe]; exact Or.inr h
  have hS : va_S A s.heap s.heap [] := va_S.rf
  have hl := lv_entry ([.ref h0, .int (nI q)]) (n := 2) (Nat.le_of_ble_eq_true rfl)
  rw [lg_entry_eq]
  generalize (lg_sl ([.ref h0, .int (nI q)]) ++ List.replicate (2 - (lg_sl ([.ref h0, .int (nI q)])).length) Slot.unset).toArray = ls at hl ⊢
  have hl : lv_has ls 2 [(0, .ref h0), (1, .int (nI q))] := hl
  refine lv_aload_n hx hb dX8_object_0 rfl (lv_at hl 0 rfl) ?_
  refine lv_iload_n hx hb dX8_object_1 rfl (lv_at hl 1 rfl) ?_
  refine rd_V (As := [.int (nI q)]) (rest := []) ⟨hx, hb, hml, hown, hts⟩ (c_X8_isSet l D h0 ([.int (nI n), .int (nI o), .ref h2, .ref h3, .ref h4, .int (nI co), .ref h6, .ref h7, .int (nI ba), .ref h9, .ref h10, .int (b2 kn), .int (b2 ak), .int qu, .int (nI ac), .ref h15, .ref h16, .ref h17]) n (nI q) rfl (by assumption)) (cwV 1 hts gX8_object_X8_isSet rfl rfl rfl (by decide +kernel) ⟨Nat.le_of_ble_eq_true rfl, Nat.le_of_ble_eq_true rfl⟩) (hP.sub (ws' := [(h0, .inr (7, [.int (nI n), .int (nI o), .ref h2, .ref h3, .ref h4, .int (nI co), .ref h6, .ref h7, .int (nI ba), .ref h9, .ref h10, .int (b2 kn), .int (b2 ak), .int qu, .int (nI ac), .ref h15, .ref h16, .ref h17]))]) [0] rfl) (hK.sub (tys' := []) [] rfl) (va_recv hK hP (ci := 7) (q0 := 0) rfl rfl) rfl rfl hl.1 rfl (lv_room (Nat.le_of_ble_eq_true rfl)) dX8_object_2 ⟨Nat.le_of_ble_eq_true rfl, Nat.le_of_ble_eq_true rfl⟩ ?_
  refine lv_if_ne (tgt := 11) hx hb dX8_object_5 (by decide) (fun c_5 => ?_) (fun c_5 => ?_)
  · have c_5 := b2_n0.mp c_5
    refine lv_aload_n hx hb dX8_object_11 rfl (lv_at hl 0 rfl) ?_
    refine va_get (D := D) (ci := 7) (v := .int (nI o)) (C := RX8) (T := TX8) (N := 18) hx hb hts (by decide +kernel) hown hK hP 0 rfl rfl 1 (by decide) (hts (.fieldLink RX8 67 "ConceptTableModel" "objects" "I") (by decide +kernel)) (fun _ h9 => h9) rfl dX8_object_12 ?_
    refine lv_bipush (v := 20) hx hb dX8_object_15 (by decide) ?_
    refine lv_icmp_ne (tgt := 23) hx hb dX8_object_17 (by decide) (fun c_17 => ?_) (fun c_17 => ?_)
    · have c_17 : ¬ o = 20 := fun h_ => c_17 ((nI_eq (a := o) (b := 20) (by omega) (by omega)).mpr h_)
      refine lv_aload_n hx hb dX8_object_23 rfl (lv_at hl 0 rfl) ?_
      refine va_get (D := D) (ci := 7) (v := .ref h2) (C := RX8) (T := TX8) (N := 18) hx hb hts (by decide +kernel) hown hK hP 0 rfl rfl 2 (by decide) (hts (.fieldLink RX8 13 "ConceptTableModel" "rows" "[I") (by decide +kernel)) (fun _ h9 => h9) rfl dX8_object_24 ?_
      refine lv_aload_n hx hb dX8_object_27 rfl (lv_at hl 0 rfl) ?_
      refine va_get (D := D) (ci := 7) (v := .int (nI o)) (C := RX8) (T := TX8) (N := 18) hx hb hts (by decide +kernel) hown hK hP 0 rfl rfl 1 (by decide) (hts (.fieldLink RX8 67 "ConceptTableModel" "objects" "I") (by decide +kernel)) (fun _ h9 => h9) rfl dX8_object_28 ?_
      refine lv_iload_n hx hb dX8_object_31 rfl (lv_at hl 1 rfl) ?_
      refine va_iast hx hb hK hP hD hS 1 0 rfl rfl (vp_in_nI (by omega) (by omega)) dX8_object_32 (fun H locs hP hD hS => ?_)
      have e_up : (upd (fun i_ => nI (r i_)) ((nI o)).toNatClampNeg (nI q)) = (fun i_ => nI ((va_up r o q) i_)) := by rw [show ((nI o)).toNatClampNeg = o from nI_clamp (by omega)]; exact up_nI r o q
      have hP : va_P D vwCl [(h0, .inr (7, [.int (nI n), .int (nI o), .ref h2, .ref h3, .ref h4, .int (nI co), .ref h6, .ref h7, .int (nI ba), .ref h9, .ref h10, .int (b2 kn), .int (b2 ak), .int qu, .int (nI ac), .ref h15, .ref h16, .ref h17])), (h2, .inl (cI, 20, .inl (fun i_ => nI ((va_up r o q) i_))))] H := by rw [← e_up]; exact hP
      have hD : va_D A [(h0, .inr (7, [.int (nI n), .int (nI o), .ref h2, .ref h3, .ref h4, .int (nI co), .ref h6, .ref h7, .int (nI ba), .ref h9, .ref h10, .int (b2 kn), .int (b2 ak), .int qu, .int (nI ac), .ref h15, .ref h16, .ref h17])), (h2, .inl (cI, 20, .inl (fun i_ => nI ((va_up r o q) i_))))] := by rw [← e_up]; exact hD
      clear e_up
      refine lv_aload_n hx hb dX8_object_33 rfl (lv_at hl 0 rfl) ?_
      refine lv_dup hx hb dX8_object_34 rfl ?_
      refine va_get (D := D) (ci := 7) (v := .int (nI o)) (C := RX8) (T := TX8) (N := 18) hx hb hts (by decide +kernel) hown hK hP 0 rfl rfl 1 (by decide) (hts (.fieldLink RX8 67 "ConceptTableModel" "objects" "I") (by decide +kernel)) (fun _ h9 => h9) rfl dX8_object_35 ?_
      refine lv_iconst (v := 1) hx hb dX8_object_38 (by decide) ?_
      refine lv_iadd hx hb dX8_object_39 ?_
      refine lv_re (y := (nI (o + 1))) (nI_add o 1) ?_
      refine va_put (D := D) (ci := 7) (v := .int (nI (o + 1))) (ty := .int) (C := RX8) (T := TX8) (N := 18) hx hb hts (by decide +kernel) tyX8 tyX8_ok nmX8 hown hK hP hD hS 0 rfl rfl 1 (by decide) (hts (.fieldLink RX8 67 "ConceptTableModel" "objects" "I") (by decide +kernel)) (fun _ h9 => h9) rfl (by decide +kernel) rfl rfl (Nat.le_of_ble_eq_true rfl) dX8_object_40 (fun H locs hP hD hS => ?_)
      have hP : va_P D vwCl [(h0, .inr (7, [.int (nI n), .int (nI (o + 1)), .ref h2, .ref h3, .ref h4, .int (nI co), .ref h6, .ref h7, .int (nI ba), .ref h9, .ref h10, .int (b2 kn), .int (b2 ak), .int qu, .int (nI ac), .ref h15, .ref h16, .ref h17])), (h2, .inl (cI, 20, .inl (fun i_ => nI ((va_up r o q) i_))))] H := hP
      have hD : va_D A [(h0, .inr (7, [.int (nI n), .int (nI (o + 1)), .ref h2, .ref h3, .ref h4, .int (nI co), .ref h6, .ref h7, .int (nI ba), .ref h9, .ref h10, .int (b2 kn), .int (b2 ak), .int qu, .int (nI ac), .ref h15, .ref h16, .ref h17])), (h2, .inl (cI, 20, .inl (fun i_ => nI ((va_up r o q) i_))))] := hD
      refine lv_aload_n hx hb dX8_object_43 rfl (lv_at hl 0 rfl) ?_
      have hPc := hP.sub (ws' := [(h0, .inr (7, [.int (nI n), .int (nI (o + 1)), .ref h2, .ref h3, .ref h4, .int (nI co), .ref h6, .ref h7, .int (nI ba), .ref h9, .ref h10, .int (b2 kn), .int (b2 ak), .int qu, .int (nI ac), .ref h15, .ref h16, .ref h17]))]) [0] rfl
      have hDc := hD.sub (ws' := [(h0, .inr (7, [.int (nI n), .int (nI (o + 1)), .ref h2, .ref h3, .ref h4, .int (nI co), .ref h6, .ref h7, .int (nI ba), .ref h9, .ref h10, .int (b2 kn), .int (b2 ak), .int qu, .int (nI ac), .ref h15, .ref h16, .ref h17]))]) [0] (by decide) rfl
      have hKc := hK.sub (tys' := []) [] rfl
      have hFc := va_free (wc := [(h0, .inr (7, [.int (nI n), .int (nI (o + 1)), .ref h2, .ref h3, .ref h4, .int (nI co), .ref h6, .ref h7, .int (nI ba), .ref h9, .ref h10, .int (b2 kn), .int (b2 ak), .int qu, .int (nI ac), .ref h15, .ref h16, .ref h17]))]) hD hS hA [0] rfl
      refine mu_call (va_runV (As := []) (rest := []) ⟨hx, hb, hml, hown, hts⟩ (c_X8_forget l D H.size h0 n (o + 1) h2 h3 h4 co h6 h7 ba h9 h10 kn ak qu ac h15 h16 h17 ) (cwV 0 hts gX8_object_X8_forget rfl rfl rfl (by decide +kernel) ⟨Nat.le_of_ble_eq_true rfl, Nat.le_of_ble_eq_true rfl⟩) ⟨mu_bl, va_recv hKc hPc (ci := 7) (q0 := 0) rfl rfl, fun U hU hW => ⟨rfl, by rw [hU], by rw [hU]; exact hPc, va_K.moved hW.alike hKc, hDc.weaken (fun _ _ _ _ => trivial)⟩⟩ rfl rfl hl.1 rfl (lv_room (Nat.le_of_ble_eq_true rfl)) dX8_object_44 ⟨Nat.le_of_ble_eq_true rfl, Nat.le_of_ble_eq_true rfl⟩) hS (fun q _ h => hFc q h) hFc (fun H1 locs hP1 hD1 hk1 hS => ?_)
      obtain ⟨hP, hD⟩ := va_join (wr := [(h2, .inl (cI, 20, .inl (fun i_ => nI ((va_up r o q) i_))))]) (w1 := [(h0, .inr (7, [.int (nI n), .int (nI (o + 1)), .ref h2, .ref h3, .ref h4, .int (nI co), .ref h6, .ref h7, .int (nI ba), .ref h9, .ref h10, .int (b2 false), .int (b2 false), .int (-1 : Int32), .int (nI ac), .ref h15, .ref h16, .ref h17]))]) hP hD [0] [1] rfl rfl (by decide) (by decide) hk1 hFc hP1 hD1
      generalize H1 = H at hP hS ⊢
      have hP : va_P D vwCl [(h2, .inl (cI, 20, .inl (fun i_ => nI ((va_up r o q) i_)))), (h0, .inr (7, [.int (nI n), .int (nI (o + 1)), .ref h2, .ref h3, .ref h4, .int (nI co), .ref h6, .ref h7, .int (nI ba), .ref h9, .ref h10, .int (b2 false), .int (b2 false), .int (-1 : Int32), .int (nI ac), .ref h15, .ref h16, .ref h17]))] H := hP
      have hD : va_D A [(h2, .inl (cI, 20, .inl (fun i_ => nI ((va_up r o q) i_)))), (h0, .inr (7, [.int (nI n), .int (nI (o + 1)), .ref h2, .ref h3, .ref h4, .int (nI co), .ref h6, .ref h7, .int (nI ba), .ref h9, .ref h10, .int (b2 false), .int (b2 false), .int (-1 : Int32), .int (nI ac), .ref h15, .ref h16, .ref h17]))] := hD
      refine lv_aload_n hx hb dX8_object_47 rfl (lv_at hl 0 rfl) ?_
      refine va_get (D := D) (ci := 7) (v := .int (nI (o + 1))) (C := RX8) (T := TX8) (N := 18) hx hb hts (by decide +kernel) hown hK hP 1 rfl rfl 1 (by decide) (hts (.fieldLink RX8 67 "ConceptTableModel" "objects" "I") (by decide +kernel)) (fun _ h9 => h9) rfl dX8_object_48 ?_
      refine lv_iconst (v := 1) hx hb dX8_object_51 (by decide) ?_
      refine lv_isub hx hb dX8_object_52 ?_
      refine lv_re (y := (nI ((o + 1) - 1))) (pk_sub (a := (o + 1)) (b := 1) (by omega)) ?_
      have e_ret : (nI ((o + 1) - 1)) = (nI o) := by rw [Nat.add_sub_cancel]
      have hP := hP.sub (ws' := [(h0, .inr (7, [.int (nI n), .int (nI (o + 1)), .ref h2, .ref h3, .ref h4, .int (nI co), .ref h6, .ref h7, .int (nI ba), .ref h9, .ref h10, .int (b2 false), .int (b2 false), .int (-1 : Int32), .int (nI ac), .ref h15, .ref h16, .ref h17])), (h2, .inl (cI, 20, .inl (fun i_ => nI ((va_up r o q) i_))))]) [1, 0] rfl
      have hD := hD.sub (ws' := [(h0, .inr (7, [.int (nI n), .int (nI (o + 1)), .ref h2, .ref h3, .ref h4, .int (nI co), .ref h6, .ref h7, .int (nI ba), .ref h9, .ref h10, .int (b2 false), .int (b2 false), .int (-1 : Int32), .int (nI ac), .ref h15, .ref h16, .ref h17])), (h2, .inl (cI, 20, .inl (fun i_ => nI ((va_up r o q) i_))))]) [1, 0] (by decide) rfl
      have hP : va_P D vwCl [(h0, .inr (7, [.int (nI n), .int (nI (o + 1)), .ref h2, .ref h3, .ref h4, .int (nI co), .ref h6, .ref h7, .int (nI ba), .ref h9, .ref h10, .int (b2 false), .int (b2 false), .int (-1 : Int32), .int (nI ac), .ref h15, .ref h16, .ref h17])), (h2, .inl (cI, 20, .inl (fun i_ => nI ((va_up r o q) i_))))] H := by exact hP
      have hD : va_D A [(h0, .inr (7, [.int (nI n), .int (nI (o + 1)), .ref h2, .ref h3, .ref h4, .int (nI co), .ref h6, .ref h7, .int (nI ba), .ref h9, .ref h10, .int (b2 false), .int (b2 false), .int (-1 : Int32), .int (nI ac), .ref h15, .ref h16, .ref h17])), (h2, .inl (cI, 20, .inl (fun i_ => nI ((va_up r o q) i_))))] := by exact hD
      exact W.iret (v := (nI ((o + 1) - 1))) hx hb hr (fun t ht hW => ⟨⟨congrArg (fun z_ => Outcome.returned (some (Value.int z_))) e_ret, by rw [ht]; exact hP, hD⟩, hS.F ht⟩) hS.2.2 dX8_object_53
    · have c_17 : o = 20 := (nI_eq (a := o) (b := 20) (by omega) (by omega)).mp c_17
      exact absurd c_17 (by omega)
  · have c_5 := b2_0.mp c_5
    exact Bool.noConfusion (hb_.symm.trans c_5)

set_option maxHeartbeats 4000000 in
set_option maxRecDepth 100000 in
theorem c_X8_remove_bad (l : Launch) (D : va_G) (sz : Nat) (h0 : Nat) (n : Nat) (o : Nat) (h2 : Nat) (h3 : Nat) (h4 : Nat) (co : Nat) (h6 : Nat) (h7 : Nat) (ba : Nat) (h9 : Nat) (h10 : Nat) (kn : Bool) (ak : Bool) (qu : Int32) (ac : Nat) (h15 : Nat) (h16 : Nat) (h17 : Nat) (x : Int32) (hb_ : (decide (¬ x < 0) && decide (¬ (nI o - (1 : Int32)) < x)) = false) : Met l yX8_remove wsX8_remove ({ frames := 1, cells := 0, slots := 0, locals := 22 }) (va_Pc [.ref h0, .int x] (fun U => U.heap.size = sz ∧ va_P D vwCl [(h0, .inr (7, [.int (nI n), .int (nI o), .ref h2, .ref h3, .ref h4, .int (nI co), .ref h6, .ref h7, .int (nI ba), .ref h9, .ref h10, .int (b2 kn), .int (b2 ak), .int qu, .int (nI ac), .ref h15, .ref h16, .ref h17]))] U.heap ∧ va_K D vwCl [] U ∧ va_D (fun _ => True) [(h0, .inr (7, [.int (nI n), .int (nI o), .ref h2, .ref h3, .ref h4, .int (nI co), .ref h6, .ref h7, .int (nI ba), .ref h9, .ref h10, .int (b2 kn), .int (b2 ak), .int qu, .int (nI ac), .ref h15, .ref h16, .ref h17]))])) (muQ (some (.int (-2))) D vwCl [(h0, .inr (7, [.int (nI n), .int (nI o), .ref h2, .ref h3, .ref h4, .int (nI co), .ref h6, .ref h7, .int (nI ba), .ref h9, .ref h10, .int (b2 kn), .int (b2 ak), .int qu, .int (nI ac), .ref h15, .ref h16, .ref h17]))] (va_A [(h0, .inr (7, [.int (nI n), .int (nI o), .ref h2, .ref h3, .ref h4, .int (nI co), .ref h6, .ref h7, .int (nI ba), .ref h9, .ref h10, .int (b2 kn), .int (b2 ak), .int qu, .int (nI ac), .ref h15, .ref h16, .ref h17]))] sz)) 0 0 (va_A [(h0, .inr (7, [.int (nI n), .int (nI o), .ref h2, .ref h3, .ref h4, .int (nI co), .ref h6, .ref h7, .int (nI ba), .ref h9, .ref h10, .int (b2 kn), .int (b2 ak), .int qu, .int (nI ac), .ref h15, .ref h16, .ref h17]))] sz) := by
  refine Met.ofW (cc := cX8_remove) (maxL := 4) (ret := (some .int)) (by decide) rfl ?_
  intro p e s m args below meth c s₁ B hml hv
  obtain ⟨rfl, hsz, hP, hK, hD0⟩ := hv
  have hx := B.exec
  have hb := B.bytes
  have hr := B.returns
  have hts := atoms_spec (ws := wsX8_remove) B.pre
  have hown : s.vm.findClass RX8 = some m.cls := findClass_of_methodNamed B.named
  have hlocks := B.notSynchronized
  subst hsz
  have hD := hD0.self (sz := s.heap.size)
  generalize hAe : va_A [(h0, .inr (7, [.int (nI n), .int (nI o), .ref h2, .ref h3, .ref h4, .int (nI co), .ref h6, .ref h7, .int (nI ba), .ref h9, .ref h10, .int (b2 kn), .int (b2 ak), .int qu, .int (nI ac), .ref h15, .ref h16, .ref h17]))] s.heap.size = A at hD ⊢
  have hA : ∀ q : Nat, s.heap.size ≤ q → A q := fun q h => by rw [← hAe]; exact Or.inr h
  have hS : va_S A s.heap s.heap [] := va_S.rf
  have hl := lv_entry ([.ref h0, .int x]) (n := 4) (Nat.le_of_ble_eq_true rfl)
  rw [lg_entry_eq]
  generalize (lg_sl ([.ref h0, .int x]) ++ List.replicate (4 - (lg_sl ([.ref h0, .int x])).length) Slot.unset).toArray = ls at hl ⊢
  have hl : lv_has ls 4 [(0, .ref h0), (1, .int x)] := hl
  refine lv_iload_n hx hb dX8_remove_0 rfl (lv_at hl 1 rfl) ?_
  refine lv_iconst (v := 0) hx hb dX8_remove_1 (by decide) ?_
  refine lv_aload_n hx hb dX8_remove_2 rfl (lv_at hl 0 rfl) ?_
  refine va_get (D := D) (ci := 7) (v := .int (nI o)) (C := RX8) (T := TX8) (N := 18) hx hb hts (by decide +kernel) hown hK hP 0 rfl rfl 1 (by decide) (hts (.fieldLink RX8 67 "ConceptTableModel" "objects" "I") (by decide +kernel)) (fun _ h9 => h9) rfl dX8_remove_3 ?_
  refine lv_iconst (v := 1) hx hb dX8_remove_6 (by decide) ?_
  refine lv_isub hx hb dX8_remove_7 ?_
  refine rd_S (As := [.int x, .int (0 : Int32), .int ((nI o) - (1 : Int32))]) (rest := []) ⟨hx, hb, hml, hown, hts⟩ (c_X8_in l D x (0 : Int32) ((nI o) - (1 : Int32)) ) (va_cwS 3 hts gX8_remove_X8_in rfl rfl rfl (by decide +kernel) ⟨Nat.le_of_ble_eq_true rfl, Nat.le_of_ble_eq_true rfl⟩) (hP.sub (ws' := []) [] rfl) (hK.sub (tys' := []) [] rfl) rfl rfl hl.1 rfl (lv_room (Nat.le_of_ble_eq_true rfl)) dX8_remove_8 ⟨Nat.le_of_ble_eq_true rfl, Nat.le_of_ble_eq_true rfl⟩ ?_
  refine lv_if_ne (tgt := 17) hx hb dX8_remove_11 (by decide) (fun c_11 => ?_) (fun c_11 => ?_)
  · have c_11 := b2_n0.mp c_11
    exact Bool.noConfusion (hb_.symm.trans c_11)
  · have c_11 := b2_0.mp c_11
    refine lv_bipush (v := -2) hx hb dX8_remove_14 (by decide) ?_
    have e_ret : (-2 : Int32) = (-2) := by rfl
    have hP := hP.sub (ws' := [(h0, .inr (7, [.int (nI n), .int (nI o), .ref h2, .ref h3, .ref h4, .int (nI co), .ref h6, .ref h7, .int (nI ba), .ref h9, .ref h10, .int (b2 kn), .int (b2 ak), .int qu, .int (nI ac), .ref h15, .ref h16, .ref h17]))]) [0] rfl
    have hD := hD.sub (ws' := [(h0, .inr (7, [.int (nI n), .int (nI o), .ref h2, .ref h3, .ref h4, .int (nI co), .ref h6, .ref h7, .int (nI ba), .ref h9, .ref h10, .int (b2 kn), .int (b2 ak), .int qu, .int (nI ac), .ref h15, .ref h16, .ref h17]))]) [0] (by decide) rfl
    have hP : va_P D vwCl [(h0, .inr (7, [.int (nI n), .int (nI o), .ref h2, .ref h3, .ref h4, .int (nI co), .ref h6, .ref h7, .int (nI ba), .ref h9, .ref h10, .int (b2 kn), .int (b2 ak), .int qu, .int (nI ac), .ref h15, .ref h16, .ref h17]))] s.heap := by exact hP
    have hD : va_D A [(h0, .inr (7, [.int (nI n), .int (nI o), .ref h2, .ref h3, .ref h4, .int (nI co), .ref h6, .ref h7, .int (nI ba), .ref h9, .ref h10, .int (b2 kn), .int (b2 ak), .int qu, .int (nI ac), .ref h15, .ref h16, .ref h17]))] := by exact hD
    exact W.iret (v := (-2 : Int32)) hx hb hr (fun t ht hW => ⟨⟨congrArg (fun z_ => Outcome.returned (some (Value.int z_))) e_ret, by rw [ht]; exact hP, hD⟩, hS.F ht⟩) hS.2.2 dX8_remove_16

set_option maxHeartbeats 4000000 in
set_option maxRecDepth 100000 in
theorem c_X8_remove_ok (l : Launch) (D : va_G) (sz : Nat) (h0 : Nat) (n : Nat) (o : Nat) (h2 : Nat) (h3 : Nat) (h4 : Nat) (co : Nat) (h6 : Nat) (h7 : Nat) (ba : Nat) (h9 : Nat) (h10 : Nat) (kn : Bool) (ak : Bool) (qu : Int32) (ac : Nat) (h15 : Nat) (h16 : Nat) (h17 : Nat) (cI : ClassId) (r : Nat → Nat) (j : Nat) (hj : j < o) (ho : o ≤ 20) : Met l yX8_remove wsX8_remove ({ frames := 1, cells := 0, slots := 0, locals := 22 }) (va_Pc [.ref h0, .int (nI j)] (fun U => U.heap.size = sz ∧ va_P D vwCl [(h0, .inr (7, [.int (nI n), .int (nI o), .ref h2, .ref h3, .ref h4, .int (nI co), .ref h6, .ref h7, .int (nI ba), .ref h9, .ref h10, .int (b2 kn), .int (b2 ak), .int qu, .int (nI ac), .ref h15, .ref h16, .ref h17])), (h2, .inl (cI, 20, .inl (fun i_ => nI (r i_))))] U.heap ∧ va_K D vwCl [(cI, .int)] U ∧ va_D (fun _ => True) [(h0, .inr (7, [.int (nI n), .int (nI o), .ref h2, .ref h3, .ref h4, .int (nI co), .ref h6, .ref h7, .int (nI ba), .ref h9, .ref h10, .int (b2 kn), .int (b2 ak), .int qu, .int (nI ac), .ref h15, .ref h16, .ref h17])), (h2, .inl (cI, 20, .inl (fun i_ => nI (r i_))))])) (muQ (some (.int (nI (r j)))) D vwCl [(h0, .inr (7, [.int (nI n), .int (nI (o - 1)), .ref h2, .ref h3, .ref h4, .int (nI co), .ref h6, .ref h7, .int (nI ba), .ref h9, .ref h10, .int (b2 false), .int (b2 false), .int (-1 : Int32), .int (nI ac), .ref h15, .ref h16, .ref h17])), (h2, .inl (cI, 20, .inl (fun i_ => nI ((rem_ r j (o - 1)) i_))))] (va_A [(h0, .inr (7, [.int (nI n), .int (nI o), .ref h2, .ref h3, .ref h4, .int (nI co), .ref h6, .ref h7, .int (nI ba), .ref h9, .ref h10, .int (b2 kn), .int (b2 ak), .int qu, .int (nI ac), .ref h15, .ref h16, .ref h17])), (h2, .inl (cI, 20, .inl (fun i_ => nI (r i_))))] sz)) 0 0 (va_A [(h0, .inr (7, [.int (nI n), .int (nI o), .ref h2, .ref h3, .ref h4, .int (nI co), .ref h6, .ref h7, .int (nI ba), .ref h9, .ref h10, .int (b2 kn), .int (b2 ak), .int qu, .int (nI ac), .ref h15, .ref h16, .ref h17])), (h2, .inl (cI, 20, .inl (fun i_ => nI (r i_))))] sz) := by
  refine Met.ofW (cc := cX8_remove) (maxL := 4) (ret := (some .int)) (by decide) rfl ?_
  intro p e s m args below meth c s₁ B hml hv
  obtain ⟨rfl, hsz, hP, hK, hD0⟩ := hv
  have hx := B.exec
  have hb := B.bytes
  have hr := B.returns
  have hts := atoms_spec (ws := wsX8_remove) B.pre
  have hown : s.vm.findClass RX8 = some m.cls := findClass_of_methodNamed B.named
  have hlocks := B.notSynchronized
  subst hsz
  have hD := hD0.self (sz := s.heap.size)
  generalize hAe : va_A [(h0, .inr (7, [.int (nI n), .int (nI o), .ref h2, .ref h3, .ref h4, .int (nI co), .ref h6, .ref h7, .int (nI ba), .ref h9, .ref h10, .int (b2 kn), .int (b2 ak), .int qu, .int (nI ac), .ref h15, .ref h16, .ref h17])), (h2, .inl (cI, 20, .inl (fun i_ => nI (r i_))))] s.heap.size = A at hD ⊢
  have hA : ∀ q : Nat, s.heap.size ≤ q → A q := fun q h => by rw [← hAe]; exact Or.inr h
  have hS : va_S A s.heap s.heap [] := va_S.rf
  have hl := lv_entry ([.ref h0, .int (nI j)]) (n := 4) (Nat.le_of_ble_eq_true rfl)
  rw [lg_entry_eq]
  generalize (lg_sl ([.ref h0, .int (nI j)]) ++ List.replicate (4 - (lg_sl ([.ref h0, .int (nI j)])).length) Slot.unset).toArray = ls at hl ⊢
  have hl : lv_has ls 4 [(0, .ref h0), (1, .int (nI j))] := hl
  refine lv_iload_n hx hb dX8_remove_0 rfl (lv_at hl 1 rfl) ?_
  refine lv_iconst (v := 0) hx hb dX8_remove_1 (by decide) ?_
  refine lv_aload_n hx hb dX8_remove_2 rfl (lv_at hl 0 rfl) ?_
  refine va_get (D := D) (ci := 7) (v := .int (nI o)) (C := RX8) (T := TX8) (N := 18) hx hb hts (by decide +kernel) hown hK hP 0 rfl rfl 1 (by decide) (hts (.fieldLink RX8 67 "ConceptTableModel" "objects" "I") (by decide +kernel)) (fun _ h9 => h9) rfl dX8_remove_3 ?_
  refine lv_iconst (v := 1) hx hb dX8_remove_6 (by decide) ?_
  refine lv_isub hx hb dX8_remove_7 ?_
  refine lv_re (y := (nI (o - 1))) (pk_sub (a := o) (b := 1) (by omega)) ?_
  refine rd_S (As := [.int (nI j), .int (0 : Int32), .int (nI (o - 1))]) (rest := []) ⟨hx, hb, hml, hown, hts⟩ (c_X8_in l D (nI j) (0 : Int32) (nI (o - 1)) ) (va_cwS 3 hts gX8_remove_X8_in rfl rfl rfl (by decide +kernel) ⟨Nat.le_of_ble_eq_true rfl, Nat.le_of_ble_eq_true rfl⟩) (hP.sub (ws' := []) [] rfl) (hK.sub (tys' := []) [] rfl) rfl rfl hl.1 rfl (lv_room (Nat.le_of_ble_eq_true rfl)) dX8_remove_8 ⟨Nat.le_of_ble_eq_true rfl, Nat.le_of_ble_eq_true rfl⟩ ?_
  refine lv_if_ne (tgt := 17) hx hb dX8_remove_11 (by decide) (fun c_11 => ?_) (fun c_11 => ?_)
  · have c_11 := b2_n0.mp c_11
    refine lv_aload_n hx hb dX8_remove_17 rfl (lv_at hl 0 rfl) ?_
    refine va_get (D := D) (ci := 7) (v := .ref h2) (C := RX8) (T := TX8) (N := 18) hx hb hts (by decide +kernel) hown hK hP 0 rfl rfl 2 (by decide) (hts (.fieldLink RX8 13 "ConceptTableModel" "rows" "[I") (by decide +kernel)) (fun _ h9 => h9) rfl dX8_remove_18 ?_
    refine lv_iload_n hx hb dX8_remove_21 rfl (lv_at hl 1 rfl) ?_
    refine va_iald hx hb hK hP 1 0 rfl rfl (vp_in_nI (by omega) (by omega)) dX8_remove_22 ?_
    refine lv_re (y := (nI (r j))) (by rw [nI_clamp (by omega)]) ?_
    refine lv_istore_n (lv' := [(2, .int (nI (r j))), (0, .ref h0), (1, .int (nI j))]) hx hb dX8_remove_23 rfl hl (by decide) rfl (fun ls hl => ?_)
    refine lv_aload_n hx hb dX8_remove_24 rfl (lv_at hl 1 rfl) ?_
    refine lv_dup hx hb dX8_remove_25 rfl ?_
    refine va_get (D := D) (ci := 7) (v := .int (nI o)) (C := RX8) (T := TX8) (N := 18) hx hb hts (by decide +kernel) hown hK hP 0 rfl rfl 1 (by decide) (hts (.fieldLink RX8 67 "ConceptTableModel" "objects" "I") (by decide +kernel)) (fun _ h9 => h9) rfl dX8_remove_26 ?_
    refine lv_iconst (v := 1) hx hb dX8_remove_29 (by decide) ?_
    refine lv_isub hx hb dX8_remove_30 ?_
    refine lv_re (y := (nI (o - 1))) (pk_sub (a := o) (b := 1) (by omega)) ?_
    refine va_put (D := D) (ci := 7) (v := .int (nI (o - 1))) (ty := .int) (C := RX8) (T := TX8) (N := 18) hx hb hts (by decide +kernel) tyX8 tyX8_ok nmX8 hown hK hP hD hS 0 rfl rfl 1 (by decide) (hts (.fieldLink RX8 67 "ConceptTableModel" "objects" "I") (by decide +kernel)) (fun _ h9 => h9) rfl (by decide +kernel) rfl rfl (Nat.le_of_ble_eq_true rfl) dX8_remove_31 (fun H locs hP hD hS => ?_)
    have hP : va_P D vwCl [(h0, .inr (7, [.int (nI n), .int (nI (o - 1)), .ref h2, .ref h3, .ref h4, .int (nI co), .ref h6, .ref h7, .int (nI ba), .ref h9, .ref h10, .int (b2 kn), .int (b2 ak), .int qu, .int (nI ac), .ref h15, .ref h16, .ref h17])), (h2, .inl (cI, 20, .inl (fun i_ => nI (r i_))))] H := hP
    have hD : va_D A [(h0, .inr (7, [.int (nI n), .int (nI (o - 1)), .ref h2, .ref h3, .ref h4, .int (nI co), .ref h6, .ref h7, .int (nI ba), .ref h9, .ref h10, .int (b2 kn), .int (b2 ak), .int qu, .int (nI ac), .ref h15, .ref h16, .ref h17])), (h2, .inl (cI, 20, .inl (fun i_ => nI (r i_))))] := hD
    refine lv_iload_n hx hb dX8_remove_34 rfl (lv_at hl 2 rfl) ?_
    refine lv_istore_n (lv' := [(3, .int (nI j)), (2, .int (nI (r j))), (0, .ref h0), (1, .int (nI j))]) hx hb dX8_remove_35 rfl hl (by decide) rfl (fun ls hl => ?_)
    have lp_36 : ∀ (n_ : Nat) (k : Nat), o - 1 - k < n_ → (j ≤ k) → (k ≤ o - 1) → ∀ (x3 : Int32), x3 = nI k → ∀ (H : Heap) (locs : List Loc), va_P D vwCl [(h0, .inr (7, [.int (nI n), .int (nI (o - 1)), .ref h2, .ref h3, .ref h4, .int (nI co), .ref h6, .ref h7, .int (nI ba), .ref h9, .ref h10, .int (b2 kn), .int (b2 ak), .int qu, .int (nI ac), .ref h15, .ref h16, .ref h17])), (h2, .inl (cI, 20, .inl (fun i_ => nI ((rem_ r j k) i_))))] H → va_D A [(h0, .inr (7, [.int (nI n), .int (nI (o - 1)), .ref h2, .ref h3, .ref h4, .int (nI co), .ref h6, .ref h7, .int (nI ba), .ref h9, .ref h10, .int (b2 kn), .int (b2 ak), .int qu, .int (nI ac), .ref h15, .ref h16, .ref h17])), (h2, .inl (cI, 20, .inl (fun i_ => nI ((rem_ r j k) i_))))] → va_S A s.heap H locs → ∀ (ls : Array Slot), lv_has ls 4 [(3, .int x3), (2, .int (nI (r j))), (0, .ref h0), (1, .int (nI j))] → W p l e (headSpec wsX8_remove ({ frames := 1, cells := 0, slots := 0, locals := 22 })).room s m ([.ref h0, .int (nI j)] : List Value).toArray below meth c H locs 0 0 (MQ below (muQ (some (.int (nI (r j)))) D vwCl [(h0, .inr (7, [.int (nI n), .int (nI (o - 1)), .ref h2, .ref h3, .ref h4, .int (nI co), .ref h6, .ref h7, .int (nI ba), .ref h9, .ref h10, .int (b2 false), .int (b2 false), .int (-1 : Int32), .int (nI ac), .ref h15, .ref h16, .ref h17])), (h2, .inl (cI, 20, .inl (fun i_ => nI ((rem_ r j (o - 1)) i_))))] A) ([.ref h0, .int (nI j)] : List Value).toArray s 0 0 A) (F0 m 36 ls []) := by
      intro n_
      induction n_ with
      | zero => intro k h0_; exact absurd h0_ (Nat.not_lt_zero _)
      | succ n_ ih_36 =>
        intro k hm_36 hk1 hk2 x3 e_x3 H locs hP hD hS ls hl
        subst e_x3
        refine lv_iload_n hx hb dX8_remove_36 rfl (lv_at hl 0 rfl) ?_
        refine lv_aload_n hx hb dX8_remove_37 rfl (lv_at hl 2 rfl) ?_
        refine va_get (D := D) (ci := 7) (v := .int (nI (o - 1))) (C := RX8) (T := TX8) (N := 18) hx hb hts (by decide +kernel) hown hK hP 0 rfl rfl 1 (by decide) (hts (.fieldLink RX8 67 "ConceptTableModel" "objects" "I") (by decide +kernel)) (fun _ h9 => h9) rfl dX8_remove_38 ?_
        refine lv_icmp_ge (tgt := 64) hx hb dX8_remove_41 (by decide) (fun c_41 => ?_) (fun c_41 => ?_)
        · have c_41 : (o - 1) ≤ k := (nI_leI (a := (o - 1)) (b := k) (by omega) (by omega)).mp c_41
          have hko : k = o - 1 := by omega
          refine lv_aload_n hx hb dX8_remove_64 rfl (lv_at hl 2 rfl) ?_
          have hPc := hP.sub (ws' := [(h0, .inr (7, [.int (nI n), .int (nI (o - 1)), .ref h2, .ref h3, .ref h4, .int (nI co), .ref h6, .ref h7, .int (nI ba), .ref h9, .ref h10, .int (b2 kn), .int (b2 ak), .int qu, .int (nI ac), .ref h15, .ref h16, .ref h17]))]) [0] rfl
          have hDc := hD.sub (ws' := [(h0, .inr (7, [.int (nI n), .int (nI (o - 1)), .ref h2, .ref h3, .ref h4, .int (nI co), .ref h6, .ref h7, .int (nI ba), .ref h9, .ref h10, .int (b2 kn), .int (b2 ak), .int qu, .int (nI ac), .ref h15, .ref h16, .ref h17]))]) [0] (by decide) rfl
          have hKc := hK.sub (tys' := []) [] rfl
          have hFc := va_free (wc := [(h0, .inr (7, [.int (nI n), .int (nI (o - 1)), .ref h2, .ref h3, .ref h4, .int (nI co), .ref h6, .ref h7, .int (nI ba), .ref h9, .ref h10, .int (b2 kn), .int (b2 ak), .int qu, .int (nI ac), .ref h15, .ref h16, .ref h17]))]) hD hS hA [0] rfl
          refine mu_call (va_runV (As := []) (rest := []) ⟨hx, hb, hml, hown, hts⟩ (c_X8_forget l D H.size h0 n (o - 1) h2 h3 h4 co h6 h7 ba h9 h10 kn ak qu ac h15 h16 h17 ) (cwV 0 hts gX8_remove_X8_forget rfl rfl rfl (by decide +kernel) ⟨Nat.le_of_ble_eq_true rfl, Nat.le_of_ble_eq_true rfl⟩) ⟨mu_bl, va_recv hKc hPc (ci := 7) (q0 := 0) rfl rfl, fun U hU hW => ⟨rfl, by rw [hU], by rw [hU]; exact hPc, va_K.moved hW.alike hKc, hDc.weaken (fun _ _ _ _ => trivial)⟩⟩ rfl rfl hl.1 rfl (lv_room (Nat.le_of_ble_eq_true rfl)) dX8_remove_65 ⟨Nat.le_of_ble_eq_true rfl, Nat.le_of_ble_eq_true rfl⟩) hS (fun q _ h => hFc q h) hFc (fun H1 locs hP1 hD1 hk1 hS => ?_)
          obtain ⟨hP, hD⟩ := va_join (wr := [(h2, .inl (cI, 20, .inl (fun i_ => nI ((rem_ r j k) i_))))]) (w1 := [(h0, .inr (7, [.int (nI n), .int (nI (o - 1)), .ref h2, .ref h3, .ref h4, .int (nI co), .ref h6, .ref h7, .int (nI ba), .ref h9, .ref h10, .int (b2 false), .int (b2 false), .int (-1 : Int32), .int (nI ac), .ref h15, .ref h16, .ref h17]))]) hP hD [0] [1] rfl rfl (by decide) (by decide) hk1 hFc hP1 hD1
          generalize H1 = H at hP hS ⊢
          have hP : va_P D vwCl [(h2, .inl (cI, 20, .inl (fun i_ => nI ((rem_ r j k) i_)))), (h0, .inr (7, [.int (nI n), .int (nI (o - 1)), .ref h2, .ref h3, .ref h4, .int (nI co), .ref h6, .ref h7, .int (nI ba), .ref h9, .ref h10, .int (b2 false), .int (b2 false), .int (-1 : Int32), .int (nI ac), .ref h15, .ref h16, .ref h17]))] H := hP
          have hD : va_D A [(h2, .inl (cI, 20, .inl (fun i_ => nI ((rem_ r j k) i_)))), (h0, .inr (7, [.int (nI n), .int (nI (o - 1)), .ref h2, .ref h3, .ref h4, .int (nI co), .ref h6, .ref h7, .int (nI ba), .ref h9, .ref h10, .int (b2 false), .int (b2 false), .int (-1 : Int32), .int (nI ac), .ref h15, .ref h16, .ref h17]))] := hD
          refine lv_iload_n hx hb dX8_remove_68 rfl (lv_at hl 1 rfl) ?_
          have e_ret : (nI (r j)) = (nI (r j)) := by rfl
          have hP := hP.sub (ws' := [(h0, .inr (7, [.int (nI n), .int (nI (o - 1)), .ref h2, .ref h3, .ref h4, .int (nI co), .ref h6, .ref h7, .int (nI ba), .ref h9, .ref h10, .int (b2 false), .int (b2 false), .int (-1 : Int32), .int (nI ac), .ref h15, .ref h16, .ref h17])), (h2, .inl (cI, 20, .inl (fun i_ => nI ((rem_ r j k) i_))))]) [1, 0] rfl
          have hD := hD.sub (ws' := [(h0, .inr (7, [.int (nI n), .int (nI (o - 1)), .ref h2, .ref h3, .ref h4, .int (nI co), .ref h6, .ref h7, .int (nI ba), .ref h9, .ref h10, .int (b2 false), .int (b2 false), .int (-1 : Int32), .int (nI ac), .ref h15, .ref h16, .ref h17])), (h2, .inl (cI, 20, .inl (fun i_ => nI ((rem_ r j k) i_))))]) [1, 0] (by decide) rfl
          have e_w1 : (rem_ r j k) = (rem_ r j (o - 1)) := by rw [hko]
          have hP : va_P D vwCl [(h0, .inr (7, [.int (nI n), .int (nI (o - 1)), .ref h2, .ref h3, .ref h4, .int (nI co), .ref h6, .ref h7, .int (nI ba), .ref h9, .ref h10, .int (b2 false), .int (b2 false), .int (-1 : Int32), .int (nI ac), .ref h15, .ref h16, .ref h17])), (h2, .inl (cI, 20, .inl (fun i_ => nI ((rem_ r j (o - 1)) i_))))] H := by rw [← e_w1]; exact hP
          have hD : va_D A [(h0, .inr (7, [.int (nI n), .int (nI (o - 1)), .ref h2, .ref h3, .ref h4, .int (nI co), .ref h6, .ref h7, .int (nI ba), .ref h9, .ref h10, .int (b2 false), .int (b2 false), .int (-1 : Int32), .int (nI ac), .ref h15, .ref h16, .ref h17])), (h2, .inl (cI, 20, .inl (fun i_ => nI ((rem_ r j (o - 1)) i_))))] := by rw [← e_w1]; exact hD
          exact W.iret (v := (nI (r j))) hx hb hr (fun t ht hW => ⟨⟨congrArg (fun z_ => Outcome.returned (some (Value.int z_))) e_ret, by rw [ht]; exact hP, hD⟩, hS.F ht⟩) hS.2.2 dX8_remove_69
        · have c_41 : k < (o - 1) := Nat.lt_of_not_le (fun h_ => c_41 ((nI_leI (a := (o - 1)) (b := k) (by omega) (by omega)).mpr h_))
          refine lv_aload_n hx hb dX8_remove_44 rfl (lv_at hl 2 rfl) ?_
          refine va_get (D := D) (ci := 7) (v := .ref h2) (C := RX8) (T := TX8) (N := 18) hx hb hts (by decide +kernel) hown hK hP 0 rfl rfl 2 (by decide) (hts (.fieldLink RX8 13 "ConceptTableModel" "rows" "[I") (by decide +kernel)) (fun _ h9 => h9) rfl dX8_remove_45 ?_
          refine lv_iload_n hx hb dX8_remove_48 rfl (lv_at hl 0 rfl) ?_
          refine lv_aload_n hx hb dX8_remove_49 rfl (lv_at hl 2 rfl) ?_
          refine va_get (D := D) (ci := 7) (v := .ref h2) (C := RX8) (T := TX8) (N := 18) hx hb hts (by decide +kernel) hown hK hP 0 rfl rfl 2 (by decide) (hts (.fieldLink RX8 13 "ConceptTableModel" "rows" "[I") (by decide +kernel)) (fun _ h9 => h9) rfl dX8_remove_50 ?_
          refine lv_iload_n hx hb dX8_remove_53 rfl (lv_at hl 0 rfl) ?_
          refine lv_iconst (v := 1) hx hb dX8_remove_54 (by decide) ?_
          refine lv_iadd hx hb dX8_remove_55 ?_
          refine lv_re (y := (nI (k + 1))) (nI_add k 1) ?_
          refine va_iald hx hb hK hP 1 0 rfl rfl (vp_in_nI (by omega) (by omega)) dX8_remove_56 ?_
          refine lv_re (y := (nI ((rem_ r j k) (k + 1)))) (by rw [nI_clamp (by omega)]) ?_
          refine va_iast hx hb hK hP hD hS 1 0 rfl rfl (vp_in_nI (by omega) (by omega)) dX8_remove_57 (fun H locs hP hD hS => ?_)
          have e_up : (upd (fun i_ => nI ((rem_ r j k) i_)) (nI k).toNatClampNeg (nI ((rem_ r j k) (k + 1)))) = (fun i_ => nI ((va_up (rem_ r j k) k ((rem_ r j k) (k + 1))) i_)) := by rw [show (nI k).toNatClampNeg = k from nI_clamp (by omega)]; exact up_nI (rem_ r j k) k ((rem_ r j k) (k + 1))
          have hP : va_P D vwCl [(h0, .inr (7, [.int (nI n), .int (nI (o - 1)), .ref h2, .ref h3, .ref h4, .int (nI co), .ref h6, .ref h7, .int (nI ba), .ref h9, .ref h10, .int (b2 kn), .int (b2 ak), .int qu, .int (nI ac), .ref h15, .ref h16, .ref h17])), (h2, .inl (cI, 20, .inl (fun i_ => nI ((va_up (rem_ r j k) k ((rem_ r j k) (k + 1))) i_))))] H := by rw [← e_up]; exact hP
          have hD : va_D A [(h0, .inr (7, [.int (nI n), .int (nI (o - 1)), .ref h2, .ref h3, .ref h4, .int (nI co), .ref h6, .ref h7, .int (nI ba), .ref h9, .ref h10, .int (b2 kn), .int (b2 ak), .int qu, .int (nI ac), .ref h15, .ref h16, .ref h17])), (h2, .inl (cI, 20, .inl (fun i_ => nI ((va_up (rem_ r j k) k ((rem_ r j k) (k + 1))) i_))))] := by rw [← e_up]; exact hD
          clear e_up
          refine lv_iinc (v := (nI (k + 1))) (lv' := [(3, .int (nI (k + 1))), (2, .int (nI (r j))), (0, .ref h0), (1, .int (nI j))]) hx hb dX8_remove_58 hl (k := 0) rfl (nI_add _ 1) (by decide) rfl (fun ls hl => ?_)
          refine lv_goto (tgt := 36) hx hb dX8_remove_61 (by decide) ?_
          rw [rem_s r hk1] at hP hD
          exact ih_36 (k + 1) (by omega) (by omega) (by omega) _ rfl _ _ (hP.sub [0, 1] rfl) (hD.sub [0, 1] (by decide) rfl) hS _ (lv_sub hl [0, 1, 2, 3] rfl)
    rw [rem_0 r j] at hP hD
    exact lp_36 _ j (Nat.lt_succ_self _) (Nat.le_refl _) (by omega) _ rfl _ _ hP hD hS _ (lv_sub hl [0, 1, 2, 3] rfl)
  · have c_11 := b2_0.mp c_11
    exact Bool.noConfusion ((in_t (lo := 0) (hi := o - 1) (Nat.zero_le _) (by omega) (by omega)).symm.trans c_11)

set_option maxHeartbeats 4000000 in
set_option maxRecDepth 100000 in
theorem c_X8_common_bad (l : Launch) (D : va_G) (h0 : Nat) (fs : List Value) (h2 : Nat) (cI : ClassId) (n : Nat) (o : Nat) (r : Nat → Nat) (x : Int32) (f0 : fs[0]? = some (.int (nI n))) (f1 : fs[1]? = some (.int (nI o))) (f2 : fs[2]? = some (.ref h2)) (ho : o ≤ 20) (hb_ : sb x (nI (2 ^ o - 1)) = false) : Met l yX8_common wsX8_common ({ frames := 1, cells := 0, slots := 0, locals := 21 }) (va_Pc [.ref h0, .int x] (fun U => va_P D vwCl [(h0, .inr (7, fs)), (h2, .inl (cI, 20, .inl (fun i_ => nI (r i_))))] U.heap ∧ va_K D vwCl [(cI, .int)] U)) (QcRead (-2)) 0 0 (fun _ => False) := by
  refine Met.ofW (cc := cX8_common) (maxL := 2) (ret := (some .int)) (by decide) rfl ?_
  intro p e s m args below meth c s₁ B hml hv
  obtain ⟨rfl, hP, hK⟩ := hv
  have hx := B.exec
  have hb := B.bytes
  have hr := B.returns
  have hts := atoms_spec (ws := wsX8_common) B.pre
  have hown : s.vm.findClass RX8 = some m.cls := findClass_of_methodNamed B.named
  have hlocks := B.notSynchronized
  have hl := lv_entry ([.ref h0, .int x]) (n := 2) (Nat.le_of_ble_eq_true rfl)
  rw [lg_entry_eq]
  generalize (lg_sl ([.ref h0, .int x]) ++ List.replicate (2 - (lg_sl ([.ref h0, .int x])).length) Slot.unset).toArray = ls at hl ⊢
  have hl : lv_has ls 2 [(0, .ref h0), (1, .int x)] := hl
  refine lv_iload_n hx hb dX8_common_0 rfl (lv_at hl 1 rfl) ?_
  refine lv_iconst (v := 1) hx hb dX8_common_1 (by decide) ?_
  refine lv_aload_n hx hb dX8_common_2 rfl (lv_at hl 0 rfl) ?_
  refine va_get (D := D) (ci := 7) (v := .int (nI o)) (C := RX8) (T := TX8) (N := 18) hx hb hts (by decide +kernel) hown hK hP 0 rfl rfl 1 (by decide) (hts (.fieldLink RX8 67 "ConceptTableModel" "objects" "I") (by decide +kernel)) (fun _ h9 => h9) f1 dX8_common_3 ?_
  refine lv_ishl hx hb dX8_common_6 ?_
  refine lv_re (y := (nI (2 ^ o))) (nx_sh1 (k := o) (by omega)) ?_
  refine lv_iconst (v := 1) hx hb dX8_common_7 (by decide) ?_
  refine lv_isub hx hb dX8_common_8 ?_
  refine lv_re (y := (nI ((2 ^ o) - 1))) (pk_sub (a := (2 ^ o)) (b := 1) (p2_pos o)) ?_
  refine rd_S (As := [.int x, .int (nI ((2 ^ o) - 1))]) (rest := []) ⟨hx, hb, hml, hown, hts⟩ (c_X8_isPart l D x (nI ((2 ^ o) - 1)) ) (va_cwS 2 hts gX8_common_X8_isPart rfl rfl rfl (by decide +kernel) ⟨Nat.le_of_ble_eq_true rfl, Nat.le_of_ble_eq_true rfl⟩) (hP.sub (ws' := []) [] rfl) (hK.sub (tys' := []) [] rfl) rfl rfl hl.1 rfl (lv_room (Nat.le_of_ble_eq_true rfl)) dX8_common_9 ⟨Nat.le_of_ble_eq_true rfl, Nat.le_of_ble_eq_true rfl⟩ ?_
  refine lv_if_eq (tgt := 23) hx hb dX8_common_12 (by decide) (fun c_12 => ?_) (fun c_12 => ?_)
  · have c_12 := b2_0.mp c_12
    refine lv_bipush (v := -2) hx hb dX8_common_23 (by decide) ?_
    have e_ret : (-2 : Int32) = (-2) := by rfl
    exact W.iret (v := (-2 : Int32)) hx hb hr (fun t ht hW => ⟨congrArg (fun z_ => Outcome.returned (some (Value.int z_))) e_ret, ht⟩) (fun q h => by cases h) dX8_common_25
  · have c_12 := b2_n0.mp c_12
    exact Bool.noConfusion (hb_.symm.trans c_12)

set_option maxHeartbeats 4000000 in
set_option maxRecDepth 100000 in
theorem c_X8_common_ok (l : Launch) (D : va_G) (h0 : Nat) (fs : List Value) (h2 : Nat) (cI : ClassId) (n : Nat) (o : Nat) (r : Nat → Nat) (q : Nat) (f0 : fs[0]? = some (.int (nI n))) (f1 : fs[1]? = some (.int (nI o))) (f2 : fs[2]? = some (.ref h2)) (hn : n ≤ 12) (ho : o ≤ 20) (hq : q < 2 ^ 31) (hb_ : sN q (2 ^ o - 1) = true) : Met l yX8_common wsX8_common ({ frames := 2, cells := 0, slots := 0, locals := 43 }) (va_Pc [.ref h0, .int (nI q)] (fun U => va_P D vwCl [(h0, .inr (7, fs)), (h2, .inl (cI, 20, .inl (fun i_ => nI (r i_))))] U.heap ∧ va_K D vwCl [(cI, .int)] U)) (QcRead (nI (com r n q o))) 0 0 (fun _ => False) := by
  refine Met.ofW (cc := cX8_common) (maxL := 2) (ret := (some .int)) (by decide) rfl ?_
  intro p e s m args below meth c s₁ B hml hv
  obtain ⟨rfl, hP, hK⟩ := hv
  have hx := B.exec
  have hb := B.bytes
  have hr := B.returns
  have hts := atoms_spec (ws := wsX8_common) B.pre
  have hown : s.vm.findClass RX8 = some m.cls := findClass_of_methodNamed B.named
  have hlocks := B.notSynchronized
  have hl := lv_entry ([.ref h0, .int (nI q)]) (n := 2) (Nat.le_of_ble_eq_true rfl)
  rw [lg_entry_eq]
  generalize (lg_sl ([.ref h0, .int (nI q)]) ++ List.replicate (2 - (lg_sl ([.ref h0, .int (nI q)])).length) Slot.unset).toArray = ls at hl ⊢
  have hl : lv_has ls 2 [(0, .ref h0), (1, .int (nI q))] := hl
  refine lv_iload_n hx hb dX8_common_0 rfl (lv_at hl 1 rfl) ?_
  refine lv_iconst (v := 1) hx hb dX8_common_1 (by decide) ?_
  refine lv_aload_n hx hb dX8_common_2 rfl (lv_at hl 0 rfl) ?_
  refine va_get (D := D) (ci := 7) (v := .int (nI o)) (C := RX8) (T := TX8) (N := 18) hx hb hts (by decide +kernel) hown hK hP 0 rfl rfl 1 (by decide) (hts (.fieldLink RX8 67 "ConceptTableModel" "objects" "I") (by decide +kernel)) (fun _ h9 => h9) f1 dX8_common_3 ?_
  refine lv_ishl hx hb dX8_common_6 ?_
  refine lv_re (y := (nI (2 ^ o))) (nx_sh1 (k := o) (by omega)) ?_
  refine lv_iconst (v := 1) hx hb dX8_common_7 (by decide) ?_
  refine lv_isub hx hb dX8_common_8 ?_
  refine lv_re (y := (nI ((2 ^ o) - 1))) (pk_sub (a := (2 ^ o)) (b := 1) (p2_pos o)) ?_
  refine rd_S (As := [.int (nI q), .int (nI ((2 ^ o) - 1))]) (rest := []) ⟨hx, hb, hml, hown, hts⟩ (c_X8_isPart_N l D q ((2 ^ o) - 1) (by assumption)) (va_cwS 2 hts gX8_common_X8_isPart rfl rfl rfl (by decide +kernel) ⟨Nat.le_of_ble_eq_true rfl, Nat.le_of_ble_eq_true rfl⟩) (hP.sub (ws' := []) [] rfl) (hK.sub (tys' := []) [] rfl) rfl rfl hl.1 rfl (lv_room (Nat.le_of_ble_eq_true rfl)) dX8_common_9 ⟨Nat.le_of_ble_eq_true rfl, Nat.le_of_ble_eq_true rfl⟩ ?_
  refine lv_if_eq (tgt := 23) hx hb dX8_common_12 (by decide) (fun c_12 => ?_) (fun c_12 => ?_)
  · have c_12 := b2_0.mp c_12
    exact Bool.noConfusion (hb_.symm.trans c_12)
  · have c_12 := b2_n0.mp c_12
    refine lv_aload_n hx hb dX8_common_15 rfl (lv_at hl 0 rfl) ?_
    refine lv_iload_n hx hb dX8_common_16 rfl (lv_at hl 1 rfl) ?_
    refine rd_V (As := [.int (nI q)]) (rest := []) ⟨hx, hb, hml, hown, hts⟩ (c_X8_commonOf l D h0 fs h2 cI n o r q f0 f1 f2 (by assumption) (by assumption) (by assumption)) (cwV 1 hts gX8_common_X8_commonOf rfl rfl rfl (by decide +kernel) ⟨Nat.le_of_ble_eq_true rfl, Nat.le_of_ble_eq_true rfl⟩) (hP.sub (ws' := [(h0, .inr (7, fs)), (h2, .inl (cI, 20, .inl (fun i_ => nI (r i_))))]) [0, 1] rfl) (hK.sub (tys' := [(cI, .int)]) [0] rfl) (va_recv hK hP (ci := 7) (q0 := 0) rfl rfl) rfl rfl hl.1 rfl (lv_room (Nat.le_of_ble_eq_true rfl)) dX8_common_17 ⟨Nat.le_of_ble_eq_true rfl, Nat.le_of_ble_eq_true rfl⟩ ?_
    refine lv_goto (tgt := 25) hx hb dX8_common_20 (by decide) ?_
    have e_ret : (nI (com r n q o)) = (nI (com r n q o)) := by rfl
    exact W.iret (v := (nI (com r n q o))) hx hb hr (fun t ht hW => ⟨congrArg (fun z_ => Outcome.returned (some (Value.int z_))) e_ret, ht⟩) (fun q h => by cases h) dX8_common_25

set_option maxHeartbeats 4000000 in
set_option maxRecDepth 100000 in
theorem c_X8_extent_bad (l : Launch) (D : va_G) (h0 : Nat) (fs : List Value) (h2 : Nat) (cI : ClassId) (n : Nat) (o : Nat) (r : Nat → Nat) (x : Int32) (f0 : fs[0]? = some (.int (nI n))) (f1 : fs[1]? = some (.int (nI o))) (f2 : fs[2]? = some (.ref h2)) (hn : n ≤ 12) (hb_ : sb x (nI (2 ^ n - 1)) = false) : Met l yX8_extent wsX8_extent ({ frames := 2, cells := 0, slots := 0, locals := 42 }) (va_Pc [.ref h0, .int x] (fun U => va_P D vwCl [(h0, .inr (7, fs)), (h2, .inl (cI, 20, .inl (fun i_ => nI (r i_))))] U.heap ∧ va_K D vwCl [(cI, .int)] U)) (QcRead (-2)) 0 0 (fun _ => False) := by
  refine Met.ofW (cc := cX8_extent) (maxL := 2) (ret := (some .int)) (by decide) rfl ?_
  intro p e s m args below meth c s₁ B hml hv
  obtain ⟨rfl, hP, hK⟩ := hv
  have hx := B.exec
  have hb := B.bytes
  have hr := B.returns
  have hts := atoms_spec (ws := wsX8_extent) B.pre
  have hown : s.vm.findClass RX8 = some m.cls := findClass_of_methodNamed B.named
  have hlocks := B.notSynchronized
  have hl := lv_entry ([.ref h0, .int x]) (n := 2) (Nat.le_of_ble_eq_true rfl)
  rw [lg_entry_eq]
  generalize (lg_sl ([.ref h0, .int x]) ++ List.replicate (2 - (lg_sl ([.ref h0, .int x])).length) Slot.unset).toArray = ls at hl ⊢
  have hl : lv_has ls 2 [(0, .ref h0), (1, .int x)] := hl
  refine lv_aload_n hx hb dX8_extent_0 rfl (lv_at hl 0 rfl) ?_
  refine lv_iload_n hx hb dX8_extent_1 rfl (lv_at hl 1 rfl) ?_
  refine rd_V (As := [.int x]) (rest := []) ⟨hx, hb, hml, hown, hts⟩ (c_X8_isSet l D h0 fs n x f0 (by assumption)) (cwV 1 hts gX8_extent_X8_isSet rfl rfl rfl (by decide +kernel) ⟨Nat.le_of_ble_eq_true rfl, Nat.le_of_ble_eq_true rfl⟩) (hP.sub (ws' := [(h0, .inr (7, fs))]) [0] rfl) (hK.sub (tys' := []) [] rfl) (va_recv hK hP (ci := 7) (q0 := 0) rfl rfl) rfl rfl hl.1 rfl (lv_room (Nat.le_of_ble_eq_true rfl)) dX8_extent_2 ⟨Nat.le_of_ble_eq_true rfl, Nat.le_of_ble_eq_true rfl⟩ ?_
  refine lv_if_eq (tgt := 16) hx hb dX8_extent_5 (by decide) (fun c_5 => ?_) (fun c_5 => ?_)
  · have c_5 := b2_0.mp c_5
    refine lv_bipush (v := -2) hx hb dX8_extent_16 (by decide) ?_
    have e_ret : (-2 : Int32) = (-2) := by rfl
    exact W.iret (v := (-2 : Int32)) hx hb hr (fun t ht hW => ⟨congrArg (fun z_ => Outcome.returned (some (Value.int z_))) e_ret, ht⟩) (fun q h => by cases h) dX8_extent_18
  · have c_5 := b2_n0.mp c_5
    exact Bool.noConfusion (hb_.symm.trans c_5)

set_option maxHeartbeats 4000000 in
set_option maxRecDepth 100000 in
theorem c_X8_extent_ok (l : Launch) (D : va_G) (h0 : Nat) (fs : List Value) (h2 : Nat) (cI : ClassId) (n : Nat) (o : Nat) (r : Nat → Nat) (q : Nat) (f0 : fs[0]? = some (.int (nI n))) (f1 : fs[1]? = some (.int (nI o))) (f2 : fs[2]? = some (.ref h2)) (hn : n ≤ 12) (ho : o ≤ 20) (hq : q < 2 ^ 31) (hb_ : sb (nI q) (nI (2 ^ n - 1)) = true) : Met l yX8_extent wsX8_extent ({ frames := 2, cells := 0, slots := 0, locals := 44 }) (va_Pc [.ref h0, .int (nI q)] (fun U => va_P D vwCl [(h0, .inr (7, fs)), (h2, .inl (cI, 20, .inl (fun i_ => nI (r i_))))] U.heap ∧ va_K D vwCl [(cI, .int)] U)) (QcRead (nI (ext r q o))) 0 0 (fun _ => False) := by
  refine Met.ofW (cc := cX8_extent) (maxL := 2) (ret := (some .int)) (by decide) rfl ?_
  intro p e s m args below meth c s₁ B hml hv
  obtain ⟨rfl, hP, hK⟩ := hv
  have hx := B.exec
  have hb := B.bytes
  have hr := B.returns
  have hts := atoms_spec (ws := wsX8_extent) B.pre
  have hown : s.vm.findClass RX8 = some m.cls := findClass_of_methodNamed B.named
  have hlocks := B.notSynchronized
  have hl := lv_entry ([.ref h0, .int (nI q)]) (n := 2) (Nat.le_of_ble_eq_true rfl)
  rw [lg_entry_eq]
  generalize (lg_sl ([.ref h0, .int (nI q)]) ++ List.replicate (2 - (lg_sl ([.ref h0, .int (nI q)])).length) Slot.unset).toArray = ls at hl ⊢
  have hl : lv_has ls 2 [(0, .ref h0), (1, .int (nI q))] := hl
  refine lv_aload_n hx hb dX8_extent_0 rfl (lv_at hl 0 rfl) ?_
  refine lv_iload_n hx hb dX8_extent_1 rfl (lv_at hl 1 rfl) ?_
  refine rd_V (As := [.int (nI q)]) (rest := []) ⟨hx, hb, hml, hown, hts⟩ (c_X8_isSet l D h0 fs n (nI q) f0 (by assumption)) (cwV 1 hts gX8_extent_X8_isSet rfl rfl rfl (by decide +kernel) ⟨Nat.le_of_ble_eq_true rfl, Nat.le_of_ble_eq_true rfl⟩) (hP.sub (ws' := [(h0, .inr (7, fs))]) [0] rfl) (hK.sub (tys' := []) [] rfl) (va_recv hK hP (ci := 7) (q0 := 0) rfl rfl) rfl rfl hl.1 rfl (lv_room (Nat.le_of_ble_eq_true rfl)) dX8_extent_2 ⟨Nat.le_of_ble_eq_true rfl, Nat.le_of_ble_eq_true rfl⟩ ?_
  refine lv_if_eq (tgt := 16) hx hb dX8_extent_5 (by decide) (fun c_5 => ?_) (fun c_5 => ?_)
  · have c_5 := b2_0.mp c_5
    exact Bool.noConfusion (hb_.symm.trans c_5)
  · have c_5 := b2_n0.mp c_5
    refine lv_aload_n hx hb dX8_extent_8 rfl (lv_at hl 0 rfl) ?_
    refine lv_iload_n hx hb dX8_extent_9 rfl (lv_at hl 1 rfl) ?_
    refine rd_V (As := [.int (nI q)]) (rest := []) ⟨hx, hb, hml, hown, hts⟩ (c_X8_extentOf l D h0 fs h2 cI o r q f1 f2 (by assumption) (by assumption)) (cwV 1 hts gX8_extent_X8_extentOf rfl rfl rfl (by decide +kernel) ⟨Nat.le_of_ble_eq_true rfl, Nat.le_of_ble_eq_true rfl⟩) (hP.sub (ws' := [(h0, .inr (7, fs)), (h2, .inl (cI, 20, .inl (fun i_ => nI (r i_))))]) [0, 1] rfl) (hK.sub (tys' := [(cI, .int)]) [0] rfl) (va_recv hK hP (ci := 7) (q0 := 0) rfl rfl) rfl rfl hl.1 rfl (lv_room (Nat.le_of_ble_eq_true rfl)) dX8_extent_10 ⟨Nat.le_of_ble_eq_true rfl, Nat.le_of_ble_eq_true rfl⟩ ?_
    refine lv_goto (tgt := 18) hx hb dX8_extent_13 (by decide) ?_
    have e_ret : (nI (ext r q o)) = (nI (ext r q o)) := by rfl
    exact W.iret (v := (nI (ext r q o))) hx hb hr (fun t ht hW => ⟨congrArg (fun z_ => Outcome.returned (some (Value.int z_))) e_ret, ht⟩) (fun q h => by cases h) dX8_extent_18

set_option maxHeartbeats 4000000 in
set_option maxRecDepth 100000 in
theorem c_X8_closure_bad (l : Launch) (D : va_G) (h0 : Nat) (fs : List Value) (h2 : Nat) (cI : ClassId) (n : Nat) (o : Nat) (r : Nat → Nat) (x : Int32) (f0 : fs[0]? = some (.int (nI n))) (f1 : fs[1]? = some (.int (nI o))) (f2 : fs[2]? = some (.ref h2)) (hn : n ≤ 12) (hb_ : sb x (nI (2 ^ n - 1)) = false) : Met l yX8_closure wsX8_closure ({ frames := 2, cells := 0, slots := 0, locals := 42 }) (va_Pc [.ref h0, .int x] (fun U => va_P D vwCl [(h0, .inr (7, fs)), (h2, .inl (cI, 20, .inl (fun i_ => nI (r i_))))] U.heap ∧ va_K D vwCl [(cI, .int)] U)) (QcRead (-2)) 0 0 (fun _ => False) := by
  refine Met.ofW (cc := cX8_closure) (maxL := 2) (ret := (some .int)) (by decide) rfl ?_
  intro p e s m args below meth c s₁ B hml hv
  obtain ⟨rfl, hP, hK⟩ := hv
  have hx := B.exec
  have hb := B.bytes
  have hr := B.returns
  have hts := atoms_spec (ws := wsX8_closure) B.pre
  have hown : s.vm.findClass RX8 = some m.cls := findClass_of_methodNamed B.named
  have hlocks := B.notSynchronized
  have hl := lv_entry ([.ref h0, .int x]) (n := 2) (Nat.le_of_ble_eq_true rfl)
  rw [lg_entry_eq]
  generalize (lg_sl ([.ref h0, .int x]) ++ List.replicate (2 - (lg_sl ([.ref h0, .int x])).length) Slot.unset).toArray = ls at hl ⊢
  have hl : lv_has ls 2 [(0, .ref h0), (1, .int x)] := hl
  refine lv_aload_n hx hb dX8_closure_0 rfl (lv_at hl 0 rfl) ?_
  refine lv_iload_n hx hb dX8_closure_1 rfl (lv_at hl 1 rfl) ?_
  refine rd_V (As := [.int x]) (rest := []) ⟨hx, hb, hml, hown, hts⟩ (c_X8_isSet l D h0 fs n x f0 (by assumption)) (cwV 1 hts gX8_closure_X8_isSet rfl rfl rfl (by decide +kernel) ⟨Nat.le_of_ble_eq_true rfl, Nat.le_of_ble_eq_true rfl⟩) (hP.sub (ws' := [(h0, .inr (7, fs))]) [0] rfl) (hK.sub (tys' := []) [] rfl) (va_recv hK hP (ci := 7) (q0 := 0) rfl rfl) rfl rfl hl.1 rfl (lv_room (Nat.le_of_ble_eq_true rfl)) dX8_closure_2 ⟨Nat.le_of_ble_eq_true rfl, Nat.le_of_ble_eq_true rfl⟩ ?_
  refine lv_if_eq (tgt := 16) hx hb dX8_closure_5 (by decide) (fun c_5 => ?_) (fun c_5 => ?_)
  · have c_5 := b2_0.mp c_5
    refine lv_bipush (v := -2) hx hb dX8_closure_16 (by decide) ?_
    have e_ret : (-2 : Int32) = (-2) := by rfl
    exact W.iret (v := (-2 : Int32)) hx hb hr (fun t ht hW => ⟨congrArg (fun z_ => Outcome.returned (some (Value.int z_))) e_ret, ht⟩) (fun q h => by cases h) dX8_closure_18
  · have c_5 := b2_n0.mp c_5
    exact Bool.noConfusion (hb_.symm.trans c_5)

set_option maxHeartbeats 4000000 in
set_option maxRecDepth 100000 in
theorem c_X8_closure_ok (l : Launch) (D : va_G) (h0 : Nat) (fs : List Value) (h2 : Nat) (cI : ClassId) (n : Nat) (o : Nat) (r : Nat → Nat) (q : Nat) (f0 : fs[0]? = some (.int (nI n))) (f1 : fs[1]? = some (.int (nI o))) (f2 : fs[2]? = some (.ref h2)) (hn : n ≤ 12) (ho : o ≤ 20) (hq : q < 2 ^ 31) (hb_ : sb (nI q) (nI (2 ^ n - 1)) = true) : Met l yX8_closure wsX8_closure ({ frames := 3, cells := 0, slots := 0, locals := 65 }) (va_Pc [.ref h0, .int (nI q)] (fun U => va_P D vwCl [(h0, .inr (7, fs)), (h2, .inl (cI, 20, .inl (fun i_ => nI (r i_))))] U.heap ∧ va_K D vwCl [(cI, .int)] U)) (QcRead (nI (clo r n o q))) 0 0 (fun _ => False) := by
  refine Met.ofW (cc := cX8_closure) (maxL := 2) (ret := (some .int)) (by decide) rfl ?_
  intro p e s m args below meth c s₁ B hml hv
  obtain ⟨rfl, hP, hK⟩ := hv
  have hx := B.exec
  have hb := B.bytes
  have hr := B.returns
  have hts := atoms_spec (ws := wsX8_closure) B.pre
  have hown : s.vm.findClass RX8 = some m.cls := findClass_of_methodNamed B.named
  have hlocks := B.notSynchronized
  have hl := lv_entry ([.ref h0, .int (nI q)]) (n := 2) (Nat.le_of_ble_eq_true rfl)
  rw [lg_entry_eq]
  generalize (lg_sl ([.ref h0, .int (nI q)]) ++ List.replicate (2 - (lg_sl ([.ref h0, .int (nI q)])).length) Slot.unset).toArray = ls at hl ⊢
  have hl : lv_has ls 2 [(0, .ref h0), (1, .int (nI q))] := hl
  refine lv_aload_n hx hb dX8_closure_0 rfl (lv_at hl 0 rfl) ?_
  refine lv_iload_n hx hb dX8_closure_1 rfl (lv_at hl 1 rfl) ?_
  refine rd_V (As := [.int (nI q)]) (rest := []) ⟨hx, hb, hml, hown, hts⟩ (c_X8_isSet l D h0 fs n (nI q) f0 (by assumption)) (cwV 1 hts gX8_closure_X8_isSet rfl rfl rfl (by decide +kernel) ⟨Nat.le_of_ble_eq_true rfl, Nat.le_of_ble_eq_true rfl⟩) (hP.sub (ws' := [(h0, .inr (7, fs))]) [0] rfl) (hK.sub (tys' := []) [] rfl) (va_recv hK hP (ci := 7) (q0 := 0) rfl rfl) rfl rfl hl.1 rfl (lv_room (Nat.le_of_ble_eq_true rfl)) dX8_closure_2 ⟨Nat.le_of_ble_eq_true rfl, Nat.le_of_ble_eq_true rfl⟩ ?_
  refine lv_if_eq (tgt := 16) hx hb dX8_closure_5 (by decide) (fun c_5 => ?_) (fun c_5 => ?_)
  · have c_5 := b2_0.mp c_5
    exact Bool.noConfusion (hb_.symm.trans c_5)
  · have c_5 := b2_n0.mp c_5
    refine lv_aload_n hx hb dX8_closure_8 rfl (lv_at hl 0 rfl) ?_
    refine lv_iload_n hx hb dX8_closure_9 rfl (lv_at hl 1 rfl) ?_
    refine rd_V (As := [.int (nI q)]) (rest := []) ⟨hx, hb, hml, hown, hts⟩ (c_X8_closureOf l D h0 fs h2 cI n o r q f0 f1 f2 (by assumption) (by assumption) (by assumption)) (cwV 1 hts gX8_closure_X8_closureOf rfl rfl rfl (by decide +kernel) ⟨Nat.le_of_ble_eq_true rfl, Nat.le_of_ble_eq_true rfl⟩) (hP.sub (ws' := [(h0, .inr (7, fs)), (h2, .inl (cI, 20, .inl (fun i_ => nI (r i_))))]) [0, 1] rfl) (hK.sub (tys' := [(cI, .int)]) [0] rfl) (va_recv hK hP (ci := 7) (q0 := 0) rfl rfl) rfl rfl hl.1 rfl (lv_room (Nat.le_of_ble_eq_true rfl)) dX8_closure_10 ⟨Nat.le_of_ble_eq_true rfl, Nat.le_of_ble_eq_true rfl⟩ ?_
    refine lv_goto (tgt := 18) hx hb dX8_closure_13 (by decide) ?_
    have e_ret : (nI (clo r n o q)) = (nI (clo r n o q)) := by rfl
    exact W.iret (v := (nI (clo r n o q))) hx hb hr (fun t ht hW => ⟨congrArg (fun z_ => Outcome.returned (some (Value.int z_))) e_ret, ht⟩) (fun q h => by cases h) dX8_closure_18

set_option maxHeartbeats 4000000 in
set_option maxRecDepth 100000 in
theorem c_X8_isLater (l : Launch) (D : va_G) (a : Int32) (b : Int32)  : Met l yX8_isLater wsX8_isLater ({ frames := 0, cells := 0, slots := 0, locals := 0 }) (va_Pc [.int a, .int b] (fun U => va_P D vwCl [] U.heap ∧ va_K D vwCl [] U)) (QcRead (b2 (latI a b))) 0 0 (fun _ => False) := by
  refine Met.ofW (cc := cX8_isLater) (maxL := 3) (ret := (some .boolean)) (by decide) rfl ?_
  intro p e s m args below meth c s₁ B hml hv
  obtain ⟨rfl, hP, hK⟩ := hv
  have hx := B.exec
  have hb := B.bytes
  have hr := B.returns
  have hts := atoms_spec (ws := wsX8_isLater) B.pre
  have hown : s.vm.findClass RX8 = some m.cls := findClass_of_methodNamed B.named
  have hlocks := B.notSynchronized
  have hl := lv_entry ([.int a, .int b]) (n := 3) (Nat.le_of_ble_eq_true rfl)
  rw [lg_entry_eq]
  generalize (lg_sl ([.int a, .int b]) ++ List.replicate (3 - (lg_sl ([.int a, .int b])).length) Slot.unset).toArray = ls at hl ⊢
  have hl : lv_has ls 3 [(0, .int a), (1, .int b)] := hl
  refine lv_iload_n hx hb dX8_isLater_0 rfl (lv_at hl 0 rfl) ?_
  refine lv_iload_n hx hb dX8_isLater_1 rfl (lv_at hl 1 rfl) ?_
  refine lv_ixor hx hb dX8_isLater_2 ?_
  refine lv_istore_n (lv' := [(2, .int (a ^^^ b)), (0, .int a), (1, .int b)]) hx hb dX8_isLater_3 rfl hl (by decide) rfl (fun ls hl => ?_)
  refine lv_iload_n hx hb dX8_isLater_4 rfl (lv_at hl 0 rfl) ?_
  refine lv_if_eq (tgt := 21) hx hb dX8_isLater_5 (by decide) (fun c_5 => ?_) (fun c_5 => ?_)
  · refine lv_iconst (v := 0) hx hb dX8_isLater_21 (by decide) ?_
    have e_ret : (0 : Int32) = (b2 (latI a b)) := by unfold latI; simp only [c_5]; rfl
    exact W.zret (v := (0 : Int32)) hx hb hr rfl (fun t ht hW => ⟨congrArg (fun z_ => Outcome.returned (some (Value.int z_))) e_ret, ht⟩) (fun q h => by cases h) dX8_isLater_22
  · refine lv_iload_n hx hb dX8_isLater_8 rfl (lv_at hl 1 rfl) ?_
    refine lv_iload_n hx hb dX8_isLater_9 rfl (lv_at hl 0 rfl) ?_
    refine lv_iand hx hb dX8_isLater_10 ?_
    refine lv_iload_n hx hb dX8_isLater_11 rfl (lv_at hl 0 rfl) ?_
    refine lv_ineg hx hb dX8_isLater_12 ?_
    refine lv_iand hx hb dX8_isLater_13 ?_
    refine lv_if_eq (tgt := 21) hx hb dX8_isLater_14 (by decide) (fun c_14 => ?_) (fun c_14 => ?_)
    · refine lv_iconst (v := 0) hx hb dX8_isLater_21 (by decide) ?_
      have e_ret : (0 : Int32) = (b2 (latI a b)) := by unfold latI; simp only [c_5, c_14]; rfl
      exact W.zret (v := (0 : Int32)) hx hb hr rfl (fun t ht hW => ⟨congrArg (fun z_ => Outcome.returned (some (Value.int z_))) e_ret, ht⟩) (fun q h => by cases h) dX8_isLater_22
    · refine lv_iconst (v := 1) hx hb dX8_isLater_17 (by decide) ?_
      refine lv_goto (tgt := 22) hx hb dX8_isLater_18 (by decide) ?_
      have e_ret : (1 : Int32) = (b2 (latI a b)) := by unfold latI; simp only [c_5, c_14]; rfl
      exact W.zret (v := (1 : Int32)) hx hb hr rfl (fun t ht hW => ⟨congrArg (fun z_ => Outcome.returned (some (Value.int z_))) e_ret, ht⟩) (fun q h => by cases h) dX8_isLater_22

set_option maxHeartbeats 4000000 in
set_option maxRecDepth 100000 in
theorem c_X8_next_bad (l : Launch) (D : va_G) (h0 : Nat) (fs : List Value) (h2 : Nat) (cI : ClassId) (n : Nat) (o : Nat) (r : Nat → Nat) (x : Int32) (f0 : fs[0]? = some (.int (nI n))) (f1 : fs[1]? = some (.int (nI o))) (f2 : fs[2]? = some (.ref h2)) (hn : n ≤ 12) (hb_ : sb x (nI (2 ^ n - 1)) = false) : Met l yX8_next wsX8_next ({ frames := 2, cells := 0, slots := 0, locals := 42 }) (va_Pc [.ref h0, .int x] (fun U => va_P D vwCl [(h0, .inr (7, fs)), (h2, .inl (cI, 20, .inl (fun i_ => nI (r i_))))] U.heap ∧ va_K D vwCl [(cI, .int)] U)) (QcRead (-2)) 0 0 (fun _ => False) := by
  refine Met.ofW (cc := cX8_next) (maxL := 4) (ret := (some .int)) (by decide) rfl ?_
  intro p e s m args below meth c s₁ B hml hv
  obtain ⟨rfl, hP, hK⟩ := hv
  have hx := B.exec
  have hb := B.bytes
  have hr := B.returns
  have hts := atoms_spec (ws := wsX8_next) B.pre
  have hown : s.vm.findClass RX8 = some m.cls := findClass_of_methodNamed B.named
  have hlocks := B.notSynchronized
  have hl := lv_entry ([.ref h0, .int x]) (n := 4) (Nat.le_of_ble_eq_true rfl)
  rw [lg_entry_eq]
  generalize (lg_sl ([.ref h0, .int x]) ++ List.replicate (4 - (lg_sl ([.ref h0, .int x])).length) Slot.unset).toArray = ls at hl ⊢
  have hl : lv_has ls 4 [(0, .ref h0), (1, .int x)] := hl
  refine lv_aload_n hx hb dX8_next_0 rfl (lv_at hl 0 rfl) ?_
  refine lv_iload_n hx hb dX8_next_1 rfl (lv_at hl 1 rfl) ?_
  refine rd_V (As := [.int x]) (rest := []) ⟨hx, hb, hml, hown, hts⟩ (c_X8_isSet l D h0 fs n x f0 (by assumption)) (cwV 1 hts gX8_next_X8_isSet rfl rfl rfl (by decide +kernel) ⟨Nat.le_of_ble_eq_true rfl, Nat.le_of_ble_eq_true rfl⟩) (hP.sub (ws' := [(h0, .inr (7, fs))]) [0] rfl) (hK.sub (tys' := []) [] rfl) (va_recv hK hP (ci := 7) (q0 := 0) rfl rfl) rfl rfl hl.1 rfl (lv_room (Nat.le_of_ble_eq_true rfl)) dX8_next_2 ⟨Nat.le_of_ble_eq_true rfl, Nat.le_of_ble_eq_true rfl⟩ ?_
  refine lv_if_ne (tgt := 11) hx hb dX8_next_5 (by decide) (fun c_5 => ?_) (fun c_5 => ?_)
  · have c_5 := b2_n0.mp c_5
    exact Bool.noConfusion (hb_.symm.trans c_5)
  · have c_5 := b2_0.mp c_5
    refine lv_bipush (v := -2) hx hb dX8_next_8 (by decide) ?_
    have e_ret : (-2 : Int32) = (-2) := by rfl
    exact W.iret (v := (-2 : Int32)) hx hb hr (fun t ht hW => ⟨congrArg (fun z_ => Outcome.returned (some (Value.int z_))) e_ret, ht⟩) (fun q h => by cases h) dX8_next_10

set_option maxHeartbeats 4000000 in
set_option maxRecDepth 100000 in
theorem c_X8_next_ok (l : Launch) (D : va_G) (h0 : Nat) (fs : List Value) (h2 : Nat) (cI : ClassId) (n : Nat) (o : Nat) (r : Nat → Nat) (q : Nat) (f0 : fs[0]? = some (.int (nI n))) (f1 : fs[1]? = some (.int (nI o))) (f2 : fs[2]? = some (.ref h2)) (hn : n ≤ 12) (ho : o ≤ 20) (hq : q < 2 ^ 31) (hb_ : sb (nI q) (nI (2 ^ n - 1)) = true) : Met l yX8_next wsX8_next ({ frames := 3, cells := 0, slots := 0, locals := 65 }) (va_Pc [.ref h0, .int (nI q)] (fun U => va_P D vwCl [(h0, .inr (7, fs)), (h2, .inl (cI, 20, .inl (fun i_ => nI (r i_))))] U.heap ∧ va_K D vwCl [(cI, .int)] U)) (QcRead (nxF r n o q (2 ^ n) 0)) 0 0 (fun _ => False) := by
  refine Met.ofW (cc := cX8_next) (maxL := 4) (ret := (some .int)) (by decide) rfl ?_
  intro p e s m args below meth c s₁ B hml hv
  obtain ⟨rfl, hP, hK⟩ := hv
  have hx := B.exec
  have hb := B.bytes
  have hr := B.returns
  have hts := atoms_spec (ws := wsX8_next) B.pre
  have hown : s.vm.findClass RX8 = some m.cls := findClass_of_methodNamed B.named
  have hlocks := B.notSynchronized
  have hl := lv_entry ([.ref h0, .int (nI q)]) (n := 4) (Nat.le_of_ble_eq_true rfl)
  rw [lg_entry_eq]
  generalize (lg_sl ([.ref h0, .int (nI q)]) ++ List.replicate (4 - (lg_sl ([.ref h0, .int (nI q)])).length) Slot.unset).toArray = ls at hl ⊢
  have hl : lv_has ls 4 [(0, .ref h0), (1, .int (nI q))] := hl
  have h2n := p2_le hn
  refine lv_aload_n hx hb dX8_next_0 rfl (lv_at hl 0 rfl) ?_
  refine lv_iload_n hx hb dX8_next_1 rfl (lv_at hl 1 rfl) ?_
  refine rd_V (As := [.int (nI q)]) (rest := []) ⟨hx, hb, hml, hown, hts⟩ (c_X8_isSet l D h0 fs n (nI q) f0 (by assumption)) (cwV 1 hts gX8_next_X8_isSet rfl rfl rfl (by decide +kernel) ⟨Nat.le_of_ble_eq_true rfl, Nat.le_of_ble_eq_true rfl⟩) (hP.sub (ws' := [(h0, .inr (7, fs))]) [0] rfl) (hK.sub (tys' := []) [] rfl) (va_recv hK hP (ci := 7) (q0 := 0) rfl rfl) rfl rfl hl.1 rfl (lv_room (Nat.le_of_ble_eq_true rfl)) dX8_next_2 ⟨Nat.le_of_ble_eq_true rfl, Nat.le_of_ble_eq_true rfl⟩ ?_
  refine lv_if_ne (tgt := 11) hx hb dX8_next_5 (by decide) (fun c_5 => ?_) (fun c_5 => ?_)
  · have c_5 := b2_n0.mp c_5
    refine lv_iconst (v := 0) hx hb dX8_next_11 (by decide) ?_
    refine lv_istore_n (lv' := [(2, .int (0 : Int32)), (0, .ref h0), (1, .int (nI q))]) hx hb dX8_next_12 rfl hl (by decide) rfl (fun ls hl => ?_)
    have lp_13 : ∀ (n_ : Nat) (k : Nat), 2 ^ n - k < n_ → (k ≤ 2 ^ n) → (nxF r n o q (2 ^ n - k) k = nxF r n o q (2 ^ n) 0) → ∀ (x2 : Int32), x2 = nI k → ∀ (ls : Array Slot), lv_has ls 4 [(2, .int x2), (0, .ref h0), (1, .int (nI q))] → W p l e (headSpec wsX8_next ({ frames := 3, cells := 0, slots := 0, locals := 65 })).room s m ([.ref h0, .int (nI q)] : List Value).toArray below meth c s.heap [] 0 0 (MQ below (QcRead (nxF r n o q (2 ^ n) 0)) ([.ref h0, .int (nI q)] : List Value).toArray s 0 0 (fun _ => False)) (F0 m 13 ls []) := by
      intro n_
      induction n_ with
      | zero => intro k h0_; exact absurd h0_ (Nat.not_lt_zero _)
      | succ n_ ih_13 =>
        intro k hm_13 hk hres x2 e_x2 ls hl
        subst e_x2
        refine lv_iload_n hx hb dX8_next_13 rfl (lv_at hl 0 rfl) ?_
        refine lv_iconst (v := 1) hx hb dX8_next_14 (by decide) ?_
        refine lv_aload_n hx hb dX8_next_15 rfl (lv_at hl 1 rfl) ?_
        refine va_get (D := D) (ci := 7) (v := .int (nI n)) (C := RX8) (T := TX8) (N := 18) hx hb hts (by decide +kernel) hown hK hP 0 rfl rfl 0 (by decide) (hts (.fieldLink RX8 7 "ConceptTableModel" "n" "I") (by decide +kernel)) (fun _ h9 => h9) f0 dX8_next_16 ?_
        refine lv_ishl hx hb dX8_next_19 ?_
        refine lv_re (y := (nI (2 ^ n))) (nx_sh1 (k := n) (by omega)) ?_
        refine lv_icmp_ge (tgt := 54) hx hb dX8_next_20 (by decide) (fun c_20 => ?_) (fun c_20 => ?_)
        · have c_20 : (2 ^ n) ≤ k := (nI_leI (a := (2 ^ n)) (b := k) (by omega) (by omega)).mp c_20
          refine lv_iconst (v := -1) hx hb dX8_next_54 (by decide) ?_
          have e_ret : (-1 : Int32) = (nxF r n o q (2 ^ n) 0) := by rw [← hres, show 2 ^ n - k = 0 by omega]; rfl
          exact W.iret (v := (-1 : Int32)) hx hb hr (fun t ht hW => ⟨congrArg (fun z_ => Outcome.returned (some (Value.int z_))) e_ret, ht⟩) (fun q h => by cases h) dX8_next_55
        · have c_20 : k < (2 ^ n) := Nat.lt_of_not_le (fun h_ => c_20 ((nI_leI (a := (2 ^ n)) (b := k) (by omega) (by omega)).mpr h_))
          refine lv_aload_n hx hb dX8_next_23 rfl (lv_at hl 1 rfl) ?_
          refine lv_iload_n hx hb dX8_next_24 rfl (lv_at hl 0 rfl) ?_
          refine rd_V (As := [.int (nI k)]) (rest := []) ⟨hx, hb, hml, hown, hts⟩ (c_X8_turned l D h0 fs n k f0 hn (by omega)) (cwV 1 hts gX8_next_X8_turned rfl rfl rfl (by decide +kernel) ⟨Nat.le_of_ble_eq_true rfl, Nat.le_of_ble_eq_true rfl⟩) (hP.sub (ws' := [(h0, .inr (7, fs))]) [0] rfl) (hK.sub (tys' := []) [] rfl) (va_recv hK hP (ci := 7) (q0 := 0) rfl rfl) rfl rfl hl.1 rfl (lv_room (Nat.le_of_ble_eq_true rfl)) dX8_next_25 ⟨Nat.le_of_ble_eq_true rfl, Nat.le_of_ble_eq_true rfl⟩ ?_
          have hf_ : 2 ^ n - k = (2 ^ n - (k + 1)) + 1 := by omega
          have ht_ := tur_lt n k n
          have hcl_ := clo_lt r n o (tur n k n)
          refine lv_istore_n (lv' := [(3, .int (nI (tur n k n))), (2, .int (nI k)), (0, .ref h0), (1, .int (nI q))]) hx hb dX8_next_28 rfl hl (by decide) rfl (fun ls hl => ?_)
          refine lv_iload_n hx hb dX8_next_29 rfl (lv_at hl 0 rfl) ?_
          refine lv_iload_n hx hb dX8_next_30 rfl (lv_at hl 3 rfl) ?_
          refine rd_S (As := [.int (nI (tur n k n)), .int (nI q)]) (rest := []) ⟨hx, hb, hml, hown, hts⟩ (c_X8_isLater l D (nI (tur n k n)) (nI q) ) (va_cwS 2 hts gX8_next_X8_isLater rfl rfl rfl (by decide +kernel) ⟨Nat.le_of_ble_eq_true rfl, Nat.le_of_ble_eq_true rfl⟩) (hP.sub (ws' := []) [] rfl) (hK.sub (tys' := []) [] rfl) rfl rfl hl.1 rfl (lv_room (Nat.le_of_ble_eq_true rfl)) dX8_next_31 ⟨Nat.le_of_ble_eq_true rfl, Nat.le_of_ble_eq_true rfl⟩ ?_
          refine lv_if_eq (tgt := 48) hx hb dX8_next_34 (by decide) (fun c_34 => ?_) (fun c_34 => ?_)
          · have c_34 := b2_0.mp c_34
            refine lv_iinc (v := (nI (k + 1))) (lv' := [(2, .int (nI (k + 1))), (3, .int (nI (tur n k n))), (0, .ref h0), (1, .int (nI q))]) hx hb dX8_next_48 hl (k := 1) rfl (nI_add _ 1) (by decide) rfl (fun ls hl => ?_)
            refine lv_goto (tgt := 13) hx hb dX8_next_51 (by decide) ?_
            exact ih_13 (k + 1) (by omega) (by omega) (by rw [← hres, hf_, nxF_n1 c_34]) _ rfl _ (lv_sub hl [0, 2, 3] rfl)
          · have c_34 := b2_n0.mp c_34
            refine lv_aload_n hx hb dX8_next_37 rfl (lv_at hl 2 rfl) ?_
            refine lv_iload_n hx hb dX8_next_38 rfl (lv_at hl 0 rfl) ?_
            refine rd_V (As := [.int (nI (tur n k n))]) (rest := []) ⟨hx, hb, hml, hown, hts⟩ (c_X8_closureOf l D h0 fs h2 cI n o r (tur n k n) f0 f1 f2 hn ho (by omega)) (cwV 1 hts gX8_next_X8_closureOf rfl rfl rfl (by decide +kernel) ⟨Nat.le_of_ble_eq_true rfl, Nat.le_of_ble_eq_true rfl⟩) (hP.sub (ws' := [(h0, .inr (7, fs)), (h2, .inl (cI, 20, .inl (fun i_ => nI (r i_))))]) [0, 1] rfl) (hK.sub (tys' := [(cI, .int)]) [0] rfl) (va_recv hK hP (ci := 7) (q0 := 0) rfl rfl) rfl rfl hl.1 rfl (lv_room (Nat.le_of_ble_eq_true rfl)) dX8_next_39 ⟨Nat.le_of_ble_eq_true rfl, Nat.le_of_ble_eq_true rfl⟩ ?_
            refine lv_iload_n hx hb dX8_next_42 rfl (lv_at hl 0 rfl) ?_
            refine lv_icmp_ne (tgt := 48) hx hb dX8_next_43 (by decide) (fun c_43 => ?_) (fun c_43 => ?_)
            · have c_43 : ¬ (clo r n o (tur n k n)) = (tur n k n) := fun h_ => c_43 ((nI_eq (a := (clo r n o (tur n k n))) (b := (tur n k n)) (by omega) (by omega)).mpr h_)
              refine lv_iinc (v := (nI (k + 1))) (lv' := [(2, .int (nI (k + 1))), (3, .int (nI (tur n k n))), (0, .ref h0), (1, .int (nI q))]) hx hb dX8_next_48 hl (k := 1) rfl (nI_add _ 1) (by decide) rfl (fun ls hl => ?_)
              refine lv_goto (tgt := 13) hx hb dX8_next_51 (by decide) ?_
              exact ih_13 (k + 1) (by omega) (by omega) (by rw [← hres, hf_, nxF_n2 c_43]) _ rfl _ (lv_sub hl [0, 2, 3] rfl)
            · have c_43 : (clo r n o (tur n k n)) = (tur n k n) := (nI_eq (a := (clo r n o (tur n k n))) (b := (tur n k n)) (by omega) (by omega)).mp c_43
              refine lv_iload_n hx hb dX8_next_46 rfl (lv_at hl 0 rfl) ?_
              have e_ret : (nI (tur n k n)) = (nxF r n o q (2 ^ n) 0) := by rw [← hres, hf_, nxF_y c_34 c_43]
              exact W.iret (v := (nI (tur n k n))) hx hb hr (fun t ht hW => ⟨congrArg (fun z_ => Outcome.returned (some (Value.int z_))) e_ret, ht⟩) (fun q h => by cases h) dX8_next_47
    exact lp_13 _ 0 (Nat.lt_succ_self _) (Nat.zero_le _) rfl _ rfl _ (lv_sub hl [0, 1, 2] rfl)
  · have c_5 := b2_0.mp c_5
    exact Bool.noConfusion (hb_.symm.trans c_5)

set_option maxHeartbeats 4000000 in
set_option maxRecDepth 100000 in
theorem c_X8_holds_bad (l : Launch) (D : va_G) (h0 : Nat) (fs : List Value) (h2 : Nat) (cI : ClassId) (n : Nat) (o : Nat) (r : Nat → Nat) (x : Int32) (y : Int32) (f0 : fs[0]? = some (.int (nI n))) (f1 : fs[1]? = some (.int (nI o))) (f2 : fs[2]? = some (.ref h2)) (hn : n ≤ 12) (hb_ : (sb x (nI (2 ^ n - 1)) && sb y (nI (2 ^ n - 1))) = false) : Met l yX8_holds wsX8_holds ({ frames := 2, cells := 0, slots := 0, locals := 42 }) (va_Pc [.ref h0, .int x, .int y] (fun U => va_P D vwCl [(h0, .inr (7, fs)), (h2, .inl (cI, 20, .inl (fun i_ => nI (r i_))))] U.heap ∧ va_K D vwCl [(cI, .int)] U)) (QcRead (-2)) 0 0 (fun _ => False) := by
  refine Met.ofW (cc := cX8_holds) (maxL := 4) (ret := (some .int)) (by decide) rfl ?_
  intro p e s m args below meth c s₁ B hml hv
  obtain ⟨rfl, hP, hK⟩ := hv
  have hx := B.exec
  have hb := B.bytes
  have hr := B.returns
  have hts := atoms_spec (ws := wsX8_holds) B.pre
  have hown : s.vm.findClass RX8 = some m.cls := findClass_of_methodNamed B.named
  have hlocks := B.notSynchronized
  have hl := lv_entry ([.ref h0, .int x, .int y]) (n := 4) (Nat.le_of_ble_eq_true rfl)
  rw [lg_entry_eq]
  generalize (lg_sl ([.ref h0, .int x, .int y]) ++ List.replicate (4 - (lg_sl ([.ref h0, .int x, .int y])).length) Slot.unset).toArray = ls at hl ⊢
  have hl : lv_has ls 4 [(0, .ref h0), (1, .int x), (2, .int y)] := hl
  refine lv_aload_n hx hb dX8_holds_0 rfl (lv_at hl 0 rfl) ?_
  refine lv_iload_n hx hb dX8_holds_1 rfl (lv_at hl 1 rfl) ?_
  refine rd_V (As := [.int x]) (rest := []) ⟨hx, hb, hml, hown, hts⟩ (c_X8_isSet l D h0 fs n x f0 (by assumption)) (cwV 1 hts gX8_holds_X8_isSet rfl rfl rfl (by decide +kernel) ⟨Nat.le_of_ble_eq_true rfl, Nat.le_of_ble_eq_true rfl⟩) (hP.sub (ws' := [(h0, .inr (7, fs))]) [0] rfl) (hK.sub (tys' := []) [] rfl) (va_recv hK hP (ci := 7) (q0 := 0) rfl rfl) rfl rfl hl.1 rfl (lv_room (Nat.le_of_ble_eq_true rfl)) dX8_holds_2 ⟨Nat.le_of_ble_eq_true rfl, Nat.le_of_ble_eq_true rfl⟩ ?_
  refine lv_if_eq (tgt := 16) hx hb dX8_holds_5 (by decide) (fun c_5 => ?_) (fun c_5 => ?_)
  · have c_5 := b2_0.mp c_5
    refine lv_bipush (v := -2) hx hb dX8_holds_16 (by decide) ?_
    have e_ret : (-2 : Int32) = (-2) := by rfl
    exact W.iret (v := (-2 : Int32)) hx hb hr (fun t ht hW => ⟨congrArg (fun z_ => Outcome.returned (some (Value.int z_))) e_ret, ht⟩) (fun q h => by cases h) dX8_holds_18
  · have c_5 := b2_n0.mp c_5
    refine lv_aload_n hx hb dX8_holds_8 rfl (lv_at hl 0 rfl) ?_
    refine lv_iload_n hx hb dX8_holds_9 rfl (lv_at hl 2 rfl) ?_
    refine rd_V (As := [.int y]) (rest := []) ⟨hx, hb, hml, hown, hts⟩ (c_X8_isSet l D h0 fs n y f0 (by assumption)) (cwV 1 hts gX8_holds_X8_isSet rfl rfl rfl (by decide +kernel) ⟨Nat.le_of_ble_eq_true rfl, Nat.le_of_ble_eq_true rfl⟩) (hP.sub (ws' := [(h0, .inr (7, fs))]) [0] rfl) (hK.sub (tys' := []) [] rfl) (va_recv hK hP (ci := 7) (q0 := 0) rfl rfl) rfl rfl hl.1 rfl (lv_room (Nat.le_of_ble_eq_true rfl)) dX8_holds_10 ⟨Nat.le_of_ble_eq_true rfl, Nat.le_of_ble_eq_true rfl⟩ ?_
    refine lv_if_ne (tgt := 19) hx hb dX8_holds_13 (by decide) (fun c_13 => ?_) (fun c_13 => ?_)
    · have c_13 := b2_n0.mp c_13
      exact absurd hb_ (by rw [c_5, c_13]; decide)
    · have c_13 := b2_0.mp c_13
      refine lv_bipush (v := -2) hx hb dX8_holds_16 (by decide) ?_
      have e_ret : (-2 : Int32) = (-2) := by rfl
      exact W.iret (v := (-2 : Int32)) hx hb hr (fun t ht hW => ⟨congrArg (fun z_ => Outcome.returned (some (Value.int z_))) e_ret, ht⟩) (fun q h => by cases h) dX8_holds_18

set_option maxHeartbeats 4000000 in
set_option maxRecDepth 100000 in
theorem c_X8_holds_ok (l : Launch) (D : va_G) (h0 : Nat) (fs : List Value) (h2 : Nat) (cI : ClassId) (n : Nat) (o : Nat) (r : Nat → Nat) (a : Nat) (b : Nat) (f0 : fs[0]? = some (.int (nI n))) (f1 : fs[1]? = some (.int (nI o))) (f2 : fs[2]? = some (.ref h2)) (hn : n ≤ 12) (ho : o ≤ 20) (ha : a < 2 ^ 31) (hb9 : b < 2 ^ 31) (hb1 : sb (nI a) (nI (2 ^ n - 1)) = true) (hb2 : sb (nI b) (nI (2 ^ n - 1)) = true) : Met l yX8_holds wsX8_holds ({ frames := 2, cells := 0, slots := 0, locals := 42 }) (va_Pc [.ref h0, .int (nI a), .int (nI b)] (fun U => va_P D vwCl [(h0, .inr (7, fs)), (h2, .inl (cI, 20, .inl (fun i_ => nI (r i_))))] U.heap ∧ va_K D vwCl [(cI, .int)] U)) (QcRead (b2 (decide (∀ k, k < o → sN a (r k) = true → sN b (r k) = true)))) 0 0 (fun _ => False) := by
  refine Met.ofW (cc := cX8_holds) (maxL := 4) (ret := (some .int)) (by decide) rfl ?_
  intro p e s m args below meth c s₁ B hml hv
  obtain ⟨rfl, hP, hK⟩ := hv
  have hx := B.exec
  have hb := B.bytes
  have hr := B.returns
  have hts := atoms_spec (ws := wsX8_holds) B.pre
  have hown : s.vm.findClass RX8 = some m.cls := findClass_of_methodNamed B.named
  have hlocks := B.notSynchronized
  have hl := lv_entry ([.ref h0, .int (nI a), .int (nI b)]) (n := 4) (Nat.le_of_ble_eq_true rfl)
  rw [lg_entry_eq]
  generalize (lg_sl ([.ref h0, .int (nI a), .int (nI b)]) ++ List.replicate (4 - (lg_sl ([.ref h0, .int (nI a), .int (nI b)])).length) Slot.unset).toArray = ls at hl ⊢
  have hl : lv_has ls 4 [(0, .ref h0), (1, .int (nI a)), (2, .int (nI b))] := hl
  refine lv_aload_n hx hb dX8_holds_0 rfl (lv_at hl 0 rfl) ?_
  refine lv_iload_n hx hb dX8_holds_1 rfl (lv_at hl 1 rfl) ?_
  refine rd_V (As := [.int (nI a)]) (rest := []) ⟨hx, hb, hml, hown, hts⟩ (c_X8_isSet l D h0 fs n (nI a) f0 (by assumption)) (cwV 1 hts gX8_holds_X8_isSet rfl rfl rfl (by decide +kernel) ⟨Nat.le_of_ble_eq_true rfl, Nat.le_of_ble_eq_true rfl⟩) (hP.sub (ws' := [(h0, .inr (7, fs))]) [0] rfl) (hK.sub (tys' := []) [] rfl) (va_recv hK hP (ci := 7) (q0 := 0) rfl rfl) rfl rfl hl.1 rfl (lv_room (Nat.le_of_ble_eq_true rfl)) dX8_holds_2 ⟨Nat.le_of_ble_eq_true rfl, Nat.le_of_ble_eq_true rfl⟩ ?_
  refine lv_if_eq (tgt := 16) hx hb dX8_holds_5 (by decide) (fun c_5 => ?_) (fun c_5 => ?_)
  · have c_5 := b2_0.mp c_5
    exact Bool.noConfusion (hb1.symm.trans c_5)
  · have c_5 := b2_n0.mp c_5
    refine lv_aload_n hx hb dX8_holds_8 rfl (lv_at hl 0 rfl) ?_
    refine lv_iload_n hx hb dX8_holds_9 rfl (lv_at hl 2 rfl) ?_
    refine rd_V (As := [.int (nI b)]) (rest := []) ⟨hx, hb, hml, hown, hts⟩ (c_X8_isSet l D h0 fs n (nI b) f0 (by assumption)) (cwV 1 hts gX8_holds_X8_isSet rfl rfl rfl (by decide +kernel) ⟨Nat.le_of_ble_eq_true rfl, Nat.le_of_ble_eq_true rfl⟩) (hP.sub (ws' := [(h0, .inr (7, fs))]) [0] rfl) (hK.sub (tys' := []) [] rfl) (va_recv hK hP (ci := 7) (q0 := 0) rfl rfl) rfl rfl hl.1 rfl (lv_room (Nat.le_of_ble_eq_true rfl)) dX8_holds_10 ⟨Nat.le_of_ble_eq_true rfl, Nat.le_of_ble_eq_true rfl⟩ ?_
    refine lv_if_ne (tgt := 19) hx hb dX8_holds_13 (by decide) (fun c_13 => ?_) (fun c_13 => ?_)
    · have c_13 := b2_n0.mp c_13
      refine lv_iconst (v := 0) hx hb dX8_holds_19 (by decide) ?_
      refine lv_istore_n (lv' := [(3, .int (0 : Int32)), (0, .ref h0), (1, .int (nI a)), (2, .int (nI b))]) hx hb dX8_holds_20 rfl hl (by decide) rfl (fun ls hl => ?_)
      have lp_21 : ∀ (n_ : Nat) (k : Nat), o - k < n_ → (k ≤ o) → (∀ j, j < k → sN a (r j) = true → sN b (r j) = true) → ∀ (x3 : Int32), x3 = nI k → ∀ (ls : Array Slot), lv_has ls 4 [(3, .int x3), (0, .ref h0), (1, .int (nI a)), (2, .int (nI b))] → W p l e (headSpec wsX8_holds ({ frames := 2, cells := 0, slots := 0, locals := 42 })).room s m ([.ref h0, .int (nI a), .int (nI b)] : List Value).toArray below meth c s.heap [] 0 0 (MQ below (QcRead (b2 (decide (∀ k, k < o → sN a (r k) = true → sN b (r k) = true)))) ([.ref h0, .int (nI a), .int (nI b)] : List Value).toArray s 0 0 (fun _ => False)) (F0 m 21 ls []) := by
        intro n_
        induction n_ with
        | zero => intro k h0_; exact absurd h0_ (Nat.not_lt_zero _)
        | succ n_ ih_21 =>
          intro k hm_21 hk hin x3 e_x3 ls hl
          subst e_x3
          refine lv_iload_n hx hb dX8_holds_21 rfl (lv_at hl 0 rfl) ?_
          refine lv_aload_n hx hb dX8_holds_22 rfl (lv_at hl 1 rfl) ?_
          refine va_get (D := D) (ci := 7) (v := .int (nI o)) (C := RX8) (T := TX8) (N := 18) hx hb hts (by decide +kernel) hown hK hP 0 rfl rfl 1 (by decide) (hts (.fieldLink RX8 67 "ConceptTableModel" "objects" "I") (by decide +kernel)) (fun _ h9 => h9) f1 dX8_holds_23 ?_
          refine lv_icmp_ge (tgt := 63) hx hb dX8_holds_26 (by decide) (fun c_26 => ?_) (fun c_26 => ?_)
          · have c_26 : o ≤ k := (nI_leI (a := o) (b := k) (by omega) (by omega)).mp c_26
            refine lv_iconst (v := 1) hx hb dX8_holds_63 (by decide) ?_
            have e_ret : (1 : Int32) = (b2 (decide (∀ k, k < o → sN a (r k) = true → sN b (r k) = true))) := by rw [decide_eq_true (fun j hj => hin j (by omega))]; rfl
            exact W.iret (v := (1 : Int32)) hx hb hr (fun t ht hW => ⟨congrArg (fun z_ => Outcome.returned (some (Value.int z_))) e_ret, ht⟩) (fun q h => by cases h) dX8_holds_64
          · have c_26 : k < o := Nat.lt_of_not_le (fun h_ => c_26 ((nI_leI (a := o) (b := k) (by omega) (by omega)).mpr h_))
            refine lv_iload_n hx hb dX8_holds_29 rfl (lv_at hl 2 rfl) ?_
            refine lv_aload_n hx hb dX8_holds_30 rfl (lv_at hl 1 rfl) ?_
            refine va_get (D := D) (ci := 7) (v := .ref h2) (C := RX8) (T := TX8) (N := 18) hx hb hts (by decide +kernel) hown hK hP 0 rfl rfl 2 (by decide) (hts (.fieldLink RX8 13 "ConceptTableModel" "rows" "[I") (by decide +kernel)) (fun _ h9 => h9) f2 dX8_holds_31 ?_
            refine lv_iload_n hx hb dX8_holds_34 rfl (lv_at hl 0 rfl) ?_
            refine va_iald hx hb hK hP 1 0 rfl rfl (vp_in_nI (by omega) (by omega)) dX8_holds_35 ?_
            refine lv_re (y := (nI (r k))) (by rw [nI_clamp (by omega)]) ?_
            refine rd_S (As := [.int (nI a), .int (nI (r k))]) (rest := []) ⟨hx, hb, hml, hown, hts⟩ (c_X8_isPart_N l D a (r k) (by assumption)) (va_cwS 2 hts gX8_holds_X8_isPart rfl rfl rfl (by decide +kernel) ⟨Nat.le_of_ble_eq_true rfl, Nat.le_of_ble_eq_true rfl⟩) (hP.sub (ws' := []) [] rfl) (hK.sub (tys' := []) [] rfl) rfl rfl hl.1 rfl (lv_room (Nat.le_of_ble_eq_true rfl)) dX8_holds_36 ⟨Nat.le_of_ble_eq_true rfl, Nat.le_of_ble_eq_true rfl⟩ ?_
            refine lv_if_eq (tgt := 57) hx hb dX8_holds_39 (by decide) (fun c_39 => ?_) (fun c_39 => ?_)
            · have c_39 := b2_0.mp c_39
              refine lv_iinc (v := (nI (k + 1))) (lv' := [(3, .int (nI (k + 1))), (0, .ref h0), (1, .int (nI a)), (2, .int (nI b))]) hx hb dX8_holds_57 hl (k := 0) rfl (nI_add _ 1) (by decide) rfl (fun ls hl => ?_)
              refine lv_goto (tgt := 21) hx hb dX8_holds_60 (by decide) ?_
              exact ih_21 (k + 1) (by omega) (by omega) (lt_s hin (fun z => Bool.noConfusion (c_39.symm.trans z))) _ rfl _ (lv_sub hl [0, 1, 2, 3] rfl)
            · have c_39 := b2_n0.mp c_39
              refine lv_iload_n hx hb dX8_holds_42 rfl (lv_at hl 3 rfl) ?_
              refine lv_aload_n hx hb dX8_holds_43 rfl (lv_at hl 1 rfl) ?_
              refine va_get (D := D) (ci := 7) (v := .ref h2) (C := RX8) (T := TX8) (N := 18) hx hb hts (by decide +kernel) hown hK hP 0 rfl rfl 2 (by decide) (hts (.fieldLink RX8 13 "ConceptTableModel" "rows" "[I") (by decide +kernel)) (fun _ h9 => h9) f2 dX8_holds_44 ?_
              refine lv_iload_n hx hb dX8_holds_47 rfl (lv_at hl 0 rfl) ?_
              refine va_iald hx hb hK hP 1 0 rfl rfl (vp_in_nI (by omega) (by omega)) dX8_holds_48 ?_
              refine lv_re (y := (nI (r k))) (by rw [nI_clamp (by omega)]) ?_
              refine rd_S (As := [.int (nI b), .int (nI (r k))]) (rest := []) ⟨hx, hb, hml, hown, hts⟩ (c_X8_isPart_N l D b (r k) (by assumption)) (va_cwS 2 hts gX8_holds_X8_isPart rfl rfl rfl (by decide +kernel) ⟨Nat.le_of_ble_eq_true rfl, Nat.le_of_ble_eq_true rfl⟩) (hP.sub (ws' := []) [] rfl) (hK.sub (tys' := []) [] rfl) rfl rfl hl.1 rfl (lv_room (Nat.le_of_ble_eq_true rfl)) dX8_holds_49 ⟨Nat.le_of_ble_eq_true rfl, Nat.le_of_ble_eq_true rfl⟩ ?_
              refine lv_if_ne (tgt := 57) hx hb dX8_holds_52 (by decide) (fun c_52 => ?_) (fun c_52 => ?_)
              · have c_52 := b2_n0.mp c_52
                refine lv_iinc (v := (nI (k + 1))) (lv' := [(3, .int (nI (k + 1))), (0, .ref h0), (1, .int (nI a)), (2, .int (nI b))]) hx hb dX8_holds_57 hl (k := 0) rfl (nI_add _ 1) (by decide) rfl (fun ls hl => ?_)
                refine lv_goto (tgt := 21) hx hb dX8_holds_60 (by decide) ?_
                exact ih_21 (k + 1) (by omega) (by omega) (lt_s hin (fun _ => c_52)) _ rfl _ (lv_sub hl [0, 1, 2, 3] rfl)
              · have c_52 := b2_0.mp c_52
                refine lv_iconst (v := 0) hx hb dX8_holds_55 (by decide) ?_
                have e_ret : (0 : Int32) = (b2 (decide (∀ k, k < o → sN a (r k) = true → sN b (r k) = true))) := by rw [decide_eq_false (fun h => Bool.noConfusion ((h k (by omega) c_39).symm.trans c_52))]; rfl
                exact W.iret (v := (0 : Int32)) hx hb hr (fun t ht hW => ⟨congrArg (fun z_ => Outcome.returned (some (Value.int z_))) e_ret, ht⟩) (fun q h => by cases h) dX8_holds_56
      exact lp_21 _ 0 (Nat.lt_succ_self _) (Nat.zero_le _) (fun j h => absurd h (Nat.not_lt_zero _)) _ rfl _ (lv_sub hl [0, 1, 2, 3] rfl)
    · have c_13 := b2_0.mp c_13
      exact Bool.noConfusion (hb2.symm.trans c_13)

set_option maxHeartbeats 4000000 in
set_option maxRecDepth 100000 in
theorem c_X8_needed_bad (l : Launch) (D : va_G) (h0 : Nat) (fs : List Value) (h2 : Nat) (cI : ClassId) (n : Nat) (o : Nat) (r : Nat → Nat) (x : Int32) (f0 : fs[0]? = some (.int (nI n))) (f1 : fs[1]? = some (.int (nI o))) (f2 : fs[2]? = some (.ref h2)) (hb_ : (decide (¬ x < 0) && decide (¬ (nI n - (1 : Int32)) < x)) = false) : Met l yX8_needed wsX8_needed ({ frames := 1, cells := 0, slots := 0, locals := 22 }) (va_Pc [.ref h0, .int x] (fun U => va_P D vwCl [(h0, .inr (7, fs)), (h2, .inl (cI, 20, .inl (fun i_ => nI (r i_))))] U.heap ∧ va_K D vwCl [(cI, .int)] U)) (QcRead (-2)) 0 0 (fun _ => False) := by
  refine Met.ofW (cc := cX8_needed) (maxL := 6) (ret := (some .int)) (by decide) rfl ?_
  intro p e s m args below meth c s₁ B hml hv
  obtain ⟨rfl, hP, hK⟩ := hv
  have hx := B.exec
  have hb := B.bytes
  have hr := B.returns
  have hts := atoms_spec (ws := wsX8_needed) B.pre
  have hown : s.vm.findClass RX8 = some m.cls := findClass_of_methodNamed B.named
  have hlocks := B.notSynchronized
  have hl := lv_entry ([.ref h0, .int x]) (n := 6) (Nat.le_of_ble_eq_true rfl)
  rw [lg_entry_eq]
  generalize (lg_sl ([.ref h0, .int x]) ++ List.replicate (6 - (lg_sl ([.ref h0, .int x])).length) Slot.unset).toArray = ls at hl ⊢
  have hl : lv_has ls 6 [(0, .ref h0), (1, .int x)] := hl
  refine lv_iload_n hx hb dX8_needed_0 rfl (lv_at hl 1 rfl) ?_
  refine lv_iconst (v := 0) hx hb dX8_needed_1 (by decide) ?_
  refine lv_aload_n hx hb dX8_needed_2 rfl (lv_at hl 0 rfl) ?_
  refine va_get (D := D) (ci := 7) (v := .int (nI n)) (C := RX8) (T := TX8) (N := 18) hx hb hts (by decide +kernel) hown hK hP 0 rfl rfl 0 (by decide) (hts (.fieldLink RX8 7 "ConceptTableModel" "n" "I") (by decide +kernel)) (fun _ h9 => h9) f0 dX8_needed_3 ?_
  refine lv_iconst (v := 1) hx hb dX8_needed_6 (by decide) ?_
  refine lv_isub hx hb dX8_needed_7 ?_
  refine rd_S (As := [.int x, .int (0 : Int32), .int ((nI n) - (1 : Int32))]) (rest := []) ⟨hx, hb, hml, hown, hts⟩ (c_X8_in l D x (0 : Int32) ((nI n) - (1 : Int32)) ) (va_cwS 3 hts gX8_needed_X8_in rfl rfl rfl (by decide +kernel) ⟨Nat.le_of_ble_eq_true rfl, Nat.le_of_ble_eq_true rfl⟩) (hP.sub (ws' := []) [] rfl) (hK.sub (tys' := []) [] rfl) rfl rfl hl.1 rfl (lv_room (Nat.le_of_ble_eq_true rfl)) dX8_needed_8 ⟨Nat.le_of_ble_eq_true rfl, Nat.le_of_ble_eq_true rfl⟩ ?_
  refine lv_if_ne (tgt := 17) hx hb dX8_needed_11 (by decide) (fun c_11 => ?_) (fun c_11 => ?_)
  · have c_11 := b2_n0.mp c_11
    exact Bool.noConfusion (hb_.symm.trans c_11)
  · have c_11 := b2_0.mp c_11
    refine lv_bipush (v := -2) hx hb dX8_needed_14 (by decide) ?_
    have e_ret : (-2 : Int32) = (-2) := by rfl
    exact W.iret (v := (-2 : Int32)) hx hb hr (fun t ht hW => ⟨congrArg (fun z_ => Outcome.returned (some (Value.int z_))) e_ret, ht⟩) (fun q h => by cases h) dX8_needed_16

set_option maxHeartbeats 4000000 in
set_option maxRecDepth 100000 in
theorem c_X8_needed_ok (l : Launch) (D : va_G) (h0 : Nat) (fs : List Value) (h2 : Nat) (cI : ClassId) (n : Nat) (o : Nat) (r : Nat → Nat) (a : Nat) (f0 : fs[0]? = some (.int (nI n))) (f1 : fs[1]? = some (.int (nI o))) (f2 : fs[2]? = some (.ref h2)) (hn : n ≤ 12) (ho : o ≤ 20) (ha : a < n) : Met l yX8_needed wsX8_needed ({ frames := 2, cells := 0, slots := 0, locals := 44 }) (va_Pc [.ref h0, .int (nI a)] (fun U => va_P D vwCl [(h0, .inr (7, fs)), (h2, .inl (cI, 20, .inl (fun i_ => nI (r i_))))] U.heap ∧ va_K D vwCl [(cI, .int)] U)) (QcRead (b2 (decide (¬ ext r (nda r o (ext r (2 ^ a) o) n) o = ext r (2 ^ a) o)))) 0 0 (fun _ => False) := by
  refine Met.ofW (cc := cX8_needed) (maxL := 6) (ret := (some .int)) (by decide) rfl ?_
  intro p e s m args below meth c s₁ B hml hv
  obtain ⟨rfl, hP, hK⟩ := hv
  have hx := B.exec
  have hb := B.bytes
  have hr := B.returns
  have hts := atoms_spec (ws := wsX8_needed) B.pre
  have hown : s.vm.findClass RX8 = some m.cls := findClass_of_methodNamed B.named
  have hlocks := B.notSynchronized
  have hl := lv_entry ([.ref h0, .int (nI a)]) (n := 6) (Nat.le_of_ble_eq_true rfl)
  rw [lg_entry_eq]
  generalize (lg_sl ([.ref h0, .int (nI a)]) ++ List.replicate (6 - (lg_sl ([.ref h0, .int (nI a)])).length) Slot.unset).toArray = ls at hl ⊢
  have hl : lv_has ls 6 [(0, .ref h0), (1, .int (nI a))] := hl
  have h2n := p2_le hn
  have h20 := p2_le20 ho
  have hxl : ∀ q, ext r q o < 2 ^ 31 := fun q => Nat.lt_of_lt_of_le (ext_lt r q o) (by omega)
  have hpw : ∀ k, k < n → 2 ^ k < 2 ^ 31 := fun k hk => Nat.lt_of_lt_of_le (Nat.pow_lt_pow_right (by decide) hk) (by omega)
  refine lv_iload_n hx hb dX8_needed_0 rfl (lv_at hl 1 rfl) ?_
  refine lv_iconst (v := 0) hx hb dX8_needed_1 (by decide) ?_
  refine lv_aload_n hx hb dX8_needed_2 rfl (lv_at hl 0 rfl) ?_
  refine va_get (D := D) (ci := 7) (v := .int (nI n)) (C := RX8) (T := TX8) (N := 18) hx hb hts (by decide +kernel) hown hK hP 0 rfl rfl 0 (by decide) (hts (.fieldLink RX8 7 "ConceptTableModel" "n" "I") (by decide +kernel)) (fun _ h9 => h9) f0 dX8_needed_3 ?_
  refine lv_iconst (v := 1) hx hb dX8_needed_6 (by decide) ?_
  refine lv_isub hx hb dX8_needed_7 ?_
  refine lv_re (y := (nI (n - 1))) (pk_sub (a := n) (b := 1) (by omega)) ?_
  refine rd_S (As := [.int (nI a), .int (0 : Int32), .int (nI (n - 1))]) (rest := []) ⟨hx, hb, hml, hown, hts⟩ (c_X8_in l D (nI a) (0 : Int32) (nI (n - 1)) ) (va_cwS 3 hts gX8_needed_X8_in rfl rfl rfl (by decide +kernel) ⟨Nat.le_of_ble_eq_true rfl, Nat.le_of_ble_eq_true rfl⟩) (hP.sub (ws' := []) [] rfl) (hK.sub (tys' := []) [] rfl) rfl rfl hl.1 rfl (lv_room (Nat.le_of_ble_eq_true rfl)) dX8_needed_8 ⟨Nat.le_of_ble_eq_true rfl, Nat.le_of_ble_eq_true rfl⟩ ?_
  refine lv_if_ne (tgt := 17) hx hb dX8_needed_11 (by decide) (fun c_11 => ?_) (fun c_11 => ?_)
  · have c_11 := b2_n0.mp c_11
    refine lv_aload_n hx hb dX8_needed_17 rfl (lv_at hl 0 rfl) ?_
    refine lv_iconst (v := 1) hx hb dX8_needed_18 (by decide) ?_
    refine lv_iload_n hx hb dX8_needed_19 rfl (lv_at hl 1 rfl) ?_
    refine lv_ishl hx hb dX8_needed_20 ?_
    refine lv_re (y := (nI (2 ^ a))) (nx_sh1 (k := a) (by omega)) ?_
    refine rd_V (As := [.int (nI (2 ^ a))]) (rest := []) ⟨hx, hb, hml, hown, hts⟩ (c_X8_extentOf l D h0 fs h2 cI o r (2 ^ a) f1 f2 ho (hpw a ha)) (cwV 1 hts gX8_needed_X8_extentOf rfl rfl rfl (by decide +kernel) ⟨Nat.le_of_ble_eq_true rfl, Nat.le_of_ble_eq_true rfl⟩) (hP.sub (ws' := [(h0, .inr (7, fs)), (h2, .inl (cI, 20, .inl (fun i_ => nI (r i_))))]) [0, 1] rfl) (hK.sub (tys' := [(cI, .int)]) [0] rfl) (va_recv hK hP (ci := 7) (q0 := 0) rfl rfl) rfl rfl hl.1 rfl (lv_room (Nat.le_of_ble_eq_true rfl)) dX8_needed_21 ⟨Nat.le_of_ble_eq_true rfl, Nat.le_of_ble_eq_true rfl⟩ ?_
    refine lv_istore_n (lv' := [(2, .int (nI (ext r (2 ^ a) o))), (0, .ref h0), (1, .int (nI a))]) hx hb dX8_needed_24 rfl hl (by decide) rfl (fun ls hl => ?_)
    refine lv_iconst (v := 0) hx hb dX8_needed_25 (by decide) ?_
    refine lv_istore_n (lv' := [(3, .int (0 : Int32)), (2, .int (nI (ext r (2 ^ a) o))), (0, .ref h0), (1, .int (nI a))]) hx hb dX8_needed_26 rfl hl (by decide) rfl (fun ls hl => ?_)
    refine lv_iconst (v := 0) hx hb dX8_needed_27 (by decide) ?_
    refine lv_istore (lv' := [(4, .int (0 : Int32)), (3, .int (0 : Int32)), (2, .int (nI (ext r (2 ^ a) o))), (0, .ref h0), (1, .int (nI a))]) hx hb dX8_needed_28 hl (by decide) rfl (fun ls hl => ?_)
    have lp_30 : ∀ (n_ : Nat) (k : Nat), n - k < n_ → (k ≤ n) → ∀ (x4 : Int32), x4 = nI k → ∀ (x3 : Int32), x3 = nI (nda r o (ext r (2 ^ a) o) k) → ∀ (ls : Array Slot), lv_has ls 6 [(4, .int x4), (3, .int x3), (2, .int (nI (ext r (2 ^ a) o))), (0, .ref h0), (1, .int (nI a))] → W p l e (headSpec wsX8_needed ({ frames := 2, cells := 0, slots := 0, locals := 44 })).room s m ([.ref h0, .int (nI a)] : List Value).toArray below meth c s.heap [] 0 0 (MQ below (QcRead (b2 (decide (¬ ext r (nda r o (ext r (2 ^ a) o) n) o = ext r (2 ^ a) o)))) ([.ref h0, .int (nI a)] : List Value).toArray s 0 0 (fun _ => False)) (F0 m 30 ls []) := by
      intro n_
      induction n_ with
      | zero => intro k h0_; exact absurd h0_ (Nat.not_lt_zero _)
      | succ n_ ih_30 =>
        intro k hm_30 hk x4 e_x4 x3 e_x3 ls hl
        subst e_x4
        subst e_x3
        refine lv_iload hx hb dX8_needed_30 (lv_at hl 0 rfl) ?_
        refine lv_aload_n hx hb dX8_needed_32 rfl (lv_at hl 3 rfl) ?_
        refine va_get (D := D) (ci := 7) (v := .int (nI n)) (C := RX8) (T := TX8) (N := 18) hx hb hts (by decide +kernel) hown hK hP 0 rfl rfl 0 (by decide) (hts (.fieldLink RX8 7 "ConceptTableModel" "n" "I") (by decide +kernel)) (fun _ h9 => h9) f0 dX8_needed_33 ?_
        refine lv_icmp_ge (tgt := 81) hx hb dX8_needed_36 (by decide) (fun c_36 => ?_) (fun c_36 => ?_)
        · have c_36 : n ≤ k := (nI_leI (a := n) (b := k) (by omega) (by omega)).mp c_36
          have hkn : k = n := by omega
          refine lv_aload_n hx hb dX8_needed_81 rfl (lv_at hl 3 rfl) ?_
          refine lv_iload_n hx hb dX8_needed_82 rfl (lv_at hl 1 rfl) ?_
          refine rd_V (As := [.int (nI (nda r o (ext r (2 ^ a) o) k))]) (rest := []) ⟨hx, hb, hml, hown, hts⟩ (c_X8_extentOf l D h0 fs h2 cI o r (nda r o (ext r (2 ^ a) o) k) f1 f2 ho (by rw [show k = n by omega]; exact Nat.lt_of_lt_of_le (nda_lt _ _ _ _) (by omega))) (cwV 1 hts gX8_needed_X8_extentOf rfl rfl rfl (by decide +kernel) ⟨Nat.le_of_ble_eq_true rfl, Nat.le_of_ble_eq_true rfl⟩) (hP.sub (ws' := [(h0, .inr (7, fs)), (h2, .inl (cI, 20, .inl (fun i_ => nI (r i_))))]) [0, 1] rfl) (hK.sub (tys' := [(cI, .int)]) [0] rfl) (va_recv hK hP (ci := 7) (q0 := 0) rfl rfl) rfl rfl hl.1 rfl (lv_room (Nat.le_of_ble_eq_true rfl)) dX8_needed_83 ⟨Nat.le_of_ble_eq_true rfl, Nat.le_of_ble_eq_true rfl⟩ ?_
          refine lv_iload_n hx hb dX8_needed_86 rfl (lv_at hl 2 rfl) ?_
          refine lv_icmp_ne (tgt := 94) hx hb dX8_needed_87 (by decide) (fun c_87 => ?_) (fun c_87 => ?_)
          · have c_87 : ¬ (ext r (nda r o (ext r (2 ^ a) o) k) o) = (ext r (2 ^ a) o) := fun h_ => c_87 ((nI_eq (a := (ext r (nda r o (ext r (2 ^ a) o) k) o)) (b := (ext r (2 ^ a) o)) (hxl _) (hxl _)).mpr h_)
            refine lv_iconst (v := 1) hx hb dX8_needed_94 (by decide) ?_
            have e_ret : (1 : Int32) = (b2 (decide (¬ ext r (nda r o (ext r (2 ^ a) o) n) o = ext r (2 ^ a) o))) := by rw [hkn] at c_87; rw [decide_eq_true c_87]; rfl
            exact W.iret (v := (1 : Int32)) hx hb hr (fun t ht hW => ⟨congrArg (fun z_ => Outcome.returned (some (Value.int z_))) e_ret, ht⟩) (fun q h => by cases h) dX8_needed_95
          · have c_87 : (ext r (nda r o (ext r (2 ^ a) o) k) o) = (ext r (2 ^ a) o) := (nI_eq (a := (ext r (nda r o (ext r (2 ^ a) o) k) o)) (b := (ext r (2 ^ a) o)) (hxl _) (hxl _)).mp c_87
            refine lv_iconst (v := 0) hx hb dX8_needed_90 (by decide) ?_
            refine lv_goto (tgt := 95) hx hb dX8_needed_91 (by decide) ?_
            have e_ret : (0 : Int32) = (b2 (decide (¬ ext r (nda r o (ext r (2 ^ a) o) n) o = ext r (2 ^ a) o))) := by rw [hkn] at c_87; rw [decide_eq_false (fun z => z c_87)]; rfl
            exact W.iret (v := (0 : Int32)) hx hb hr (fun t ht hW => ⟨congrArg (fun z_ => Outcome.returned (some (Value.int z_))) e_ret, ht⟩) (fun q h => by cases h) dX8_needed_95
        · have c_36 : k < n := Nat.lt_of_not_le (fun h_ => c_36 ((nI_leI (a := n) (b := k) (by omega) (by omega)).mpr h_))
          refine lv_aload_n hx hb dX8_needed_39 rfl (lv_at hl 3 rfl) ?_
          refine lv_iconst (v := 1) hx hb dX8_needed_40 (by decide) ?_
          refine lv_iload hx hb dX8_needed_41 (lv_at hl 0 rfl) ?_
          refine lv_ishl hx hb dX8_needed_43 ?_
          refine lv_re (y := (nI (2 ^ k))) (nx_sh1 (k := k) (by omega)) ?_
          refine rd_V (As := [.int (nI (2 ^ k))]) (rest := []) ⟨hx, hb, hml, hown, hts⟩ (c_X8_extentOf l D h0 fs h2 cI o r (2 ^ k) f1 f2 ho (hpw k (by omega))) (cwV 1 hts gX8_needed_X8_extentOf rfl rfl rfl (by decide +kernel) ⟨Nat.le_of_ble_eq_true rfl, Nat.le_of_ble_eq_true rfl⟩) (hP.sub (ws' := [(h0, .inr (7, fs)), (h2, .inl (cI, 20, .inl (fun i_ => nI (r i_))))]) [0, 1] rfl) (hK.sub (tys' := [(cI, .int)]) [0] rfl) (va_recv hK hP (ci := 7) (q0 := 0) rfl rfl) rfl rfl hl.1 rfl (lv_room (Nat.le_of_ble_eq_true rfl)) dX8_needed_44 ⟨Nat.le_of_ble_eq_true rfl, Nat.le_of_ble_eq_true rfl⟩ ?_
          refine lv_istore (lv' := [(5, .int (nI (ext r (2 ^ k) o))), (4, .int (nI k)), (3, .int (nI (nda r o (ext r (2 ^ a) o) k))), (2, .int (nI (ext r (2 ^ a) o))), (0, .ref h0), (1, .int (nI a))]) hx hb dX8_needed_47 hl (by decide) rfl (fun ls hl => ?_)
          refine lv_iload hx hb dX8_needed_49 (lv_at hl 0 rfl) ?_
          refine lv_iload_n hx hb dX8_needed_51 rfl (lv_at hl 3 rfl) ?_
          refine lv_icmp_eq (tgt := 73) hx hb dX8_needed_52 (by decide) (fun c_52 => ?_) (fun c_52 => ?_)
          · have c_52 : (ext r (2 ^ k) o) = (ext r (2 ^ a) o) := (nI_eq (a := (ext r (2 ^ k) o)) (b := (ext r (2 ^ a) o)) (hxl _) (hxl _)).mp c_52
            refine lv_iload_n hx hb dX8_needed_73 rfl (lv_at hl 2 rfl) ?_
            refine lv_istore_n (lv' := [(3, .int (nI (nda r o (ext r (2 ^ a) o) k))), (5, .int (nI (ext r (2 ^ k) o))), (4, .int (nI k)), (2, .int (nI (ext r (2 ^ a) o))), (0, .ref h0), (1, .int (nI a))]) hx hb dX8_needed_74 rfl hl (by decide) rfl (fun ls hl => ?_)
            refine lv_iinc (v := (nI (k + 1))) (lv' := [(4, .int (nI (k + 1))), (3, .int (nI (nda r o (ext r (2 ^ a) o) k))), (5, .int (nI (ext r (2 ^ k) o))), (2, .int (nI (ext r (2 ^ a) o))), (0, .ref h0), (1, .int (nI a))]) hx hb dX8_needed_75 hl (k := 2) rfl (nI_add _ 1) (by decide) rfl (fun ls hl => ?_)
            refine lv_goto (tgt := 30) hx hb dX8_needed_78 (by decide) ?_
            exact ih_30 (k + 1) (by omega) (by omega) _ rfl _ (by rw [nda, if_neg (fun z => z.1 c_52)]) _ (lv_sub hl [0, 1, 3, 4, 5] rfl)
          · have c_52 : ¬ (ext r (2 ^ k) o) = (ext r (2 ^ a) o) := fun h_ => c_52 ((nI_eq (a := (ext r (2 ^ k) o)) (b := (ext r (2 ^ a) o)) (hxl _) (hxl _)).mpr h_)
            refine lv_iload_n hx hb dX8_needed_55 rfl (lv_at hl 3 rfl) ?_
            refine lv_iload hx hb dX8_needed_56 (lv_at hl 0 rfl) ?_
            refine rd_S (As := [.int (nI (ext r (2 ^ a) o)), .int (nI (ext r (2 ^ k) o))]) (rest := []) ⟨hx, hb, hml, hown, hts⟩ (c_X8_isPart_N l D (ext r (2 ^ a) o) (ext r (2 ^ k) o) (hxl _)) (va_cwS 2 hts gX8_needed_X8_isPart rfl rfl rfl (by decide +kernel) ⟨Nat.le_of_ble_eq_true rfl, Nat.le_of_ble_eq_true rfl⟩) (hP.sub (ws' := []) [] rfl) (hK.sub (tys' := []) [] rfl) rfl rfl hl.1 rfl (lv_room (Nat.le_of_ble_eq_true rfl)) dX8_needed_58 ⟨Nat.le_of_ble_eq_true rfl, Nat.le_of_ble_eq_true rfl⟩ ?_
            refine lv_if_eq (tgt := 73) hx hb dX8_needed_61 (by decide) (fun c_61 => ?_) (fun c_61 => ?_)
            · have c_61 := b2_0.mp c_61
              refine lv_iload_n hx hb dX8_needed_73 rfl (lv_at hl 2 rfl) ?_
              refine lv_istore_n (lv' := [(3, .int (nI (nda r o (ext r (2 ^ a) o) k))), (5, .int (nI (ext r (2 ^ k) o))), (4, .int (nI k)), (2, .int (nI (ext r (2 ^ a) o))), (0, .ref h0), (1, .int (nI a))]) hx hb dX8_needed_74 rfl hl (by decide) rfl (fun ls hl => ?_)
              refine lv_iinc (v := (nI (k + 1))) (lv' := [(4, .int (nI (k + 1))), (3, .int (nI (nda r o (ext r (2 ^ a) o) k))), (5, .int (nI (ext r (2 ^ k) o))), (2, .int (nI (ext r (2 ^ a) o))), (0, .ref h0), (1, .int (nI a))]) hx hb dX8_needed_75 hl (k := 2) rfl (nI_add _ 1) (by decide) rfl (fun ls hl => ?_)
              refine lv_goto (tgt := 30) hx hb dX8_needed_78 (by decide) ?_
              exact ih_30 (k + 1) (by omega) (by omega) _ rfl _ (by rw [nda, if_neg (fun z => Bool.noConfusion (c_61.symm.trans z.2))]) _ (lv_sub hl [0, 1, 3, 4, 5] rfl)
            · have c_61 := b2_n0.mp c_61
              refine lv_iload_n hx hb dX8_needed_64 rfl (lv_at hl 2 rfl) ?_
              refine lv_iconst (v := 1) hx hb dX8_needed_65 (by decide) ?_
              refine lv_iload hx hb dX8_needed_66 (lv_at hl 1 rfl) ?_
              refine lv_ishl hx hb dX8_needed_68 ?_
              refine lv_re (y := (nI (2 ^ k))) (nx_sh1 (k := k) (by omega)) ?_
              refine lv_ior hx hb dX8_needed_69 ?_
              refine lv_re (y := (nI ((nda r o (ext r (2 ^ a) o) k) ||| (2 ^ k)))) (nx_or (nda r o (ext r (2 ^ a) o) k) (2 ^ k)) ?_
              refine lv_goto (tgt := 74) hx hb dX8_needed_70 (by decide) ?_
              refine lv_istore_n (lv' := [(3, .int (nI ((nda r o (ext r (2 ^ a) o) k) ||| (2 ^ k)))), (5, .int (nI (ext r (2 ^ k) o))), (4, .int (nI k)), (2, .int (nI (ext r (2 ^ a) o))), (0, .ref h0), (1, .int (nI a))]) hx hb dX8_needed_74 rfl hl (by decide) rfl (fun ls hl => ?_)
              refine lv_iinc (v := (nI (k + 1))) (lv' := [(4, .int (nI (k + 1))), (3, .int (nI ((nda r o (ext r (2 ^ a) o) k) ||| (2 ^ k)))), (5, .int (nI (ext r (2 ^ k) o))), (2, .int (nI (ext r (2 ^ a) o))), (0, .ref h0), (1, .int (nI a))]) hx hb dX8_needed_75 hl (k := 2) rfl (nI_add _ 1) (by decide) rfl (fun ls hl => ?_)
              refine lv_goto (tgt := 30) hx hb dX8_needed_78 (by decide) ?_
              exact ih_30 (k + 1) (by omega) (by omega) _ rfl _ (by rw [nda, if_pos ⟨c_52, c_61⟩]) _ (lv_sub hl [0, 1, 3, 4, 5] rfl)
    exact lp_30 _ 0 (Nat.lt_succ_self _) (Nat.zero_le _) _ rfl _ rfl _ (lv_sub hl [0, 1, 2, 3, 4] rfl)
  · have c_11 := b2_0.mp c_11
    exact Bool.noConfusion ((in_t (lo := 0) (hi := n - 1) (Nat.zero_le _) (by omega) (by omega)).symm.trans c_11)

set_option maxHeartbeats 4000000 in
set_option maxRecDepth 100000 in
theorem c_X8_neededObject_bad (l : Launch) (D : va_G) (h0 : Nat) (fs : List Value) (h2 : Nat) (cI : ClassId) (n : Nat) (o : Nat) (r : Nat → Nat) (x : Int32) (f0 : fs[0]? = some (.int (nI n))) (f1 : fs[1]? = some (.int (nI o))) (f2 : fs[2]? = some (.ref h2)) (hb_ : (decide (¬ x < 0) && decide (¬ (nI o - (1 : Int32)) < x)) = false) : Met l yX8_neededObject wsX8_neededObject ({ frames := 1, cells := 0, slots := 0, locals := 22 }) (va_Pc [.ref h0, .int x] (fun U => va_P D vwCl [(h0, .inr (7, fs)), (h2, .inl (cI, 20, .inl (fun i_ => nI (r i_))))] U.heap ∧ va_K D vwCl [(cI, .int)] U)) (QcRead (-2)) 0 0 (fun _ => False) := by
  refine Met.ofW (cc := cX8_neededObject) (maxL := 5) (ret := (some .int)) (by decide) rfl ?_
  intro p e s m args below meth c s₁ B hml hv
  obtain ⟨rfl, hP, hK⟩ := hv
  have hx := B.exec
  have hb := B.bytes
  have hr := B.returns
  have hts := atoms_spec (ws := wsX8_neededObject) B.pre
  have hown : s.vm.findClass RX8 = some m.cls := findClass_of_methodNamed B.named
  have hlocks := B.notSynchronized
  have hl := lv_entry ([.ref h0, .int x]) (n := 5) (Nat.le_of_ble_eq_true rfl)
  rw [lg_entry_eq]
  generalize (lg_sl ([.ref h0, .int x]) ++ List.replicate (5 - (lg_sl ([.ref h0, .int x])).length) Slot.unset).toArray = ls at hl ⊢
  have hl : lv_has ls 5 [(0, .ref h0), (1, .int x)] := hl
  refine lv_iload_n hx hb dX8_neededObject_0 rfl (lv_at hl 1 rfl) ?_
  refine lv_iconst (v := 0) hx hb dX8_neededObject_1 (by decide) ?_
  refine lv_aload_n hx hb dX8_neededObject_2 rfl (lv_at hl 0 rfl) ?_
  refine va_get (D := D) (ci := 7) (v := .int (nI o)) (C := RX8) (T := TX8) (N := 18) hx hb hts (by decide +kernel) hown hK hP 0 rfl rfl 1 (by decide) (hts (.fieldLink RX8 67 "ConceptTableModel" "objects" "I") (by decide +kernel)) (fun _ h9 => h9) f1 dX8_neededObject_3 ?_
  refine lv_iconst (v := 1) hx hb dX8_neededObject_6 (by decide) ?_
  refine lv_isub hx hb dX8_neededObject_7 ?_
  refine rd_S (As := [.int x, .int (0 : Int32), .int ((nI o) - (1 : Int32))]) (rest := []) ⟨hx, hb, hml, hown, hts⟩ (c_X8_in l D x (0 : Int32) ((nI o) - (1 : Int32)) ) (va_cwS 3 hts gX8_neededObject_X8_in rfl rfl rfl (by decide +kernel) ⟨Nat.le_of_ble_eq_true rfl, Nat.le_of_ble_eq_true rfl⟩) (hP.sub (ws' := []) [] rfl) (hK.sub (tys' := []) [] rfl) rfl rfl hl.1 rfl (lv_room (Nat.le_of_ble_eq_true rfl)) dX8_neededObject_8 ⟨Nat.le_of_ble_eq_true rfl, Nat.le_of_ble_eq_true rfl⟩ ?_
  refine lv_if_ne (tgt := 17) hx hb dX8_neededObject_11 (by decide) (fun c_11 => ?_) (fun c_11 => ?_)
  · have c_11 := b2_n0.mp c_11
    exact Bool.noConfusion (hb_.symm.trans c_11)
  · have c_11 := b2_0.mp c_11
    refine lv_bipush (v := -2) hx hb dX8_neededObject_14 (by decide) ?_
    have e_ret : (-2 : Int32) = (-2) := by rfl
    exact W.iret (v := (-2 : Int32)) hx hb hr (fun t ht hW => ⟨congrArg (fun z_ => Outcome.returned (some (Value.int z_))) e_ret, ht⟩) (fun q h => by cases h) dX8_neededObject_16

set_option maxHeartbeats 4000000 in
set_option maxRecDepth 100000 in
theorem c_X8_neededObject_ok (l : Launch) (D : va_G) (h0 : Nat) (fs : List Value) (h2 : Nat) (cI : ClassId) (n : Nat) (o : Nat) (r : Nat → Nat) (j : Nat) (f0 : fs[0]? = some (.int (nI n))) (f1 : fs[1]? = some (.int (nI o))) (f2 : fs[2]? = some (.ref h2)) (hn : n ≤ 12) (ho : o ≤ 20) (hr_ : ∀ i, r i < 4096) (hj : j < o) : Met l yX8_neededObject wsX8_neededObject ({ frames := 2, cells := 0, slots := 0, locals := 43 }) (va_Pc [.ref h0, .int (nI j)] (fun U => va_P D vwCl [(h0, .inr (7, fs)), (h2, .inl (cI, 20, .inl (fun i_ => nI (r i_))))] U.heap ∧ va_K D vwCl [(cI, .int)] U)) (QcRead (b2 (decide (¬ com r n (ndo r (r j) o) o = r j)))) 0 0 (fun _ => False) := by
  refine Met.ofW (cc := cX8_neededObject) (maxL := 5) (ret := (some .int)) (by decide) rfl ?_
  intro p e s m args below meth c s₁ B hml hv
  obtain ⟨rfl, hP, hK⟩ := hv
  have hx := B.exec
  have hb := B.bytes
  have hr := B.returns
  have hts := atoms_spec (ws := wsX8_neededObject) B.pre
  have hown : s.vm.findClass RX8 = some m.cls := findClass_of_methodNamed B.named
  have hlocks := B.notSynchronized
  have hl := lv_entry ([.ref h0, .int (nI j)]) (n := 5) (Nat.le_of_ble_eq_true rfl)
  rw [lg_entry_eq]
  generalize (lg_sl ([.ref h0, .int (nI j)]) ++ List.replicate (5 - (lg_sl ([.ref h0, .int (nI j)])).length) Slot.unset).toArray = ls at hl ⊢
  have hl : lv_has ls 5 [(0, .ref h0), (1, .int (nI j))] := hl
  have h2n := p2_le hn
  have h20 := p2_le20 ho
  have hrl : ∀ i, r i < 2 ^ 31 := fun i => Nat.lt_trans (hr_ i) (by decide)
  have hcl : ∀ q, com r n q o < 2 ^ 31 := fun q => Nat.lt_of_lt_of_le (com_lt r n q o) (by omega)
  refine lv_iload_n hx hb dX8_neededObject_0 rfl (lv_at hl 1 rfl) ?_
  refine lv_iconst (v := 0) hx hb dX8_neededObject_1 (by decide) ?_
  refine lv_aload_n hx hb dX8_neededObject_2 rfl (lv_at hl 0 rfl) ?_
  refine va_get (D := D) (ci := 7) (v := .int (nI o)) (C := RX8) (T := TX8) (N := 18) hx hb hts (by decide +kernel) hown hK hP 0 rfl rfl 1 (by decide) (hts (.fieldLink RX8 67 "ConceptTableModel" "objects" "I") (by decide +kernel)) (fun _ h9 => h9) f1 dX8_neededObject_3 ?_
  refine lv_iconst (v := 1) hx hb dX8_neededObject_6 (by decide) ?_
  refine lv_isub hx hb dX8_neededObject_7 ?_
  refine lv_re (y := (nI (o - 1))) (pk_sub (a := o) (b := 1) (by omega)) ?_
  refine rd_S (As := [.int (nI j), .int (0 : Int32), .int (nI (o - 1))]) (rest := []) ⟨hx, hb, hml, hown, hts⟩ (c_X8_in l D (nI j) (0 : Int32) (nI (o - 1)) ) (va_cwS 3 hts gX8_neededObject_X8_in rfl rfl rfl (by decide +kernel) ⟨Nat.le_of_ble_eq_true rfl, Nat.le_of_ble_eq_true rfl⟩) (hP.sub (ws' := []) [] rfl) (hK.sub (tys' := []) [] rfl) rfl rfl hl.1 rfl (lv_room (Nat.le_of_ble_eq_true rfl)) dX8_neededObject_8 ⟨Nat.le_of_ble_eq_true rfl, Nat.le_of_ble_eq_true rfl⟩ ?_
  refine lv_if_ne (tgt := 17) hx hb dX8_neededObject_11 (by decide) (fun c_11 => ?_) (fun c_11 => ?_)
  · have c_11 := b2_n0.mp c_11
    refine lv_aload_n hx hb dX8_neededObject_17 rfl (lv_at hl 0 rfl) ?_
    refine va_get (D := D) (ci := 7) (v := .ref h2) (C := RX8) (T := TX8) (N := 18) hx hb hts (by decide +kernel) hown hK hP 0 rfl rfl 2 (by decide) (hts (.fieldLink RX8 13 "ConceptTableModel" "rows" "[I") (by decide +kernel)) (fun _ h9 => h9) f2 dX8_neededObject_18 ?_
    refine lv_iload_n hx hb dX8_neededObject_21 rfl (lv_at hl 1 rfl) ?_
    refine va_iald hx hb hK hP 1 0 rfl rfl (vp_in_nI (by omega) (by omega)) dX8_neededObject_22 ?_
    refine lv_re (y := (nI (r j))) (by rw [nI_clamp (by omega)]) ?_
    refine lv_istore_n (lv' := [(2, .int (nI (r j))), (0, .ref h0), (1, .int (nI j))]) hx hb dX8_neededObject_23 rfl hl (by decide) rfl (fun ls hl => ?_)
    refine lv_iconst (v := 0) hx hb dX8_neededObject_24 (by decide) ?_
    refine lv_istore_n (lv' := [(3, .int (0 : Int32)), (2, .int (nI (r j))), (0, .ref h0), (1, .int (nI j))]) hx hb dX8_neededObject_25 rfl hl (by decide) rfl (fun ls hl => ?_)
    refine lv_iconst (v := 0) hx hb dX8_neededObject_26 (by decide) ?_
    refine lv_istore (lv' := [(4, .int (0 : Int32)), (3, .int (0 : Int32)), (2, .int (nI (r j))), (0, .ref h0), (1, .int (nI j))]) hx hb dX8_neededObject_27 hl (by decide) rfl (fun ls hl => ?_)
    have lp_29 : ∀ (n_ : Nat) (k : Nat), o - k < n_ → (k ≤ o) → ∀ (x4 : Int32), x4 = nI k → ∀ (x3 : Int32), x3 = nI (ndo r (r j) k) → ∀ (ls : Array Slot), lv_has ls 5 [(4, .int x4), (3, .int x3), (2, .int (nI (r j))), (0, .ref h0), (1, .int (nI j))] → W p l e (headSpec wsX8_neededObject ({ frames := 2, cells := 0, slots := 0, locals := 43 })).room s m ([.ref h0, .int (nI j)] : List Value).toArray below meth c s.heap [] 0 0 (MQ below (QcRead (b2 (decide (¬ com r n (ndo r (r j) o) o = r j)))) ([.ref h0, .int (nI j)] : List Value).toArray s 0 0 (fun _ => False)) (F0 m 29 ls []) := by
      intro n_
      induction n_ with
      | zero => intro k h0_; exact absurd h0_ (Nat.not_lt_zero _)
      | succ n_ ih_29 =>
        intro k hm_29 hk x4 e_x4 x3 e_x3 ls hl
        subst e_x4
        subst e_x3
        refine lv_iload hx hb dX8_neededObject_29 (lv_at hl 0 rfl) ?_
        refine lv_aload_n hx hb dX8_neededObject_31 rfl (lv_at hl 3 rfl) ?_
        refine va_get (D := D) (ci := 7) (v := .int (nI o)) (C := RX8) (T := TX8) (N := 18) hx hb hts (by decide +kernel) hown hK hP 0 rfl rfl 1 (by decide) (hts (.fieldLink RX8 67 "ConceptTableModel" "objects" "I") (by decide +kernel)) (fun _ h9 => h9) f1 dX8_neededObject_32 ?_
        refine lv_icmp_ge (tgt := 80) hx hb dX8_neededObject_35 (by decide) (fun c_35 => ?_) (fun c_35 => ?_)
        · have c_35 : o ≤ k := (nI_leI (a := o) (b := k) (by omega) (by omega)).mp c_35
          have hkn : k = o := by omega
          refine lv_aload_n hx hb dX8_neededObject_80 rfl (lv_at hl 3 rfl) ?_
          refine lv_iload_n hx hb dX8_neededObject_81 rfl (lv_at hl 1 rfl) ?_
          refine rd_V (As := [.int (nI (ndo r (r j) k))]) (rest := []) ⟨hx, hb, hml, hown, hts⟩ (c_X8_commonOf l D h0 fs h2 cI n o r (ndo r (r j) k) f0 f1 f2 hn ho (by rw [show k = o by omega]; exact Nat.lt_of_lt_of_le (ndo_lt _ _ _) (by omega))) (cwV 1 hts gX8_neededObject_X8_commonOf rfl rfl rfl (by decide +kernel) ⟨Nat.le_of_ble_eq_true rfl, Nat.le_of_ble_eq_true rfl⟩) (hP.sub (ws' := [(h0, .inr (7, fs)), (h2, .inl (cI, 20, .inl (fun i_ => nI (r i_))))]) [0, 1] rfl) (hK.sub (tys' := [(cI, .int)]) [0] rfl) (va_recv hK hP (ci := 7) (q0 := 0) rfl rfl) rfl rfl hl.1 rfl (lv_room (Nat.le_of_ble_eq_true rfl)) dX8_neededObject_82 ⟨Nat.le_of_ble_eq_true rfl, Nat.le_of_ble_eq_true rfl⟩ ?_
          refine lv_iload_n hx hb dX8_neededObject_85 rfl (lv_at hl 2 rfl) ?_
          refine lv_icmp_ne (tgt := 93) hx hb dX8_neededObject_86 (by decide) (fun c_86 => ?_) (fun c_86 => ?_)
          · have c_86 : ¬ (com r n (ndo r (r j) k) o) = (r j) := fun h_ => c_86 ((nI_eq (a := (com r n (ndo r (r j) k) o)) (b := (r j)) (hcl _) (hrl _)).mpr h_)
            refine lv_iconst (v := 1) hx hb dX8_neededObject_93 (by decide) ?_
            have e_ret : (1 : Int32) = (b2 (decide (¬ com r n (ndo r (r j) o) o = r j))) := by rw [hkn] at c_86; rw [decide_eq_true c_86]; rfl
            exact W.iret (v := (1 : Int32)) hx hb hr (fun t ht hW => ⟨congrArg (fun z_ => Outcome.returned (some (Value.int z_))) e_ret, ht⟩) (fun q h => by cases h) dX8_neededObject_94
          · have c_86 : (com r n (ndo r (r j) k) o) = (r j) := (nI_eq (a := (com r n (ndo r (r j) k) o)) (b := (r j)) (hcl _) (hrl _)).mp c_86
            refine lv_iconst (v := 0) hx hb dX8_neededObject_89 (by decide) ?_
            refine lv_goto (tgt := 94) hx hb dX8_neededObject_90 (by decide) ?_
            have e_ret : (0 : Int32) = (b2 (decide (¬ com r n (ndo r (r j) o) o = r j))) := by rw [hkn] at c_86; rw [decide_eq_false (fun z => z c_86)]; rfl
            exact W.iret (v := (0 : Int32)) hx hb hr (fun t ht hW => ⟨congrArg (fun z_ => Outcome.returned (some (Value.int z_))) e_ret, ht⟩) (fun q h => by cases h) dX8_neededObject_94
        · have c_35 : k < o := Nat.lt_of_not_le (fun h_ => c_35 ((nI_leI (a := o) (b := k) (by omega) (by omega)).mpr h_))
          refine lv_aload_n hx hb dX8_neededObject_38 rfl (lv_at hl 3 rfl) ?_
          refine va_get (D := D) (ci := 7) (v := .ref h2) (C := RX8) (T := TX8) (N := 18) hx hb hts (by decide +kernel) hown hK hP 0 rfl rfl 2 (by decide) (hts (.fieldLink RX8 13 "ConceptTableModel" "rows" "[I") (by decide +kernel)) (fun _ h9 => h9) f2 dX8_neededObject_39 ?_
          refine lv_iload hx hb dX8_neededObject_42 (lv_at hl 0 rfl) ?_
          refine va_iald hx hb hK hP 1 0 rfl rfl (vp_in_nI (by omega) (by omega)) dX8_neededObject_44 ?_
          refine lv_re (y := (nI (r k))) (by rw [nI_clamp (by omega)]) ?_
          refine lv_iload_n hx hb dX8_neededObject_45 rfl (lv_at hl 2 rfl) ?_
          refine lv_icmp_eq (tgt := 72) hx hb dX8_neededObject_46 (by decide) (fun c_46 => ?_) (fun c_46 => ?_)
          · have c_46 : (r k) = (r j) := (nI_eq (a := (r k)) (b := (r j)) (hrl _) (hrl _)).mp c_46
            refine lv_iload_n hx hb dX8_neededObject_72 rfl (lv_at hl 1 rfl) ?_
            refine lv_istore_n (lv' := [(3, .int (nI (ndo r (r j) k))), (4, .int (nI k)), (2, .int (nI (r j))), (0, .ref h0), (1, .int (nI j))]) hx hb dX8_neededObject_73 rfl hl (by decide) rfl (fun ls hl => ?_)
            refine lv_iinc (v := (nI (k + 1))) (lv' := [(4, .int (nI (k + 1))), (3, .int (nI (ndo r (r j) k))), (2, .int (nI (r j))), (0, .ref h0), (1, .int (nI j))]) hx hb dX8_neededObject_74 hl (k := 1) rfl (nI_add _ 1) (by decide) rfl (fun ls hl => ?_)
            refine lv_goto (tgt := 29) hx hb dX8_neededObject_77 (by decide) ?_
            exact ih_29 (k + 1) (by omega) (by omega) _ rfl _ (by rw [ndo, if_neg (fun z => z.1 c_46)]) _ (lv_sub hl [0, 1, 2, 3, 4] rfl)
          · have c_46 : ¬ (r k) = (r j) := fun h_ => c_46 ((nI_eq (a := (r k)) (b := (r j)) (hrl _) (hrl _)).mpr h_)
            refine lv_iload_n hx hb dX8_neededObject_49 rfl (lv_at hl 2 rfl) ?_
            refine lv_aload_n hx hb dX8_neededObject_50 rfl (lv_at hl 3 rfl) ?_
            refine va_get (D := D) (ci := 7) (v := .ref h2) (C := RX8) (T := TX8) (N := 18) hx hb hts (by decide +kernel) hown hK hP 0 rfl rfl 2 (by decide) (hts (.fieldLink RX8 13 "ConceptTableModel" "rows" "[I") (by decide +kernel)) (fun _ h9 => h9) f2 dX8_neededObject_51 ?_
            refine lv_iload hx hb dX8_neededObject_54 (lv_at hl 0 rfl) ?_
            refine va_iald hx hb hK hP 1 0 rfl rfl (vp_in_nI (by omega) (by omega)) dX8_neededObject_56 ?_
            refine lv_re (y := (nI (r k))) (by rw [nI_clamp (by omega)]) ?_
            refine rd_S (As := [.int (nI (r j)), .int (nI (r k))]) (rest := []) ⟨hx, hb, hml, hown, hts⟩ (c_X8_isPart_N l D (r j) (r k) (hrl _)) (va_cwS 2 hts gX8_neededObject_X8_isPart rfl rfl rfl (by decide +kernel) ⟨Nat.le_of_ble_eq_true rfl, Nat.le_of_ble_eq_true rfl⟩) (hP.sub (ws' := []) [] rfl) (hK.sub (tys' := []) [] rfl) rfl rfl hl.1 rfl (lv_room (Nat.le_of_ble_eq_true rfl)) dX8_neededObject_57 ⟨Nat.le_of_ble_eq_true rfl, Nat.le_of_ble_eq_true rfl⟩ ?_
            refine lv_if_eq (tgt := 72) hx hb dX8_neededObject_60 (by decide) (fun c_60 => ?_) (fun c_60 => ?_)
            · have c_60 := b2_0.mp c_60
              refine lv_iload_n hx hb dX8_neededObject_72 rfl (lv_at hl 1 rfl) ?_
              refine lv_istore_n (lv' := [(3, .int (nI (ndo r (r j) k))), (4, .int (nI k)), (2, .int (nI (r j))), (0, .ref h0), (1, .int (nI j))]) hx hb dX8_neededObject_73 rfl hl (by decide) rfl (fun ls hl => ?_)
              refine lv_iinc (v := (nI (k + 1))) (lv' := [(4, .int (nI (k + 1))), (3, .int (nI (ndo r (r j) k))), (2, .int (nI (r j))), (0, .ref h0), (1, .int (nI j))]) hx hb dX8_neededObject_74 hl (k := 1) rfl (nI_add _ 1) (by decide) rfl (fun ls hl => ?_)
              refine lv_goto (tgt := 29) hx hb dX8_neededObject_77 (by decide) ?_
              exact ih_29 (k + 1) (by omega) (by omega) _ rfl _ (by rw [ndo, if_neg (fun z => Bool.noConfusion (c_60.symm.trans z.2))]) _ (lv_sub hl [0, 1, 2, 3, 4] rfl)
            · have c_60 := b2_n0.mp c_60
              refine lv_iload_n hx hb dX8_neededObject_63 rfl (lv_at hl 1 rfl) ?_
              refine lv_iconst (v := 1) hx hb dX8_neededObject_64 (by decide) ?_
              refine lv_iload hx hb dX8_neededObject_65 (lv_at hl 0 rfl) ?_
              refine lv_ishl hx hb dX8_neededObject_67 ?_
              refine lv_re (y := (nI (2 ^ k))) (nx_sh1 (k := k) (by omega)) ?_
              refine lv_ior hx hb dX8_neededObject_68 ?_
              refine lv_re (y := (nI ((ndo r (r j) k) ||| (2 ^ k)))) (nx_or (ndo r (r j) k) (2 ^ k)) ?_
              refine lv_goto (tgt := 73) hx hb dX8_neededObject_69 (by decide) ?_
              refine lv_istore_n (lv' := [(3, .int (nI ((ndo r (r j) k) ||| (2 ^ k)))), (4, .int (nI k)), (2, .int (nI (r j))), (0, .ref h0), (1, .int (nI j))]) hx hb dX8_neededObject_73 rfl hl (by decide) rfl (fun ls hl => ?_)
              refine lv_iinc (v := (nI (k + 1))) (lv' := [(4, .int (nI (k + 1))), (3, .int (nI ((ndo r (r j) k) ||| (2 ^ k)))), (2, .int (nI (r j))), (0, .ref h0), (1, .int (nI j))]) hx hb dX8_neededObject_74 hl (k := 1) rfl (nI_add _ 1) (by decide) rfl (fun ls hl => ?_)
              refine lv_goto (tgt := 29) hx hb dX8_neededObject_77 (by decide) ?_
              exact ih_29 (k + 1) (by omega) (by omega) _ rfl _ (by rw [ndo, if_pos ⟨c_46, c_60⟩]) _ (lv_sub hl [0, 1, 2, 3, 4] rfl)
    exact lp_29 _ 0 (Nat.lt_succ_self _) (Nat.zero_le _) _ rfl _ rfl _ (lv_sub hl [0, 1, 2, 3, 4] rfl)
  · have c_11 := b2_0.mp c_11
    exact Bool.noConfusion ((in_t (lo := 0) (hi := o - 1) (Nat.zero_le _) (by omega) (by omega)).symm.trans c_11)

set_option maxHeartbeats 4000000 in
set_option maxRecDepth 100000 in
theorem c_X8_keepsAll (l : Launch) (D : va_G) (h0 : Nat) (fs : List Value) (h15 : Nat) (h16 : Nat) (cI : ClassId) (ac : Nat) (aif : Nat → Nat) (ath : Nat → Nat) (q : Nat) (f14 : fs[14]? = some (.int (nI ac))) (f15 : fs[15]? = some (.ref h15)) (f16 : fs[16]? = some (.ref h16)) (hac : ac ≤ 4096) (hai : ∀ i, aif i < 4096) (hat : ∀ i, ath i < 4096) : Met l yX8_keepsAll wsX8_keepsAll ({ frames := 1, cells := 0, slots := 0, locals := 21 }) (va_Pc [.ref h0, .int (nI q)] (fun U => va_P D vwCl [(h0, .inr (7, fs)), (h15, .inl (cI, 4096, .inl (fun i_ => nI (aif i_)))), (h16, .inl (cI, 4096, .inl (fun i_ => nI (ath i_))))] U.heap ∧ va_K D vwCl [(cI, .int)] U)) (QcRead (b2 (kpB aif ath ac q))) 0 0 (fun _ => False) := by
  refine Met.ofW (cc := cX8_keepsAll) (maxL := 3) (ret := (some .boolean)) (by decide) rfl ?_
  intro p e s m args below meth c s₁ B hml hv
  obtain ⟨rfl, hP, hK⟩ := hv
  have hx := B.exec
  have hb := B.bytes
  have hr := B.returns
  have hts := atoms_spec (ws := wsX8_keepsAll) B.pre
  have hown : s.vm.findClass RX8 = some m.cls := findClass_of_methodNamed B.named
  have hlocks := B.notSynchronized
  have hl := lv_entry ([.ref h0, .int (nI q)]) (n := 3) (Nat.le_of_ble_eq_true rfl)
  rw [lg_entry_eq]
  generalize (lg_sl ([.ref h0, .int (nI q)]) ++ List.replicate (3 - (lg_sl ([.ref h0, .int (nI q)])).length) Slot.unset).toArray = ls at hl ⊢
  have hl : lv_has ls 3 [(0, .ref h0), (1, .int (nI q))] := hl
  refine lv_iconst (v := 0) hx hb dX8_keepsAll_0 (by decide) ?_
  refine lv_istore_n (lv' := [(2, .int (0 : Int32)), (0, .ref h0), (1, .int (nI q))]) hx hb dX8_keepsAll_1 rfl hl (by decide) rfl (fun ls hl => ?_)
  have lp_2 : ∀ (n_ : Nat) (k : Nat), ac - k < n_ → (k ≤ ac) → (∀ j, j < k → sN (aif j) q = true → sN (ath j) q = true) → ∀ (x2 : Int32), x2 = nI k → ∀ (ls : Array Slot), lv_has ls 3 [(2, .int x2), (0, .ref h0), (1, .int (nI q))] → W p l e (headSpec wsX8_keepsAll ({ frames := 1, cells := 0, slots := 0, locals := 21 })).room s m ([.ref h0, .int (nI q)] : List Value).toArray below meth c s.heap [] 0 0 (MQ below (QcRead (b2 (kpB aif ath ac q))) ([.ref h0, .int (nI q)] : List Value).toArray s 0 0 (fun _ => False)) (F0 m 2 ls []) := by
    intro n_
    induction n_ with
    | zero => intro k h0_; exact absurd h0_ (Nat.not_lt_zero _)
    | succ n_ ih_2 =>
      intro k hm_2 hk hin x2 e_x2 ls hl
      subst e_x2
      refine lv_iload_n hx hb dX8_keepsAll_2 rfl (lv_at hl 0 rfl) ?_
      refine lv_aload_n hx hb dX8_keepsAll_3 rfl (lv_at hl 1 rfl) ?_
      refine va_get (D := D) (ci := 7) (v := .int (nI ac)) (C := RX8) (T := TX8) (N := 18) hx hb hts (by decide +kernel) hown hK hP 0 rfl rfl 14 (by decide) (hts (.fieldLink RX8 70 "ConceptTableModel" "accepted" "I") (by decide +kernel)) (fun _ h9 => h9) f14 dX8_keepsAll_4 ?_
      refine lv_icmp_ge (tgt := 44) hx hb dX8_keepsAll_7 (by decide) (fun c_7 => ?_) (fun c_7 => ?_)
      · have c_7 : ac ≤ k := (nI_leI (a := ac) (b := k) (by omega) (by omega)).mp c_7
        refine lv_iconst (v := 1) hx hb dX8_keepsAll_44 (by decide) ?_
        have e_ret : (1 : Int32) = (b2 (kpB aif ath ac q)) := by unfold kpB; rw [decide_eq_true (fun j hj => hin j (by omega))]; rfl
        exact W.zret (v := (1 : Int32)) hx hb hr rfl (fun t ht hW => ⟨congrArg (fun z_ => Outcome.returned (some (Value.int z_))) e_ret, ht⟩) (fun q h => by cases h) dX8_keepsAll_45
      · have c_7 : k < ac := Nat.lt_of_not_le (fun h_ => c_7 ((nI_leI (a := ac) (b := k) (by omega) (by omega)).mpr h_))
        refine lv_aload_n hx hb dX8_keepsAll_10 rfl (lv_at hl 1 rfl) ?_
        refine va_get (D := D) (ci := 7) (v := .ref h15) (C := RX8) (T := TX8) (N := 18) hx hb hts (by decide +kernel) hown hK hP 0 rfl rfl 15 (by decide) (hts (.fieldLink RX8 39 "ConceptTableModel" "askedIf" "[I") (by decide +kernel)) (fun _ h9 => h9) f15 dX8_keepsAll_11 ?_
        refine lv_iload_n hx hb dX8_keepsAll_14 rfl (lv_at hl 0 rfl) ?_
        refine va_iald hx hb hK hP 1 0 rfl rfl (vp_in_nI (by omega) (by omega)) dX8_keepsAll_15 ?_
        refine lv_re (y := (nI (aif k))) (by rw [nI_clamp (by omega)]) ?_
        refine lv_iload_n hx hb dX8_keepsAll_16 rfl (lv_at hl 2 rfl) ?_
        refine rd_S (As := [.int (nI (aif k)), .int (nI q)]) (rest := []) ⟨hx, hb, hml, hown, hts⟩ (c_X8_isPart_N l D (aif k) q (Nat.lt_trans (hai _) (by decide))) (va_cwS 2 hts gX8_keepsAll_X8_isPart rfl rfl rfl (by decide +kernel) ⟨Nat.le_of_ble_eq_true rfl, Nat.le_of_ble_eq_true rfl⟩) (hP.sub (ws' := []) [] rfl) (hK.sub (tys' := []) [] rfl) rfl rfl hl.1 rfl (lv_room (Nat.le_of_ble_eq_true rfl)) dX8_keepsAll_17 ⟨Nat.le_of_ble_eq_true rfl, Nat.le_of_ble_eq_true rfl⟩ ?_
        refine lv_if_eq (tgt := 38) hx hb dX8_keepsAll_20 (by decide) (fun c_20 => ?_) (fun c_20 => ?_)
        · have c_20 := b2_0.mp c_20
          refine lv_iinc (v := (nI (k + 1))) (lv' := [(2, .int (nI (k + 1))), (0, .ref h0), (1, .int (nI q))]) hx hb dX8_keepsAll_38 hl (k := 0) rfl (nI_add _ 1) (by decide) rfl (fun ls hl => ?_)
          refine lv_goto (tgt := 2) hx hb dX8_keepsAll_41 (by decide) ?_
          exact ih_2 (k + 1) (by omega) (by omega) (lt_s hin (fun z => Bool.noConfusion (c_20.symm.trans z))) _ rfl _ (lv_sub hl [0, 1, 2] rfl)
        · have c_20 := b2_n0.mp c_20
          refine lv_aload_n hx hb dX8_keepsAll_23 rfl (lv_at hl 1 rfl) ?_
          refine va_get (D := D) (ci := 7) (v := .ref h16) (C := RX8) (T := TX8) (N := 18) hx hb hts (by decide +kernel) hown hK hP 0 rfl rfl 16 (by decide) (hts (.fieldLink RX8 42 "ConceptTableModel" "askedThen" "[I") (by decide +kernel)) (fun _ h9 => h9) f16 dX8_keepsAll_24 ?_
          refine lv_iload_n hx hb dX8_keepsAll_27 rfl (lv_at hl 0 rfl) ?_
          refine va_iald hx hb hK hP 2 0 rfl rfl (vp_in_nI (by omega) (by omega)) dX8_keepsAll_28 ?_
          refine lv_re (y := (nI (ath k))) (by rw [nI_clamp (by omega)]) ?_
          refine lv_iload_n hx hb dX8_keepsAll_29 rfl (lv_at hl 2 rfl) ?_
          refine rd_S (As := [.int (nI (ath k)), .int (nI q)]) (rest := []) ⟨hx, hb, hml, hown, hts⟩ (c_X8_isPart_N l D (ath k) q (Nat.lt_trans (hat _) (by decide))) (va_cwS 2 hts gX8_keepsAll_X8_isPart rfl rfl rfl (by decide +kernel) ⟨Nat.le_of_ble_eq_true rfl, Nat.le_of_ble_eq_true rfl⟩) (hP.sub (ws' := []) [] rfl) (hK.sub (tys' := []) [] rfl) rfl rfl hl.1 rfl (lv_room (Nat.le_of_ble_eq_true rfl)) dX8_keepsAll_30 ⟨Nat.le_of_ble_eq_true rfl, Nat.le_of_ble_eq_true rfl⟩ ?_
          refine lv_if_ne (tgt := 38) hx hb dX8_keepsAll_33 (by decide) (fun c_33 => ?_) (fun c_33 => ?_)
          · have c_33 := b2_n0.mp c_33
            refine lv_iinc (v := (nI (k + 1))) (lv' := [(2, .int (nI (k + 1))), (0, .ref h0), (1, .int (nI q))]) hx hb dX8_keepsAll_38 hl (k := 0) rfl (nI_add _ 1) (by decide) rfl (fun ls hl => ?_)
            refine lv_goto (tgt := 2) hx hb dX8_keepsAll_41 (by decide) ?_
            exact ih_2 (k + 1) (by omega) (by omega) (lt_s hin (fun _ => c_33)) _ rfl _ (lv_sub hl [0, 1, 2] rfl)
          · have c_33 := b2_0.mp c_33
            refine lv_iconst (v := 0) hx hb dX8_keepsAll_36 (by decide) ?_
            have e_ret : (0 : Int32) = (b2 (kpB aif ath ac q)) := by unfold kpB; rw [decide_eq_false (fun h => Bool.noConfusion ((h k (by omega) c_20).symm.trans c_33))]; rfl
            exact W.zret (v := (0 : Int32)) hx hb hr rfl (fun t ht hW => ⟨congrArg (fun z_ => Outcome.returned (some (Value.int z_))) e_ret, ht⟩) (fun q h => by cases h) dX8_keepsAll_37
  exact lp_2 _ 0 (Nat.lt_succ_self _) (Nat.zero_le _) (fun j h => absurd h (Nat.not_lt_zero _)) _ rfl _ (lv_sub hl [0, 1, 2] rfl)
