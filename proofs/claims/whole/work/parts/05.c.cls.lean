set_option maxHeartbeats 4000000 in
set_option maxRecDepth 100000 in
theorem c_X3_size (l : Launch) (D : va_G) (h0 : Nat) (fs : List Value) (z : Nat) (f1 : fs[1]? = some (.int (nI z))) : Met l yX3_size wsX3_size ({ frames := 0, cells := 0, slots := 0, locals := 0 }) (va_Pc [.ref h0] (fun U => va_P D vwCl [(h0, .inr (3, fs))] U.heap ∧ va_K D vwCl [] U)) (QcRead (nI z)) 0 0 (fun _ => False) := by
  refine Met.ofW (cc := cX3_size) (maxL := 1) (ret := (some .int)) (by decide) rfl ?_
  intro p e s m args below meth c s₁ B hml hv
  obtain ⟨rfl, hP, hK⟩ := hv
  have hx := B.exec
  have hb := B.bytes
  have hr := B.returns
  have hts := atoms_spec (ws := wsX3_size) B.pre
  have hown : s.vm.findClass RX3 = some m.cls := findClass_of_methodNamed B.named
  have hlocks := B.notSynchronized
  have hl := lv_entry ([.ref h0]) (n := 1) (Nat.le_of_ble_eq_true rfl)
  rw [lg_entry_eq]
  generalize (lg_sl ([.ref h0]) ++ List.replicate (1 - (lg_sl ([.ref h0])).length) Slot.unset).toArray = ls at hl ⊢
  have hl : lv_has ls 1 [(0, .ref h0)] := hl
  refine lv_aload_n hx hb dX3_size_0 rfl (lv_at hl 0 rfl) ?_
  refine va_get (D := D) (ci := 3) (v := .int (nI z)) (C := RX3) (T := TX3) (N := 2) hx hb hts (by decide +kernel) hown hK hP 0 rfl rfl 1 (by decide) (hts (.fieldLink RX3 15 "ConceptTable$Neighbours" "size" "I") (by decide +kernel)) (fun _ h9 => h9) f1 dX3_size_1 ?_
  have e_ret : (nI z) = (nI z) := by rfl
  exact W.iret (v := (nI z)) hx hb hr (fun t ht hW => ⟨congrArg (fun z_ => Outcome.returned (some (Value.int z_))) e_ret, ht⟩) (fun q h => by cases h) dX3_size_4

set_option maxHeartbeats 4000000 in
set_option maxRecDepth 100000 in
theorem c_X3_member (l : Launch) (D : va_G) (h0 : Nat) (fs : List Value) (h2 : Nat) (cI : ClassId) (z : Nat) (fd : Nat → Nat) (x : Int32) (f0 : fs[0]? = some (.ref h2)) (f1 : fs[1]? = some (.int (nI z))) (hz : z ≤ 20) : Met l yX3_member wsX3_member ({ frames := 0, cells := 0, slots := 0, locals := 0 }) (va_Pc [.ref h0, .int x] (fun U => va_P D vwCl [(h0, .inr (3, fs)), (h2, .inl (cI, 20, .inl (fun i_ => nI (fd i_))))] U.heap ∧ va_K D vwCl [(cI, .int)] U)) (QcRead (if (decide (¬ x < 0) && decide (¬ nI z ≤ x)) = true then nI (fd x.toNatClampNeg) else -1)) 0 0 (fun _ => False) := by
  refine Met.ofW (cc := cX3_member) (maxL := 2) (ret := (some .int)) (by decide) rfl ?_
  intro p e s m args below meth c s₁ B hml hv
  obtain ⟨rfl, hP, hK⟩ := hv
  have hx := B.exec
  have hb := B.bytes
  have hr := B.returns
  have hts := atoms_spec (ws := wsX3_member) B.pre
  have hown : s.vm.findClass RX3 = some m.cls := findClass_of_methodNamed B.named
  have hlocks := B.notSynchronized
  have hl := lv_entry ([.ref h0, .int x]) (n := 2) (Nat.le_of_ble_eq_true rfl)
  rw [lg_entry_eq]
  generalize (lg_sl ([.ref h0, .int x]) ++ List.replicate (2 - (lg_sl ([.ref h0, .int x])).length) Slot.unset).toArray = ls at hl ⊢
  have hl : lv_has ls 2 [(0, .ref h0), (1, .int x)] := hl
  refine lv_iload_n hx hb dX3_member_0 rfl (lv_at hl 1 rfl) ?_
  refine lv_if_lt (tgt := 21) hx hb dX3_member_1 (by decide) (fun c_1 => ?_) (fun c_1 => ?_)
  · refine lv_iconst (v := -1) hx hb dX3_member_21 (by decide) ?_
    have e_ret : (-1 : Int32) = (if (decide (¬ x < 0) && decide (¬ nI z ≤ x)) = true then nI (fd x.toNatClampNeg) else -1) := by rw [if_neg (by rw [decide_eq_false (fun z_ => z_ c_1), Bool.false_and]; decide)]
    exact W.iret (v := (-1 : Int32)) hx hb hr (fun t ht hW => ⟨congrArg (fun z_ => Outcome.returned (some (Value.int z_))) e_ret, ht⟩) (fun q h => by cases h) dX3_member_22
  · refine lv_iload_n hx hb dX3_member_4 rfl (lv_at hl 1 rfl) ?_
    refine lv_aload_n hx hb dX3_member_5 rfl (lv_at hl 0 rfl) ?_
    refine va_get (D := D) (ci := 3) (v := .int (nI z)) (C := RX3) (T := TX3) (N := 2) hx hb hts (by decide +kernel) hown hK hP 0 rfl rfl 1 (by decide) (hts (.fieldLink RX3 15 "ConceptTable$Neighbours" "size" "I") (by decide +kernel)) (fun _ h9 => h9) f1 dX3_member_6 ?_
    refine lv_icmp_ge (tgt := 21) hx hb dX3_member_9 (by decide) (fun c_9 => ?_) (fun c_9 => ?_)
    · refine lv_iconst (v := -1) hx hb dX3_member_21 (by decide) ?_
      have e_ret : (-1 : Int32) = (if (decide (¬ x < 0) && decide (¬ nI z ≤ x)) = true then nI (fd x.toNatClampNeg) else -1) := by rw [if_neg (by rw [decide_eq_false (p := ¬ nI z ≤ x) (fun z_ => z_ c_9), Bool.and_false]; decide)]
      exact W.iret (v := (-1 : Int32)) hx hb hr (fun t ht hW => ⟨congrArg (fun z_ => Outcome.returned (some (Value.int z_))) e_ret, ht⟩) (fun q h => by cases h) dX3_member_22
    · refine lv_aload_n hx hb dX3_member_12 rfl (lv_at hl 0 rfl) ?_
      refine va_get (D := D) (ci := 3) (v := .ref h2) (C := RX3) (T := TX3) (N := 2) hx hb hts (by decide +kernel) hown hK hP 0 rfl rfl 0 (by decide) (hts (.fieldLink RX3 9 "ConceptTable$Neighbours" "found" "[I") (by decide +kernel)) (fun _ h9 => h9) f0 dX3_member_13 ?_
      refine lv_iload_n hx hb dX3_member_16 rfl (lv_at hl 1 rfl) ?_
      refine va_iald hx hb hK hP 1 0 rfl rfl (ix_in hz (by omega) c_1 c_9) dX3_member_17 ?_
      refine lv_re (y := (nI (fd (x.toNatClampNeg)))) rfl ?_
      refine lv_goto (tgt := 22) hx hb dX3_member_18 (by decide) ?_
      have e_ret : (nI (fd (x.toNatClampNeg))) = (if (decide (¬ x < 0) && decide (¬ nI z ≤ x)) = true then nI (fd x.toNatClampNeg) else -1) := by rw [if_pos (by rw [decide_eq_true c_1, decide_eq_true c_9]; rfl)]
      exact W.iret (v := (nI (fd (x.toNatClampNeg)))) hx hb hr (fun t ht hW => ⟨congrArg (fun z_ => Outcome.returned (some (Value.int z_))) e_ret, ht⟩) (fun q h => by cases h) dX3_member_22

set_option maxHeartbeats 4000000 in
set_option maxRecDepth 100000 in
theorem c_X3_isPartOfFound (l : Launch) (D : va_G) (h0 : Nat) (fs : List Value) (h2 : Nat) (cI : ClassId) (z : Nat) (fd : Nat → Nat) (q : Nat) (f0 : fs[0]? = some (.ref h2)) (f1 : fs[1]? = some (.int (nI z))) (hz : z ≤ 20) (hq : q < 2 ^ 31) : Met l yX3_isPartOfFound wsX3_isPartOfFound ({ frames := 1, cells := 0, slots := 0, locals := 21 }) (va_Pc [.ref h0, .int (nI q)] (fun U => va_P D vwCl [(h0, .inr (3, fs)), (h2, .inl (cI, 20, .inl (fun i_ => nI (fd i_))))] U.heap ∧ va_K D vwCl [(cI, .int)] U)) (QcRead (b2 (pfB fd z q))) 0 0 (fun _ => False) := by
  refine Met.ofW (cc := cX3_isPartOfFound) (maxL := 3) (ret := (some .boolean)) (by decide) rfl ?_
  intro p e s m args below meth c s₁ B hml hv
  obtain ⟨rfl, hP, hK⟩ := hv
  have hx := B.exec
  have hb := B.bytes
  have hr := B.returns
  have hts := atoms_spec (ws := wsX3_isPartOfFound) B.pre
  have hown : s.vm.findClass RX3 = some m.cls := findClass_of_methodNamed B.named
  have hlocks := B.notSynchronized
  have hl := lv_entry ([.ref h0, .int (nI q)]) (n := 3) (Nat.le_of_ble_eq_true rfl)
  rw [lg_entry_eq]
  generalize (lg_sl ([.ref h0, .int (nI q)]) ++ List.replicate (3 - (lg_sl ([.ref h0, .int (nI q)])).length) Slot.unset).toArray = ls at hl ⊢
  have hl : lv_has ls 3 [(0, .ref h0), (1, .int (nI q))] := hl
  refine lv_iconst (v := 0) hx hb dX3_isPartOfFound_0 (by decide) ?_
  refine lv_istore_n (lv' := [(2, .int (0 : Int32)), (0, .ref h0), (1, .int (nI q))]) hx hb dX3_isPartOfFound_1 rfl hl (by decide) rfl (fun ls hl => ?_)
  have lp_2 : ∀ (n_ : Nat) (k : Nat), z - k < n_ → (k ≤ z) → (∀ j, j < k → sN q (fd j) = false) → ∀ (x2 : Int32), x2 = nI k → ∀ (ls : Array Slot), lv_has ls 3 [(2, .int x2), (0, .ref h0), (1, .int (nI q))] → W p l e (headSpec wsX3_isPartOfFound ({ frames := 1, cells := 0, slots := 0, locals := 21 })).room s m ([.ref h0, .int (nI q)] : List Value).toArray below meth c s.heap [] 0 0 (MQ below (QcRead (b2 (pfB fd z q))) ([.ref h0, .int (nI q)] : List Value).toArray s 0 0 (fun _ => False)) (F0 m 2 ls []) := by
    intro n_
    induction n_ with
    | zero => intro k h0_; exact absurd h0_ (Nat.not_lt_zero _)
    | succ n_ ih_2 =>
      intro k hm_2 hk hin x2 e_x2 ls hl
      subst e_x2
      refine lv_iload_n hx hb dX3_isPartOfFound_2 rfl (lv_at hl 0 rfl) ?_
      refine lv_aload_n hx hb dX3_isPartOfFound_3 rfl (lv_at hl 1 rfl) ?_
      refine va_get (D := D) (ci := 3) (v := .int (nI z)) (C := RX3) (T := TX3) (N := 2) hx hb hts (by decide +kernel) hown hK hP 0 rfl rfl 1 (by decide) (hts (.fieldLink RX3 15 "ConceptTable$Neighbours" "size" "I") (by decide +kernel)) (fun _ h9 => h9) f1 dX3_isPartOfFound_4 ?_
      refine lv_icmp_ge (tgt := 31) hx hb dX3_isPartOfFound_7 (by decide) (fun c_7 => ?_) (fun c_7 => ?_)
      · have c_7 : z ≤ k := (nI_leI (a := z) (b := k) (by omega) (by omega)).mp c_7
        refine lv_iconst (v := 0) hx hb dX3_isPartOfFound_31 (by decide) ?_
        have e_ret : (0 : Int32) = (b2 (pfB fd z q)) := by unfold pfB; rw [decide_eq_true (fun j hj => hin j (by omega))]; rfl
        exact W.zret (v := (0 : Int32)) hx hb hr rfl (fun t ht hW => ⟨congrArg (fun z_ => Outcome.returned (some (Value.int z_))) e_ret, ht⟩) (fun q h => by cases h) dX3_isPartOfFound_32
      · have c_7 : k < z := Nat.lt_of_not_le (fun h_ => c_7 ((nI_leI (a := z) (b := k) (by omega) (by omega)).mpr h_))
        refine lv_aload_n hx hb dX3_isPartOfFound_10 rfl (lv_at hl 1 rfl) ?_
        refine va_get (D := D) (ci := 3) (v := .ref h2) (C := RX3) (T := TX3) (N := 2) hx hb hts (by decide +kernel) hown hK hP 0 rfl rfl 0 (by decide) (hts (.fieldLink RX3 9 "ConceptTable$Neighbours" "found" "[I") (by decide +kernel)) (fun _ h9 => h9) f0 dX3_isPartOfFound_11 ?_
        refine lv_iload_n hx hb dX3_isPartOfFound_14 rfl (lv_at hl 0 rfl) ?_
        refine va_iald hx hb hK hP 1 0 rfl rfl (vp_in_nI (by omega) (by omega)) dX3_isPartOfFound_15 ?_
        refine lv_re (y := (nI (fd k))) (by rw [nI_clamp (by omega)]) ?_
        refine lv_iload_n hx hb dX3_isPartOfFound_16 rfl (lv_at hl 2 rfl) ?_
        refine rd_S (As := [.int (nI (fd k)), .int (nI q)]) (rest := []) ⟨hx, hb, hml, hown, hts⟩ (c_X5_hasAll_N l D (fd k) q (by assumption)) (va_cwS 2 hts gX3_isPartOfFound_X5_hasAll rfl rfl rfl (by decide +kernel) ⟨Nat.le_of_ble_eq_true rfl, Nat.le_of_ble_eq_true rfl⟩) (hP.sub (ws' := []) [] rfl) (hK.sub (tys' := []) [] rfl) rfl rfl hl.1 rfl (lv_room (Nat.le_of_ble_eq_true rfl)) dX3_isPartOfFound_17 ⟨Nat.le_of_ble_eq_true rfl, Nat.le_of_ble_eq_true rfl⟩ ?_
        refine lv_if_eq (tgt := 25) hx hb dX3_isPartOfFound_20 (by decide) (fun c_20 => ?_) (fun c_20 => ?_)
        · have c_20 := b2_0.mp c_20
          refine lv_iinc (v := (nI (k + 1))) (lv' := [(2, .int (nI (k + 1))), (0, .ref h0), (1, .int (nI q))]) hx hb dX3_isPartOfFound_25 hl (k := 0) rfl (nI_add _ 1) (by decide) rfl (fun ls hl => ?_)
          refine lv_goto (tgt := 2) hx hb dX3_isPartOfFound_28 (by decide) ?_
          exact ih_2 (k + 1) (by omega) (by omega) (lt_s hin c_20) _ rfl _ (lv_sub hl [0, 1, 2] rfl)
        · have c_20 := b2_n0.mp c_20
          refine lv_iconst (v := 1) hx hb dX3_isPartOfFound_23 (by decide) ?_
          have e_ret : (1 : Int32) = (b2 (pfB fd z q)) := by unfold pfB; rw [decide_eq_false (fun h => Bool.noConfusion ((h k (by omega)).symm.trans c_20))]; rfl
          exact W.zret (v := (1 : Int32)) hx hb hr rfl (fun t ht hW => ⟨congrArg (fun z_ => Outcome.returned (some (Value.int z_))) e_ret, ht⟩) (fun q h => by cases h) dX3_isPartOfFound_24
  exact lp_2 _ 0 (Nat.lt_succ_self _) (Nat.zero_le _) (fun j h => absurd h (Nat.not_lt_zero _)) _ rfl _ (lv_sub hl [0, 1, 2] rfl)

set_option maxHeartbeats 4000000 in
set_option maxRecDepth 100000 in
theorem c_X3_dropPartsOf (l : Launch) (D : va_G) (sz : Nat) (h0 : Nat) (h2 : Nat) (z : Nat) (cI : ClassId) (fd : Nat → Nat) (L : List Nat) (q : Nat) (hL : lstAt fd L) (hzL : z = L.length) (hz : z ≤ 20) (hbd : ∀ j, j < z → fd j < 2 ^ 31) : Met l yX3_dropPartsOf wsX3_dropPartsOf ({ frames := 1, cells := 0, slots := 0, locals := 21 }) (va_Pc [.ref h0, .int (nI q)] (fun U => U.heap.size = sz ∧ va_P D vwCl [(h0, .inr (3, [.ref h2, .int (nI z)])), (h2, .inl (cI, 20, .inl (fun i_ => nI (fd i_))))] U.heap ∧ va_K D vwCl [(cI, .int)] U ∧ va_D (fun _ => True) [(h0, .inr (3, [.ref h2, .int (nI z)])), (h2, .inl (cI, 20, .inl (fun i_ => nI (fd i_))))])) (mxQ (fun u_ : Nat × (Nat → Nat) => match u_ with | (z', fd') => none) (fun u_ : Nat × (Nat → Nat) => match u_ with | (z', fd') => (z' = (L.filter (fun x => !(sN x q))).length) ∧ (lstAt fd' (L.filter (fun x => !(sN x q))))) (fun u_ : Nat × (Nat → Nat) => match u_ with | (z', fd') => [(h0, .inr (3, [.ref h2, .int (nI z')])), (h2, .inl (cI, 20, .inl (fun i_ => nI (fd' i_))))]) D vwCl (va_A [(h0, .inr (3, [.ref h2, .int (nI z)])), (h2, .inl (cI, 20, .inl (fun i_ => nI (fd i_))))] sz)) 0 0 (va_A [(h0, .inr (3, [.ref h2, .int (nI z)])), (h2, .inl (cI, 20, .inl (fun i_ => nI (fd i_))))] sz) := by
  refine Met.ofW (cc := cX3_dropPartsOf) (maxL := 4) (ret := none) (by decide) rfl ?_
  intro p e s m args below meth c s₁ B hml hv
  obtain ⟨rfl, hsz, hP, hK, hD0⟩ := hv
  have hx := B.exec
  have hb := B.bytes
  have hr := B.returns
  have hts := atoms_spec (ws := wsX3_dropPartsOf) B.pre
  have hown : s.vm.findClass RX3 = some m.cls := findClass_of_methodNamed B.named
  have hlocks := B.notSynchronized
  subst hsz
  have hD := hD0.self (sz := s.heap.size)
  generalize hAe : va_A [(h0, .inr (3, [.ref h2, .int (nI z)])), (h2, .inl (cI, 20, .inl (fun i_ => nI (fd i_))))] s.heap.size = A at hD ⊢
  have hA : ∀ q : Nat, s.heap.size ≤ q → A q := fun q h => by rw [← hAe]; exact Or.inr h
  have hS : va_S A s.heap s.heap [] := va_S.rf
  have hl := lv_entry ([.ref h0, .int (nI q)]) (n := 4) (Nat.le_of_ble_eq_true rfl)
  rw [lg_entry_eq]
  generalize (lg_sl ([.ref h0, .int (nI q)]) ++ List.replicate (4 - (lg_sl ([.ref h0, .int (nI q)])).length) Slot.unset).toArray = ls at hl ⊢
  have hl : lv_has ls 4 [(0, .ref h0), (1, .int (nI q))] := hl
  refine lv_iconst (v := 0) hx hb dX3_dropPartsOf_0 (by decide) ?_
  refine lv_istore_n (lv' := [(2, .int (0 : Int32)), (0, .ref h0), (1, .int (nI q))]) hx hb dX3_dropPartsOf_1 rfl hl (by decide) rfl (fun ls hl => ?_)
  refine lv_iconst (v := 0) hx hb dX3_dropPartsOf_2 (by decide) ?_
  refine lv_istore_n (lv' := [(3, .int (0 : Int32)), (2, .int (0 : Int32)), (0, .ref h0), (1, .int (nI q))]) hx hb dX3_dropPartsOf_3 rfl hl (by decide) rfl (fun ls hl => ?_)
  have lp_4 : ∀ (n_ : Nat) (k : Nat) (d_ : Nat) (fd1 : Nat → Nat), z - k < n_ → (k ≤ z) → (d_ = ((L.take k).filter (fun x => !(sN x q))).length) → (lstAt fd1 ((L.take k).filter (fun x => !(sN x q)))) → (∀ j, k ≤ j → fd1 j = fd j) → ∀ (x3 : Int32), x3 = nI k → ∀ (x2 : Int32), x2 = nI d_ → ∀ (H : Heap) (locs : List Loc), va_P D vwCl [(h0, .inr (3, [.ref h2, .int (nI z)])), (h2, .inl (cI, 20, .inl (fun i_ => nI (fd1 i_))))] H → va_D A [(h0, .inr (3, [.ref h2, .int (nI z)])), (h2, .inl (cI, 20, .inl (fun i_ => nI (fd1 i_))))] → va_S A s.heap H locs → ∀ (ls : Array Slot), lv_has ls 4 [(3, .int x3), (2, .int x2), (0, .ref h0), (1, .int (nI q))] → W p l e (headSpec wsX3_dropPartsOf ({ frames := 1, cells := 0, slots := 0, locals := 21 })).room s m ([.ref h0, .int (nI q)] : List Value).toArray below meth c H locs 0 0 (MQ below (mxQ (fun u_ : Nat × (Nat → Nat) => match u_ with | (z', fd') => none) (fun u_ : Nat × (Nat → Nat) => match u_ with | (z', fd') => (z' = (L.filter (fun x => !(sN x q))).length) ∧ (lstAt fd' (L.filter (fun x => !(sN x q))))) (fun u_ : Nat × (Nat → Nat) => match u_ with | (z', fd') => [(h0, .inr (3, [.ref h2, .int (nI z')])), (h2, .inl (cI, 20, .inl (fun i_ => nI (fd' i_))))]) D vwCl A) ([.ref h0, .int (nI q)] : List Value).toArray s 0 0 A) (F0 m 4 ls []) := by
    intro n_
    induction n_ with
    | zero => intro k d_ fd1 h0_; exact absurd h0_ (Nat.not_lt_zero _)
    | succ n_ ih_4 =>
      intro k d_ fd1 hm_4 hk hd1 hd2 hd3 x3 e_x3 x2 e_x2 H locs hP hD hS ls hl
      subst e_x3
      subst e_x2
      refine lv_iload_n hx hb dX3_dropPartsOf_4 rfl (lv_at hl 0 rfl) ?_
      refine lv_aload_n hx hb dX3_dropPartsOf_5 rfl (lv_at hl 2 rfl) ?_
      refine va_get (D := D) (ci := 3) (v := .int (nI z)) (C := RX3) (T := TX3) (N := 2) hx hb hts (by decide +kernel) hown hK hP 0 rfl rfl 1 (by decide) (hts (.fieldLink RX3 15 "ConceptTable$Neighbours" "size" "I") (by decide +kernel)) (fun _ h9 => h9) rfl dX3_dropPartsOf_6 ?_
      refine lv_icmp_ge (tgt := 46) hx hb dX3_dropPartsOf_9 (by decide) (fun c_9 => ?_) (fun c_9 => ?_)
      · have c_9 : z ≤ k := (nI_leI (a := z) (b := k) (by omega) (by omega)).mp c_9
        refine lv_aload_n hx hb dX3_dropPartsOf_46 rfl (lv_at hl 2 rfl) ?_
        refine lv_iload_n hx hb dX3_dropPartsOf_47 rfl (lv_at hl 1 rfl) ?_
        refine va_put (D := D) (ci := 3) (v := .int (nI d_)) (ty := .int) (C := RX3) (T := TX3) (N := 2) hx hb hts (by decide +kernel) tyX3 tyX3_ok nmX3 hown hK hP hD hS 0 rfl rfl 1 (by decide) (hts (.fieldLink RX3 15 "ConceptTable$Neighbours" "size" "I") (by decide +kernel)) (fun _ h9 => h9) rfl (by decide +kernel) rfl rfl (Nat.le_of_ble_eq_true rfl) dX3_dropPartsOf_48 (fun H locs hP hD hS => ?_)
        have hP : va_P D vwCl [(h0, .inr (3, [.ref h2, .int (nI d_)])), (h2, .inl (cI, 20, .inl (fun i_ => nI (fd1 i_))))] H := hP
        have hD : va_D A [(h0, .inr (3, [.ref h2, .int (nI d_)])), (h2, .inl (cI, 20, .inl (fun i_ => nI (fd1 i_))))] := hD
        have hke : L.take k = L := List.take_of_length_le (by omega)
        rw [hke] at hd1 hd2
        have hP := hP.sub (ws' := [(h0, .inr (3, [.ref h2, .int (nI d_)])), (h2, .inl (cI, 20, .inl (fun i_ => nI (fd1 i_))))]) [0, 1] rfl
        have hD := hD.sub (ws' := [(h0, .inr (3, [.ref h2, .int (nI d_)])), (h2, .inl (cI, 20, .inl (fun i_ => nI (fd1 i_))))]) [0, 1] (by decide) rfl
        exact W.vret hx hb hr (fun t ht hW => ⟨⟨(d_, fd1), rfl, ⟨hd1, hd2⟩, by rw [ht]; exact hP, hD⟩, hS.F ht⟩) hS.2.2 dX3_dropPartsOf_51
      · have c_9 : k < z := Nat.lt_of_not_le (fun h_ => c_9 ((nI_leI (a := z) (b := k) (by omega) (by omega)).mpr h_))
        have hdk := dr_le (L := L) (k := k) (p := fun x => !(sN x q))
        rw [← hd1] at hdk
        refine lv_iload_n hx hb dX3_dropPartsOf_12 rfl (lv_at hl 3 rfl) ?_
        refine lv_aload_n hx hb dX3_dropPartsOf_13 rfl (lv_at hl 2 rfl) ?_
        refine va_get (D := D) (ci := 3) (v := .ref h2) (C := RX3) (T := TX3) (N := 2) hx hb hts (by decide +kernel) hown hK hP 0 rfl rfl 0 (by decide) (hts (.fieldLink RX3 9 "ConceptTable$Neighbours" "found" "[I") (by decide +kernel)) (fun _ h9 => h9) rfl dX3_dropPartsOf_14 ?_
        refine lv_iload_n hx hb dX3_dropPartsOf_17 rfl (lv_at hl 0 rfl) ?_
        refine va_iald hx hb hK hP 1 0 rfl rfl (vp_in_nI (by omega) (by omega)) dX3_dropPartsOf_18 ?_
        refine lv_re (y := (nI (fd1 k))) (by rw [nI_clamp (by omega)]) ?_
        refine rd_S (As := [.int (nI q), .int (nI (fd1 k))]) (rest := []) ⟨hx, hb, hml, hown, hts⟩ (c_X5_hasAll_N l D q (fd1 k) (by rw [hd3 k (Nat.le_refl _)]; exact hbd k (by omega))) (va_cwS 2 hts gX3_dropPartsOf_X5_hasAll rfl rfl rfl (by decide +kernel) ⟨Nat.le_of_ble_eq_true rfl, Nat.le_of_ble_eq_true rfl⟩) (hP.sub (ws' := []) [] rfl) (hK.sub (tys' := []) [] rfl) rfl rfl hl.1 rfl (lv_room (Nat.le_of_ble_eq_true rfl)) dX3_dropPartsOf_19 ⟨Nat.le_of_ble_eq_true rfl, Nat.le_of_ble_eq_true rfl⟩ ?_
        refine lv_if_ne (tgt := 40) hx hb dX3_dropPartsOf_22 (by decide) (fun c_22 => ?_) (fun c_22 => ?_)
        · have c_22 := b2_n0.mp c_22
          refine lv_iinc (v := (nI (k + 1))) (lv' := [(3, .int (nI (k + 1))), (2, .int (nI d_)), (0, .ref h0), (1, .int (nI q))]) hx hb dX3_dropPartsOf_40 hl (k := 0) rfl (nI_add _ 1) (by decide) rfl (fun ls hl => ?_)
          refine lv_goto (tgt := 4) hx hb dX3_dropPartsOf_43 (by decide) ?_
          have hs_ := (dr_step (p := fun x => !(sN x q)) hL (by omega) hd1 hd2 hd3).2 (by show (!(sN (fd k) q)) = false; rw [hd3 k (Nat.le_refl _)] at c_22; rw [c_22]; rfl)
          exact ih_4 (k + 1) d_ fd1 (by omega) (by omega) hs_.1 hs_.2 (fun j hj => hd3 j (by omega)) _ rfl _ rfl _ _ (hP.sub [0, 1] rfl) (hD.sub [0, 1] (by decide) rfl) hS _ (lv_sub hl [0, 1, 2, 3] rfl)
        · have c_22 := b2_0.mp c_22
          refine lv_aload_n hx hb dX3_dropPartsOf_25 rfl (lv_at hl 2 rfl) ?_
          refine va_get (D := D) (ci := 3) (v := .ref h2) (C := RX3) (T := TX3) (N := 2) hx hb hts (by decide +kernel) hown hK hP 0 rfl rfl 0 (by decide) (hts (.fieldLink RX3 9 "ConceptTable$Neighbours" "found" "[I") (by decide +kernel)) (fun _ h9 => h9) rfl dX3_dropPartsOf_26 ?_
          refine lv_iload_n hx hb dX3_dropPartsOf_29 rfl (lv_at hl 1 rfl) ?_
          refine lv_aload_n hx hb dX3_dropPartsOf_30 rfl (lv_at hl 2 rfl) ?_
          refine va_get (D := D) (ci := 3) (v := .ref h2) (C := RX3) (T := TX3) (N := 2) hx hb hts (by decide +kernel) hown hK hP 0 rfl rfl 0 (by decide) (hts (.fieldLink RX3 9 "ConceptTable$Neighbours" "found" "[I") (by decide +kernel)) (fun _ h9 => h9) rfl dX3_dropPartsOf_31 ?_
          refine lv_iload_n hx hb dX3_dropPartsOf_34 rfl (lv_at hl 0 rfl) ?_
          refine va_iald hx hb hK hP 1 0 rfl rfl (vp_in_nI (by omega) (by omega)) dX3_dropPartsOf_35 ?_
          refine lv_re (y := (nI (fd1 k))) (by rw [nI_clamp (by omega)]) ?_
          refine va_iast hx hb hK hP hD hS 1 0 rfl rfl (vp_in_nI (by omega) (by omega)) dX3_dropPartsOf_36 (fun H locs hP hD hS => ?_)
          have e_up : (upd (fun i_ => nI (fd1 i_)) (nI d_).toNatClampNeg (nI (fd1 k))) = (fun i_ => nI ((va_up fd1 d_ (fd1 k)) i_)) := by rw [show (nI d_).toNatClampNeg = d_ from nI_clamp (by omega)]; exact up_nI fd1 d_ (fd1 k)
          have hP : va_P D vwCl [(h0, .inr (3, [.ref h2, .int (nI z)])), (h2, .inl (cI, 20, .inl (fun i_ => nI ((va_up fd1 d_ (fd1 k)) i_))))] H := by rw [← e_up]; exact hP
          have hD : va_D A [(h0, .inr (3, [.ref h2, .int (nI z)])), (h2, .inl (cI, 20, .inl (fun i_ => nI ((va_up fd1 d_ (fd1 k)) i_))))] := by rw [← e_up]; exact hD
          clear e_up
          refine lv_iinc (v := (nI (d_ + 1))) (lv' := [(2, .int (nI (d_ + 1))), (3, .int (nI k)), (0, .ref h0), (1, .int (nI q))]) hx hb dX3_dropPartsOf_37 hl (k := 1) rfl (nI_add _ 1) (by decide) rfl (fun ls hl => ?_)
          refine lv_iinc (v := (nI (k + 1))) (lv' := [(3, .int (nI (k + 1))), (2, .int (nI (d_ + 1))), (0, .ref h0), (1, .int (nI q))]) hx hb dX3_dropPartsOf_40 hl (k := 1) rfl (nI_add _ 1) (by decide) rfl (fun ls hl => ?_)
          refine lv_goto (tgt := 4) hx hb dX3_dropPartsOf_43 (by decide) ?_
          have hs_ := (dr_step (p := fun x => !(sN x q)) hL (by omega) hd1 hd2 hd3).1 (by show (!(sN (fd k) q)) = true; rw [hd3 k (Nat.le_refl _)] at c_22; rw [c_22]; rfl)
          exact ih_4 (k + 1) (d_ + 1) (va_up fd1 d_ (fd1 k)) (by omega) (by omega) hs_.1 hs_.2 (fun j hj => by rw [va_up_ne _ _ (by omega)]; exact hd3 j (by omega)) _ rfl _ rfl _ _ (hP.sub [0, 1] rfl) (hD.sub [0, 1] (by decide) rfl) hS _ (lv_sub hl [0, 1, 2, 3] rfl)
  exact lp_4 _ 0 0 fd (Nat.lt_succ_self _) (Nat.zero_le _) rfl (lstAt_0 _) (fun _ _ => rfl) _ rfl _ rfl _ _ hP hD hS _ (lv_sub hl [0, 1, 2, 3] rfl)

set_option maxHeartbeats 4000000 in
set_option maxRecDepth 100000 in
theorem c_X3_insert (l : Launch) (D : va_G) (sz : Nat) (h0 : Nat) (h2 : Nat) (z : Nat) (cI : ClassId) (fd : Nat → Nat) (L : List Nat) (q : Nat) (hL : lstAt fd L) (hzL : z = L.length) (hz : z < 20) : Met l yX3_insert wsX3_insert ({ frames := 1, cells := 0, slots := 0, locals := 23 }) (va_Pc [.ref h0, .int (nI q)] (fun U => U.heap.size = sz ∧ va_P D vwCl [(h0, .inr (3, [.ref h2, .int (nI z)])), (h2, .inl (cI, 20, .inl (fun i_ => nI (fd i_))))] U.heap ∧ va_K D vwCl [(cI, .int)] U ∧ va_D (fun _ => True) [(h0, .inr (3, [.ref h2, .int (nI z)])), (h2, .inl (cI, 20, .inl (fun i_ => nI (fd i_))))])) (mxQ (fun u_ : Nat × (Nat → Nat) => match u_ with | (p', fd') => none) (fun u_ : Nat × (Nat → Nat) => match u_ with | (p', fd') => (p' ≤ z) ∧ (lstAt fd' (L.take p' ++ q :: L.drop p')) ∧ (∀ j, p' ≤ j → j < z → clI (nI (fd j)) (nI q) = true) ∧ (p' = 0 ∨ clI (nI (fd (p' - 1))) (nI q) = false)) (fun u_ : Nat × (Nat → Nat) => match u_ with | (p', fd') => [(h0, .inr (3, [.ref h2, .int (nI (z + 1))])), (h2, .inl (cI, 20, .inl (fun i_ => nI (fd' i_))))]) D vwCl (va_A [(h0, .inr (3, [.ref h2, .int (nI z)])), (h2, .inl (cI, 20, .inl (fun i_ => nI (fd i_))))] sz)) 0 0 (va_A [(h0, .inr (3, [.ref h2, .int (nI z)])), (h2, .inl (cI, 20, .inl (fun i_ => nI (fd i_))))] sz) := by
  refine Met.ofW (cc := cX3_insert) (maxL := 3) (ret := none) (by decide) rfl ?_
  intro p e s m args below meth c s₁ B hml hv
  obtain ⟨rfl, hsz, hP, hK, hD0⟩ := hv
  have hx := B.exec
  have hb := B.bytes
  have hr := B.returns
  have hts := atoms_spec (ws := wsX3_insert) B.pre
  have hown : s.vm.findClass RX3 = some m.cls := findClass_of_methodNamed B.named
  have hlocks := B.notSynchronized
  subst hsz
  have hD := hD0.self (sz := s.heap.size)
  generalize hAe : va_A [(h0, .inr (3, [.ref h2, .int (nI z)])), (h2, .inl (cI, 20, .inl (fun i_ => nI (fd i_))))] s.heap.size = A at hD ⊢
  have hA : ∀ q : Nat, s.heap.size ≤ q → A q := fun q h => by rw [← hAe]; exact Or.inr h
  have hS : va_S A s.heap s.heap [] := va_S.rf
  have hl := lv_entry ([.ref h0, .int (nI q)]) (n := 3) (Nat.le_of_ble_eq_true rfl)
  rw [lg_entry_eq]
  generalize (lg_sl ([.ref h0, .int (nI q)]) ++ List.replicate (3 - (lg_sl ([.ref h0, .int (nI q)])).length) Slot.unset).toArray = ls at hl ⊢
  have hl : lv_has ls 3 [(0, .ref h0), (1, .int (nI q))] := hl
  refine lv_aload_n hx hb dX3_insert_0 rfl (lv_at hl 0 rfl) ?_
  refine va_get (D := D) (ci := 3) (v := .int (nI z)) (C := RX3) (T := TX3) (N := 2) hx hb hts (by decide +kernel) hown hK hP 0 rfl rfl 1 (by decide) (hts (.fieldLink RX3 15 "ConceptTable$Neighbours" "size" "I") (by decide +kernel)) (fun _ h9 => h9) rfl dX3_insert_1 ?_
  refine lv_aload_n hx hb dX3_insert_4 rfl (lv_at hl 0 rfl) ?_
  refine va_get (D := D) (ci := 3) (v := .ref h2) (C := RX3) (T := TX3) (N := 2) hx hb hts (by decide +kernel) hown hK hP 0 rfl rfl 0 (by decide) (hts (.fieldLink RX3 9 "ConceptTable$Neighbours" "found" "[I") (by decide +kernel)) (fun _ h9 => h9) rfl dX3_insert_5 ?_
  refine va_alen hx hb hK hP 1 0 rfl rfl (v := nI 20) rfl dX3_insert_8 ?_
  refine lv_icmp_lt (tgt := 13) hx hb dX3_insert_9 (by decide) (fun c_9 => ?_) (fun c_9 => ?_)
  · have c_9 : z < 20 := (nI_ltI (a := z) (b := 20) (by omega) (by omega)).mp c_9
    refine lv_aload_n hx hb dX3_insert_13 rfl (lv_at hl 0 rfl) ?_
    refine va_get (D := D) (ci := 3) (v := .int (nI z)) (C := RX3) (T := TX3) (N := 2) hx hb hts (by decide +kernel) hown hK hP 0 rfl rfl 1 (by decide) (hts (.fieldLink RX3 15 "ConceptTable$Neighbours" "size" "I") (by decide +kernel)) (fun _ h9 => h9) rfl dX3_insert_14 ?_
    refine lv_istore_n (lv' := [(2, .int (nI z)), (0, .ref h0), (1, .int (nI q))]) hx hb dX3_insert_17 rfl hl (by decide) rfl (fun ls hl => ?_)
    have lp_18 : ∀ (n_ : Nat) (d_ : Nat) (fd1 : Nat → Nat), d_ < n_ → (d_ ≤ z) → (∀ j, j < d_ → fd1 j = fd j) → (∀ j, d_ < j → j ≤ z → fd1 j = fd (j - 1)) → (∀ j, d_ ≤ j → j < z → clI (nI (fd j)) (nI q) = true) → ∀ (x2 : Int32), x2 = nI d_ → ∀ (H : Heap) (locs : List Loc), va_P D vwCl [(h0, .inr (3, [.ref h2, .int (nI z)])), (h2, .inl (cI, 20, .inl (fun i_ => nI (fd1 i_))))] H → va_D A [(h0, .inr (3, [.ref h2, .int (nI z)])), (h2, .inl (cI, 20, .inl (fun i_ => nI (fd1 i_))))] → va_S A s.heap H locs → ∀ (ls : Array Slot), lv_has ls 3 [(2, .int x2), (0, .ref h0), (1, .int (nI q))] → W p l e (headSpec wsX3_insert ({ frames := 1, cells := 0, slots := 0, locals := 23 })).room s m ([.ref h0, .int (nI q)] : List Value).toArray below meth c H locs 0 0 (MQ below (mxQ (fun u_ : Nat × (Nat → Nat) => match u_ with | (p', fd') => none) (fun u_ : Nat × (Nat → Nat) => match u_ with | (p', fd') => (p' ≤ z) ∧ (lstAt fd' (L.take p' ++ q :: L.drop p')) ∧ (∀ j, p' ≤ j → j < z → clI (nI (fd j)) (nI q) = true) ∧ (p' = 0 ∨ clI (nI (fd (p' - 1))) (nI q) = false)) (fun u_ : Nat × (Nat → Nat) => match u_ with | (p', fd') => [(h0, .inr (3, [.ref h2, .int (nI (z + 1))])), (h2, .inl (cI, 20, .inl (fun i_ => nI (fd' i_))))]) D vwCl A) ([.ref h0, .int (nI q)] : List Value).toArray s 0 0 A) (F0 m 18 ls []) := by
      intro n_
      induction n_ with
      | zero => intro d_ fd1 h0_; exact absurd h0_ (Nat.not_lt_zero _)
      | succ n_ ih_18 =>
        intro d_ fd1 hm_18 hd hf1 hf2 hf3 x2 e_x2 H locs hP hD hS ls hl
        subst e_x2
        refine lv_iload_n hx hb dX3_insert_18 rfl (lv_at hl 0 rfl) ?_
        refine lv_if_le (tgt := 57) hx hb dX3_insert_19 (by decide) (fun c_19 => ?_) (fun c_19 => ?_)
        · have c_19 : d_ ≤ 0 := (nI_leI (a := d_) (b := 0) (by omega) (by omega)).mp c_19
          refine lv_aload_n hx hb dX3_insert_57 rfl (lv_at hl 1 rfl) ?_
          refine va_get (D := D) (ci := 3) (v := .ref h2) (C := RX3) (T := TX3) (N := 2) hx hb hts (by decide +kernel) hown hK hP 0 rfl rfl 0 (by decide) (hts (.fieldLink RX3 9 "ConceptTable$Neighbours" "found" "[I") (by decide +kernel)) (fun _ h9 => h9) rfl dX3_insert_58 ?_
          refine lv_iload_n hx hb dX3_insert_61 rfl (lv_at hl 0 rfl) ?_
          refine lv_iload_n hx hb dX3_insert_62 rfl (lv_at hl 2 rfl) ?_
          refine va_iast hx hb hK hP hD hS 1 0 rfl rfl (vp_in_nI (by omega) (by omega)) dX3_insert_63 (fun H locs hP hD hS => ?_)
          have e_up : (upd (fun i_ => nI (fd1 i_)) (nI d_).toNatClampNeg (nI q)) = (fun i_ => nI ((va_up fd1 d_ q) i_)) := by rw [show (nI d_).toNatClampNeg = d_ from nI_clamp (by omega)]; exact up_nI fd1 d_ q
          have hP : va_P D vwCl [(h0, .inr (3, [.ref h2, .int (nI z)])), (h2, .inl (cI, 20, .inl (fun i_ => nI ((va_up fd1 d_ q) i_))))] H := by rw [← e_up]; exact hP
          have hD : va_D A [(h0, .inr (3, [.ref h2, .int (nI z)])), (h2, .inl (cI, 20, .inl (fun i_ => nI ((va_up fd1 d_ q) i_))))] := by rw [← e_up]; exact hD
          clear e_up
          refine lv_aload_n hx hb dX3_insert_64 rfl (lv_at hl 1 rfl) ?_
          refine lv_dup hx hb dX3_insert_65 rfl ?_
          refine va_get (D := D) (ci := 3) (v := .int (nI z)) (C := RX3) (T := TX3) (N := 2) hx hb hts (by decide +kernel) hown hK hP 0 rfl rfl 1 (by decide) (hts (.fieldLink RX3 15 "ConceptTable$Neighbours" "size" "I") (by decide +kernel)) (fun _ h9 => h9) rfl dX3_insert_66 ?_
          refine lv_iconst (v := 1) hx hb dX3_insert_69 (by decide) ?_
          refine lv_iadd hx hb dX3_insert_70 ?_
          refine lv_re (y := (nI (z + 1))) (nI_add z 1) ?_
          refine va_put (D := D) (ci := 3) (v := .int (nI (z + 1))) (ty := .int) (C := RX3) (T := TX3) (N := 2) hx hb hts (by decide +kernel) tyX3 tyX3_ok nmX3 hown hK hP hD hS 0 rfl rfl 1 (by decide) (hts (.fieldLink RX3 15 "ConceptTable$Neighbours" "size" "I") (by decide +kernel)) (fun _ h9 => h9) rfl (by decide +kernel) rfl rfl (Nat.le_of_ble_eq_true rfl) dX3_insert_71 (fun H locs hP hD hS => ?_)
          have hP : va_P D vwCl [(h0, .inr (3, [.ref h2, .int (nI (z + 1))])), (h2, .inl (cI, 20, .inl (fun i_ => nI ((va_up fd1 d_ q) i_))))] H := hP
          have hD : va_D A [(h0, .inr (3, [.ref h2, .int (nI (z + 1))])), (h2, .inl (cI, 20, .inl (fun i_ => nI ((va_up fd1 d_ q) i_))))] := hD
          have hP := hP.sub (ws' := [(h0, .inr (3, [.ref h2, .int (nI (z + 1))])), (h2, .inl (cI, 20, .inl (fun i_ => nI ((va_up fd1 d_ q) i_))))]) [0, 1] rfl
          have hD := hD.sub (ws' := [(h0, .inr (3, [.ref h2, .int (nI (z + 1))])), (h2, .inl (cI, 20, .inl (fun i_ => nI ((va_up fd1 d_ q) i_))))]) [0, 1] (by decide) rfl
          exact W.vret hx hb hr (fun t ht hW => ⟨⟨(d_, (va_up fd1 d_ q)), rfl, ⟨hd, (in_end hL (by omega) hf1 (fun j h1 h2 => hf2 j h1 (by omega))), hf3, (Or.inl (by omega))⟩, by rw [ht]; exact hP, hD⟩, hS.F ht⟩) hS.2.2 dX3_insert_74
        · have c_19 : 0 < d_ := Nat.lt_of_not_le (fun h_ => c_19 ((nI_leI (a := d_) (b := 0) (by omega) (by omega)).mpr h_))
          refine lv_aload_n hx hb dX3_insert_22 rfl (lv_at hl 1 rfl) ?_
          refine va_get (D := D) (ci := 3) (v := .ref h2) (C := RX3) (T := TX3) (N := 2) hx hb hts (by decide +kernel) hown hK hP 0 rfl rfl 0 (by decide) (hts (.fieldLink RX3 9 "ConceptTable$Neighbours" "found" "[I") (by decide +kernel)) (fun _ h9 => h9) rfl dX3_insert_23 ?_
          refine lv_iload_n hx hb dX3_insert_26 rfl (lv_at hl 0 rfl) ?_
          refine lv_iconst (v := 1) hx hb dX3_insert_27 (by decide) ?_
          refine lv_isub hx hb dX3_insert_28 ?_
          refine lv_re (y := (nI (d_ - 1))) (pk_sub (a := d_) (b := 1) (by omega)) ?_
          refine va_iald hx hb hK hP 1 0 rfl rfl (vp_in_nI (by omega) (by omega)) dX3_insert_29 ?_
          refine lv_re (y := (nI (fd1 (d_ - 1)))) (by rw [nI_clamp (by omega)]) ?_
          refine lv_iload_n hx hb dX3_insert_30 rfl (lv_at hl 2 rfl) ?_
          refine rd_S (As := [.int (nI (fd1 (d_ - 1))), .int (nI q)]) (rest := []) ⟨hx, hb, hml, hown, hts⟩ (c_X5_comesLater l D (nI (fd1 (d_ - 1))) (nI q) ) (va_cwS 2 hts gX3_insert_X5_comesLater rfl rfl rfl (by decide +kernel) ⟨Nat.le_of_ble_eq_true rfl, Nat.le_of_ble_eq_true rfl⟩) (hP.sub (ws' := []) [] rfl) (hK.sub (tys' := []) [] rfl) rfl rfl hl.1 rfl (lv_room (Nat.le_of_ble_eq_true rfl)) dX3_insert_31 ⟨Nat.le_of_ble_eq_true rfl, Nat.le_of_ble_eq_true rfl⟩ ?_
          refine lv_if_eq (tgt := 57) hx hb dX3_insert_34 (by decide) (fun c_34 => ?_) (fun c_34 => ?_)
          · have c_34 := b2_0.mp c_34
            refine lv_aload_n hx hb dX3_insert_57 rfl (lv_at hl 1 rfl) ?_
            refine va_get (D := D) (ci := 3) (v := .ref h2) (C := RX3) (T := TX3) (N := 2) hx hb hts (by decide +kernel) hown hK hP 0 rfl rfl 0 (by decide) (hts (.fieldLink RX3 9 "ConceptTable$Neighbours" "found" "[I") (by decide +kernel)) (fun _ h9 => h9) rfl dX3_insert_58 ?_
            refine lv_iload_n hx hb dX3_insert_61 rfl (lv_at hl 0 rfl) ?_
            refine lv_iload_n hx hb dX3_insert_62 rfl (lv_at hl 2 rfl) ?_
            refine va_iast hx hb hK hP hD hS 1 0 rfl rfl (vp_in_nI (by omega) (by omega)) dX3_insert_63 (fun H locs hP hD hS => ?_)
            have e_up : (upd (fun i_ => nI (fd1 i_)) (nI d_).toNatClampNeg (nI q)) = (fun i_ => nI ((va_up fd1 d_ q) i_)) := by rw [show (nI d_).toNatClampNeg = d_ from nI_clamp (by omega)]; exact up_nI fd1 d_ q
            have hP : va_P D vwCl [(h0, .inr (3, [.ref h2, .int (nI z)])), (h2, .inl (cI, 20, .inl (fun i_ => nI ((va_up fd1 d_ q) i_))))] H := by rw [← e_up]; exact hP
            have hD : va_D A [(h0, .inr (3, [.ref h2, .int (nI z)])), (h2, .inl (cI, 20, .inl (fun i_ => nI ((va_up fd1 d_ q) i_))))] := by rw [← e_up]; exact hD
            clear e_up
            refine lv_aload_n hx hb dX3_insert_64 rfl (lv_at hl 1 rfl) ?_
            refine lv_dup hx hb dX3_insert_65 rfl ?_
            refine va_get (D := D) (ci := 3) (v := .int (nI z)) (C := RX3) (T := TX3) (N := 2) hx hb hts (by decide +kernel) hown hK hP 0 rfl rfl 1 (by decide) (hts (.fieldLink RX3 15 "ConceptTable$Neighbours" "size" "I") (by decide +kernel)) (fun _ h9 => h9) rfl dX3_insert_66 ?_
            refine lv_iconst (v := 1) hx hb dX3_insert_69 (by decide) ?_
            refine lv_iadd hx hb dX3_insert_70 ?_
            refine lv_re (y := (nI (z + 1))) (nI_add z 1) ?_
            refine va_put (D := D) (ci := 3) (v := .int (nI (z + 1))) (ty := .int) (C := RX3) (T := TX3) (N := 2) hx hb hts (by decide +kernel) tyX3 tyX3_ok nmX3 hown hK hP hD hS 0 rfl rfl 1 (by decide) (hts (.fieldLink RX3 15 "ConceptTable$Neighbours" "size" "I") (by decide +kernel)) (fun _ h9 => h9) rfl (by decide +kernel) rfl rfl (Nat.le_of_ble_eq_true rfl) dX3_insert_71 (fun H locs hP hD hS => ?_)
            have hP : va_P D vwCl [(h0, .inr (3, [.ref h2, .int (nI (z + 1))])), (h2, .inl (cI, 20, .inl (fun i_ => nI ((va_up fd1 d_ q) i_))))] H := hP
            have hD : va_D A [(h0, .inr (3, [.ref h2, .int (nI (z + 1))])), (h2, .inl (cI, 20, .inl (fun i_ => nI ((va_up fd1 d_ q) i_))))] := hD
            have hP := hP.sub (ws' := [(h0, .inr (3, [.ref h2, .int (nI (z + 1))])), (h2, .inl (cI, 20, .inl (fun i_ => nI ((va_up fd1 d_ q) i_))))]) [0, 1] rfl
            have hD := hD.sub (ws' := [(h0, .inr (3, [.ref h2, .int (nI (z + 1))])), (h2, .inl (cI, 20, .inl (fun i_ => nI ((va_up fd1 d_ q) i_))))]) [0, 1] (by decide) rfl
            exact W.vret hx hb hr (fun t ht hW => ⟨⟨(d_, (va_up fd1 d_ q)), rfl, ⟨hd, (in_end hL (by omega) hf1 (fun j h1 h2 => hf2 j h1 (by omega))), hf3, (Or.inr (by rw [← hf1 (d_ - 1) (by omega)]; exact c_34))⟩, by rw [ht]; exact hP, hD⟩, hS.F ht⟩) hS.2.2 dX3_insert_74
          · have c_34 := b2_n0.mp c_34
            refine lv_aload_n hx hb dX3_insert_37 rfl (lv_at hl 1 rfl) ?_
            refine va_get (D := D) (ci := 3) (v := .ref h2) (C := RX3) (T := TX3) (N := 2) hx hb hts (by decide +kernel) hown hK hP 0 rfl rfl 0 (by decide) (hts (.fieldLink RX3 9 "ConceptTable$Neighbours" "found" "[I") (by decide +kernel)) (fun _ h9 => h9) rfl dX3_insert_38 ?_
            refine lv_iload_n hx hb dX3_insert_41 rfl (lv_at hl 0 rfl) ?_
            refine lv_aload_n hx hb dX3_insert_42 rfl (lv_at hl 1 rfl) ?_
            refine va_get (D := D) (ci := 3) (v := .ref h2) (C := RX3) (T := TX3) (N := 2) hx hb hts (by decide +kernel) hown hK hP 0 rfl rfl 0 (by decide) (hts (.fieldLink RX3 9 "ConceptTable$Neighbours" "found" "[I") (by decide +kernel)) (fun _ h9 => h9) rfl dX3_insert_43 ?_
            refine lv_iload_n hx hb dX3_insert_46 rfl (lv_at hl 0 rfl) ?_
            refine lv_iconst (v := 1) hx hb dX3_insert_47 (by decide) ?_
            refine lv_isub hx hb dX3_insert_48 ?_
            refine lv_re (y := (nI (d_ - 1))) (pk_sub (a := d_) (b := 1) (by omega)) ?_
            refine va_iald hx hb hK hP 1 0 rfl rfl (vp_in_nI (by omega) (by omega)) dX3_insert_49 ?_
            refine lv_re (y := (nI (fd1 (d_ - 1)))) (by rw [nI_clamp (by omega)]) ?_
            refine va_iast hx hb hK hP hD hS 1 0 rfl rfl (vp_in_nI (by omega) (by omega)) dX3_insert_50 (fun H locs hP hD hS => ?_)
            have e_up : (upd (fun i_ => nI (fd1 i_)) (nI d_).toNatClampNeg (nI (fd1 (d_ - 1)))) = (fun i_ => nI ((va_up fd1 d_ (fd1 (d_ - 1))) i_)) := by rw [show (nI d_).toNatClampNeg = d_ from nI_clamp (by omega)]; exact up_nI fd1 d_ (fd1 (d_ - 1))
            have hP : va_P D vwCl [(h0, .inr (3, [.ref h2, .int (nI z)])), (h2, .inl (cI, 20, .inl (fun i_ => nI ((va_up fd1 d_ (fd1 (d_ - 1))) i_))))] H := by rw [← e_up]; exact hP
            have hD : va_D A [(h0, .inr (3, [.ref h2, .int (nI z)])), (h2, .inl (cI, 20, .inl (fun i_ => nI ((va_up fd1 d_ (fd1 (d_ - 1))) i_))))] := by rw [← e_up]; exact hD
            clear e_up
            refine lv_iinc (v := ((nI d_) + (-1 : Int32))) (lv' := [(2, .int ((nI d_) + (-1 : Int32))), (0, .ref h0), (1, .int (nI q))]) hx hb dX3_insert_51 hl (k := 0) rfl rfl (by decide) rfl (fun ls hl => ?_)
            refine lv_goto (tgt := 18) hx hb dX3_insert_54 (by decide) ?_
            exact ih_18 (d_ - 1) (va_up fd1 d_ (fd1 (d_ - 1))) (by omega) (by omega) (fun j hj => by rw [va_up_ne _ _ (by omega)]; exact hf1 j (by omega)) (fun j h1 h2 => if h_ : j = d_ then by rw [h_, va_up_self]; exact hf1 (d_ - 1) (by omega) else by rw [va_up_ne _ _ h_]; exact hf2 j (by omega) h2) (fun j h1 h2 => if h_ : j = d_ - 1 then by rw [h_, ← hf1 (d_ - 1) (by omega)]; exact c_34 else hf3 j (by omega) h2) _ (by exact dn_e (by omega)) _ _ (hP.sub [0, 1] rfl) (hD.sub [0, 1] (by decide) rfl) hS _ (lv_sub hl [0, 1, 2] rfl)
    exact lp_18 _ z fd (Nat.lt_succ_self _) (Nat.le_refl _) (fun _ _ => rfl) (fun j h1 h2 => absurd h1 (by omega)) (fun j h1 h2 => absurd h1 (by omega)) _ rfl _ _ hP hD hS _ (lv_sub hl [0, 1, 2] rfl)
  · have c_9 : 20 ≤ z := Nat.le_of_not_lt (fun h_ => c_9 ((nI_ltI (a := z) (b := 20) (by omega) (by omega)).mpr h_))
    exact absurd c_9 (by omega)

set_option maxHeartbeats 4000000 in
set_option maxRecDepth 100000 in
theorem c_X3_offer (l : Launch) (D : va_G) (sz : Nat) (h0 : Nat) (h2 : Nat) (z : Nat) (cI : ClassId) (fd : Nat → Nat) (L : List Nat) (q : Nat) (n : Nat) (P : Nat → Prop) (hn : n ≤ 12) (hL : lstAt fd L) (hzL : z = L.length) (hz : z < 20) (hq : q < 2 ^ n) (hPn : ∀ s, P s → s < 2 ^ n) (hN : NbOK P L) : Met l yX3_offer wsX3_offer ({ frames := 2, cells := 0, slots := 0, locals := 45 }) (va_Pc [.ref h0, .int (nI q)] (fun U => U.heap.size = sz ∧ va_P D vwCl [(h0, .inr (3, [.ref h2, .int (nI z)])), (h2, .inl (cI, 20, .inl (fun i_ => nI (fd i_))))] U.heap ∧ va_K D vwCl [(cI, .int)] U ∧ va_D (fun _ => True) [(h0, .inr (3, [.ref h2, .int (nI z)])), (h2, .inl (cI, 20, .inl (fun i_ => nI (fd i_))))])) (mxQ (fun u_ : Nat × (Nat → Nat) × (List Nat) => match u_ with | (z', fd', L') => none) (fun u_ : Nat × (Nat → Nat) × (List Nat) => match u_ with | (z', fd', L') => (lstAt fd' L') ∧ (z' = L'.length) ∧ (z' ≤ z + 1) ∧ (NbOK (fun s => P s ∨ s = q) L')) (fun u_ : Nat × (Nat → Nat) × (List Nat) => match u_ with | (z', fd', L') => [(h0, .inr (3, [.ref h2, .int (nI z')])), (h2, .inl (cI, 20, .inl (fun i_ => nI (fd' i_))))]) D vwCl (va_A [(h0, .inr (3, [.ref h2, .int (nI z)])), (h2, .inl (cI, 20, .inl (fun i_ => nI (fd i_))))] sz)) 0 0 (va_A [(h0, .inr (3, [.ref h2, .int (nI z)])), (h2, .inl (cI, 20, .inl (fun i_ => nI (fd i_))))] sz) := by
  refine Met.ofW (cc := cX3_offer) (maxL := 2) (ret := none) (by decide) rfl ?_
  intro p e s m args below meth c s₁ B hml hv
  obtain ⟨rfl, hsz, hP, hK, hD0⟩ := hv
  have hx := B.exec
  have hb := B.bytes
  have hr := B.returns
  have hts := atoms_spec (ws := wsX3_offer) B.pre
  have hown : s.vm.findClass RX3 = some m.cls := findClass_of_methodNamed B.named
  have hlocks := B.notSynchronized
  subst hsz
  have hD := hD0.self (sz := s.heap.size)
  generalize hAe : va_A [(h0, .inr (3, [.ref h2, .int (nI z)])), (h2, .inl (cI, 20, .inl (fun i_ => nI (fd i_))))] s.heap.size = A at hD ⊢
  have hA : ∀ q : Nat, s.heap.size ≤ q → A q := fun q h => by rw [← hAe]; exact Or.inr h
  have hS : va_S A s.heap s.heap [] := va_S.rf
  have hl := lv_entry ([.ref h0, .int (nI q)]) (n := 2) (Nat.le_of_ble_eq_true rfl)
  rw [lg_entry_eq]
  generalize (lg_sl ([.ref h0, .int (nI q)]) ++ List.replicate (2 - (lg_sl ([.ref h0, .int (nI q)])).length) Slot.unset).toArray = ls at hl ⊢
  have hl : lv_has ls 2 [(0, .ref h0), (1, .int (nI q))] := hl
  have h2n := p2_le hn
  have hbd : ∀ j, j < z → fd j < 2 ^ n := fun j hj => hPn _ (hN.1 _ (lstAt_mem hL (by omega)))
  refine lv_aload_n hx hb dX3_offer_0 rfl (lv_at hl 0 rfl) ?_
  refine lv_iload_n hx hb dX3_offer_1 rfl (lv_at hl 1 rfl) ?_
  refine rd_V (As := [.int (nI q)]) (rest := []) ⟨hx, hb, hml, hown, hts⟩ (c_X3_isPartOfFound l D h0 ([.ref h2, .int (nI z)]) h2 cI z fd q rfl rfl (by omega) (by omega)) (cwV 1 hts gX3_offer_X3_isPartOfFound rfl rfl rfl (by decide +kernel) ⟨Nat.le_of_ble_eq_true rfl, Nat.le_of_ble_eq_true rfl⟩) (hP.sub (ws' := [(h0, .inr (3, [.ref h2, .int (nI z)])), (h2, .inl (cI, 20, .inl (fun i_ => nI (fd i_))))]) [0, 1] rfl) (hK.sub (tys' := [(cI, .int)]) [0] rfl) (va_recv hK hP (ci := 3) (q0 := 0) rfl rfl) rfl rfl hl.1 rfl (lv_room (Nat.le_of_ble_eq_true rfl)) dX3_offer_2 ⟨Nat.le_of_ble_eq_true rfl, Nat.le_of_ble_eq_true rfl⟩ ?_
  refine lv_if_ne (tgt := 18) hx hb dX3_offer_5 (by decide) (fun c_5 => ?_) (fun c_5 => ?_)
  · have c_5 := b2_n0.mp c_5
    have hpf := (pfB_iff hL).mp (by rw [← hzL]; exact c_5)
    have hP := hP.sub (ws' := [(h0, .inr (3, [.ref h2, .int (nI z)])), (h2, .inl (cI, 20, .inl (fun i_ => nI (fd i_))))]) [0, 1] rfl
    have hD := hD.sub (ws' := [(h0, .inr (3, [.ref h2, .int (nI z)])), (h2, .inl (cI, 20, .inl (fun i_ => nI (fd i_))))]) [0, 1] (by decide) rfl
    exact W.vret hx hb hr (fun t ht hW => ⟨⟨(z, fd, L), rfl, ⟨hL, hzL, (by omega), (nb_keep hN hpf)⟩, by rw [ht]; exact hP, hD⟩, hS.F ht⟩) hS.2.2 dX3_offer_18
  · have c_5 := b2_0.mp c_5
    have hpf : ¬ ∃ x, x ∈ L ∧ sN q x = true := fun h_ => by rw [hzL, (pfB_iff hL).mpr h_] at c_5; cases c_5
    refine lv_aload_n hx hb dX3_offer_8 rfl (lv_at hl 0 rfl) ?_
    refine lv_iload_n hx hb dX3_offer_9 rfl (lv_at hl 1 rfl) ?_
    have hPc := hP.sub (ws' := [(h0, .inr (3, [.ref h2, .int (nI z)])), (h2, .inl (cI, 20, .inl (fun i_ => nI (fd i_))))]) [0, 1] rfl
    have hDc := hD.sub (ws' := [(h0, .inr (3, [.ref h2, .int (nI z)])), (h2, .inl (cI, 20, .inl (fun i_ => nI (fd i_))))]) [0, 1] (by decide) rfl
    have hKc := hK.sub (tys' := [(cI, .int)]) [0] rfl
    have hFc := va_free (wc := [(h0, .inr (3, [.ref h2, .int (nI z)])), (h2, .inl (cI, 20, .inl (fun i_ => nI (fd i_))))]) hD hS hA [0, 1] rfl
    refine mx_call (va_runV (As := [.int (nI q)]) (rest := []) ⟨hx, hb, hml, hown, hts⟩ (c_X3_dropPartsOf l D s.heap.size h0 h2 z cI fd L q hL hzL (by omega) (fun j hj => Nat.lt_of_lt_of_le (hbd j hj) (by omega))) (cwV 1 hts gX3_offer_X3_dropPartsOf rfl rfl rfl (by decide +kernel) ⟨Nat.le_of_ble_eq_true rfl, Nat.le_of_ble_eq_true rfl⟩) ⟨mu_bl, va_recv hKc hPc (ci := 3) (q0 := 0) rfl rfl, fun U hU hW => ⟨rfl, by rw [hU], by rw [hU]; exact hPc, va_K.moved hW.alike hKc, hDc.weaken (fun _ _ _ _ => trivial)⟩⟩ rfl rfl hl.1 rfl (lv_room (Nat.le_of_ble_eq_true rfl)) dX3_offer_10 ⟨Nat.le_of_ble_eq_true rfl, Nat.le_of_ble_eq_true rfl⟩) hS (fun q _ h => hFc q h) hFc (fun u_ H1 locs hq_ hP1 hD1 hk1 hS => ?_)
    obtain ⟨z1, fd1⟩ := u_
    have hP1 : va_P D vwCl [(h0, .inr (3, [.ref h2, .int (nI z1)])), (h2, .inl (cI, 20, .inl (fun i_ => nI (fd1 i_))))] H1 := hP1
    have hD1 : va_D (va_A [(h0, .inr (3, [.ref h2, .int (nI z)])), (h2, .inl (cI, 20, .inl (fun i_ => nI (fd i_))))] s.heap.size) [(h0, .inr (3, [.ref h2, .int (nI z1)])), (h2, .inl (cI, 20, .inl (fun i_ => nI (fd1 i_))))] := hD1
    obtain ⟨hd1, hd2⟩ := hq_
    have hd1 : z1 = (L.filter (fun x => !(sN x q))).length := hd1
    have hd2 : lstAt fd1 (L.filter (fun x => !(sN x q))) := hd2
    obtain ⟨hP, hD⟩ := va_join (wr := []) (w1 := [(h0, .inr (3, [.ref h2, .int (nI z1)])), (h2, .inl (cI, 20, .inl (fun i_ => nI (fd1 i_))))]) hP hD [0, 1] [] rfl rfl (by decide) (by decide) hk1 hFc hP1 hD1
    generalize H1 = H at hP hS ⊢
    have hP : va_P D vwCl [(h0, .inr (3, [.ref h2, .int (nI z1)])), (h2, .inl (cI, 20, .inl (fun i_ => nI (fd1 i_))))] H := hP
    have hD : va_D A [(h0, .inr (3, [.ref h2, .int (nI z1)])), (h2, .inl (cI, 20, .inl (fun i_ => nI (fd1 i_))))] := hD
    have hfl := List.length_filter_le (fun x => !(sN x q)) L
    refine lv_aload_n hx hb dX3_offer_13 rfl (lv_at hl 0 rfl) ?_
    refine lv_iload_n hx hb dX3_offer_14 rfl (lv_at hl 1 rfl) ?_
    have hPc := hP.sub (ws' := [(h0, .inr (3, [.ref h2, .int (nI z1)])), (h2, .inl (cI, 20, .inl (fun i_ => nI (fd1 i_))))]) [0, 1] rfl
    have hDc := hD.sub (ws' := [(h0, .inr (3, [.ref h2, .int (nI z1)])), (h2, .inl (cI, 20, .inl (fun i_ => nI (fd1 i_))))]) [0, 1] (by decide) rfl
    have hKc := hK.sub (tys' := [(cI, .int)]) [0] rfl
    have hFc := va_free (wc := [(h0, .inr (3, [.ref h2, .int (nI z1)])), (h2, .inl (cI, 20, .inl (fun i_ => nI (fd1 i_))))]) hD hS hA [0, 1] rfl
    refine mx_call (va_runV (As := [.int (nI q)]) (rest := []) ⟨hx, hb, hml, hown, hts⟩ (c_X3_insert l D H.size h0 h2 z1 cI fd1 (L.filter (fun x => !(sN x q))) q hd2 hd1 (by omega)) (cwV 1 hts gX3_offer_X3_insert rfl rfl rfl (by decide +kernel) ⟨Nat.le_of_ble_eq_true rfl, Nat.le_of_ble_eq_true rfl⟩) ⟨mu_bl, va_recv hKc hPc (ci := 3) (q0 := 0) rfl rfl, fun U hU hW => ⟨rfl, by rw [hU], by rw [hU]; exact hPc, va_K.moved hW.alike hKc, hDc.weaken (fun _ _ _ _ => trivial)⟩⟩ rfl rfl hl.1 rfl (lv_room (Nat.le_of_ble_eq_true rfl)) dX3_offer_15 ⟨Nat.le_of_ble_eq_true rfl, Nat.le_of_ble_eq_true rfl⟩) hS (fun q _ h => hFc q h) hFc (fun u_ H1 locs hq_ hP1 hD1 hk1 hS => ?_)
    obtain ⟨p1, fd2⟩ := u_
    have hP1 : va_P D vwCl [(h0, .inr (3, [.ref h2, .int (nI (z1 + 1))])), (h2, .inl (cI, 20, .inl (fun i_ => nI (fd2 i_))))] H1 := hP1
    have hD1 : va_D (va_A [(h0, .inr (3, [.ref h2, .int (nI z1)])), (h2, .inl (cI, 20, .inl (fun i_ => nI (fd1 i_))))] H.size) [(h0, .inr (3, [.ref h2, .int (nI (z1 + 1))])), (h2, .inl (cI, 20, .inl (fun i_ => nI (fd2 i_))))] := hD1
    obtain ⟨hi1, hi2, hi3, hi4⟩ := hq_
    have hi1 : p1 ≤ z1 := hi1
    have hi2 : lstAt fd2 ((L.filter (fun x => !(sN x q))).take p1 ++ q :: (L.filter (fun x => !(sN x q))).drop p1) := hi2
    have hi3 : ∀ j, p1 ≤ j → j < z1 → clI (nI (fd1 j)) (nI q) = true := hi3
    have hi4 : p1 = 0 ∨ clI (nI (fd1 (p1 - 1))) (nI q) = false := hi4
    obtain ⟨hP, hD⟩ := va_join (wr := []) (w1 := [(h0, .inr (3, [.ref h2, .int (nI (z1 + 1))])), (h2, .inl (cI, 20, .inl (fun i_ => nI (fd2 i_))))]) hP hD [0, 1] [] rfl rfl (by decide) (by decide) hk1 hFc hP1 hD1
    generalize H1 = H at hP hS ⊢
    have hP : va_P D vwCl [(h0, .inr (3, [.ref h2, .int (nI (z1 + 1))])), (h2, .inl (cI, 20, .inl (fun i_ => nI (fd2 i_))))] H := hP
    have hD : va_D A [(h0, .inr (3, [.ref h2, .int (nI (z1 + 1))])), (h2, .inl (cI, 20, .inl (fun i_ => nI (fd2 i_))))] := hD
    have hP := hP.sub (ws' := [(h0, .inr (3, [.ref h2, .int (nI (z1 + 1))])), (h2, .inl (cI, 20, .inl (fun i_ => nI (fd2 i_))))]) [0, 1] rfl
    have hD := hD.sub (ws' := [(h0, .inr (3, [.ref h2, .int (nI (z1 + 1))])), (h2, .inl (cI, 20, .inl (fun i_ => nI (fd2 i_))))]) [0, 1] (by decide) rfl
    exact W.vret hx hb hr (fun t ht hW => ⟨⟨((z1 + 1), fd2, ((L.filter (fun x => !(sN x q))).take p1 ++ q :: (L.filter (fun x => !(sN x q))).drop p1)), rfl, ⟨hi2, (by rw [List.length_append, List.length_cons, List.length_take, List.length_drop]; omega), (by omega), (nb_offer hn hq hPn hN hpf hd2 (by omega) (fun j h1 h2 => hi3 j h1 (by omega)) hi4)⟩, by rw [ht]; exact hP, hD⟩, hS.F ht⟩) hS.2.2 dX3_offer_18

set_option maxHeartbeats 4000000 in
set_option maxRecDepth 100000 in
theorem c_X3_findAbove (l : Launch) (D : va_G) (sz : Nat) (h0 : Nat) (h2 : Nat) (z : Nat) (cI : ClassId) (fd : Nat → Nat) (ht : Nat) (ft : List Value) (hro : Nat) (n : Nat) (o : Nat) (r : Nat → Nat) (q : Nat) (t0 : ft[0]? = some (.ref hro)) (t2 : ft[2]? = some (.int (nI o))) (hn : n ≤ 12) (ho : o ≤ 20) (hq : q < 2 ^ n) : Met l yX3_findAbove wsX3_findAbove ({ frames := 3, cells := 0, slots := 0, locals := 66 }) (va_Pc [.ref h0, .int (nI q), .ref ht] (fun U => U.heap.size = sz ∧ va_P D vwCl [(h0, .inr (3, [.ref h2, .int (nI z)])), (h2, .inl (cI, 20, .inl (fun i_ => nI (fd i_)))), (ht, .inr (5, ft)), (hro, .inl (cI, 20, .inl (fun i_ => nI (r i_))))] U.heap ∧ va_K D vwCl [(cI, .int)] U ∧ va_D (fun _ => True) [(h0, .inr (3, [.ref h2, .int (nI z)])), (h2, .inl (cI, 20, .inl (fun i_ => nI (fd i_)))), (ht, .inr (5, ft)), (hro, .inl (cI, 20, .inl (fun i_ => nI (r i_))))])) (mxQ (fun u_ : Nat × (Nat → Nat) × (List Nat) => match u_ with | (z', fd', L') => none) (fun u_ : Nat × (Nat → Nat) × (List Nat) => match u_ with | (z', fd', L') => (lstAt fd' L') ∧ (z' = L'.length) ∧ (z' ≤ 20) ∧ (NbOK (P_ab r q o) L')) (fun u_ : Nat × (Nat → Nat) × (List Nat) => match u_ with | (z', fd', L') => [(h0, .inr (3, [.ref h2, .int (nI z')])), (h2, .inl (cI, 20, .inl (fun i_ => nI (fd' i_)))), (ht, .inr (5, ft)), (hro, .inl (cI, 20, .inl (fun i_ => nI (r i_))))]) D vwCl (va_A [(h0, .inr (3, [.ref h2, .int (nI z)])), (h2, .inl (cI, 20, .inl (fun i_ => nI (fd i_)))), (ht, .inr (5, ft)), (hro, .inl (cI, 20, .inl (fun i_ => nI (r i_))))] sz)) 0 0 (va_A [(h0, .inr (3, [.ref h2, .int (nI z)])), (h2, .inl (cI, 20, .inl (fun i_ => nI (fd i_)))), (ht, .inr (5, ft)), (hro, .inl (cI, 20, .inl (fun i_ => nI (r i_))))] sz) := by
  refine Met.ofW (cc := cX3_findAbove) (maxL := 5) (ret := none) (by decide) rfl ?_
  intro p e s m args below meth c s₁ B hml hv
  obtain ⟨rfl, hsz, hP, hK, hD0⟩ := hv
  have hx := B.exec
  have hb := B.bytes
  have hr := B.returns
  have hts := atoms_spec (ws := wsX3_findAbove) B.pre
  have hown : s.vm.findClass RX3 = some m.cls := findClass_of_methodNamed B.named
  have hlocks := B.notSynchronized
  subst hsz
  have hD := hD0.self (sz := s.heap.size)
  generalize hAe : va_A [(h0, .inr (3, [.ref h2, .int (nI z)])), (h2, .inl (cI, 20, .inl (fun i_ => nI (fd i_)))), (ht, .inr (5, ft)), (hro, .inl (cI, 20, .inl (fun i_ => nI (r i_))))] s.heap.size = A at hD ⊢
  have hA : ∀ q : Nat, s.heap.size ≤ q → A q := fun q h => by rw [← hAe]; exact Or.inr h
  have hS : va_S A s.heap s.heap [] := va_S.rf
  have hl := lv_entry ([.ref h0, .int (nI q), .ref ht]) (n := 5) (Nat.le_of_ble_eq_true rfl)
  rw [lg_entry_eq]
  generalize (lg_sl ([.ref h0, .int (nI q), .ref ht]) ++ List.replicate (5 - (lg_sl ([.ref h0, .int (nI q), .ref ht])).length) Slot.unset).toArray = ls at hl ⊢
  have hl : lv_has ls 5 [(0, .ref h0), (1, .int (nI q)), (2, .ref ht)] := hl
  have h2n := p2_le hn
  have hp1 := p2_pos n
  refine lv_aload_n hx hb dX3_findAbove_0 rfl (lv_at hl 0 rfl) ?_
  refine lv_iconst (v := 0) hx hb dX3_findAbove_1 (by decide) ?_
  refine va_put (D := D) (ci := 3) (v := .int (0 : Int32)) (ty := .int) (C := RX3) (T := TX3) (N := 2) hx hb hts (by decide +kernel) tyX3 tyX3_ok nmX3 hown hK hP hD hS 0 rfl rfl 1 (by decide) (hts (.fieldLink RX3 15 "ConceptTable$Neighbours" "size" "I") (by decide +kernel)) (fun _ h9 => h9) rfl (by decide +kernel) rfl rfl (Nat.le_of_ble_eq_true rfl) dX3_findAbove_2 (fun H locs hP hD hS => ?_)
  have hP : va_P D vwCl [(h0, .inr (3, [.ref h2, .int (0 : Int32)])), (h2, .inl (cI, 20, .inl (fun i_ => nI (fd i_)))), (ht, .inr (5, ft)), (hro, .inl (cI, 20, .inl (fun i_ => nI (r i_))))] H := hP
  have hD : va_D A [(h0, .inr (3, [.ref h2, .int (0 : Int32)])), (h2, .inl (cI, 20, .inl (fun i_ => nI (fd i_)))), (ht, .inr (5, ft)), (hro, .inl (cI, 20, .inl (fun i_ => nI (r i_))))] := hD
  refine lv_iconst (v := 0) hx hb dX3_findAbove_5 (by decide) ?_
  refine lv_istore_n (lv' := [(3, .int (0 : Int32)), (0, .ref h0), (1, .int (nI q)), (2, .ref ht)]) hx hb dX3_findAbove_6 rfl hl (by decide) rfl (fun ls hl => ?_)
  have lp_7 : ∀ (n_ : Nat) (k : Nat) (z1 : Nat) (fd1 : Nat → Nat) (L1 : List Nat), o - k < n_ → (k ≤ o) → (lstAt fd1 L1) → (z1 = L1.length) → (z1 ≤ k) → (NbOK (P_ab r q k) L1) → ∀ (x3 : Int32), x3 = nI k → ∀ (f_h0_1 : Int32), f_h0_1 = nI z1 → ∀ (H : Heap) (locs : List Loc), va_P D vwCl [(h0, .inr (3, [.ref h2, .int f_h0_1])), (h2, .inl (cI, 20, .inl (fun i_ => nI (fd1 i_)))), (ht, .inr (5, ft)), (hro, .inl (cI, 20, .inl (fun i_ => nI (r i_))))] H → va_D A [(h0, .inr (3, [.ref h2, .int f_h0_1])), (h2, .inl (cI, 20, .inl (fun i_ => nI (fd1 i_)))), (ht, .inr (5, ft)), (hro, .inl (cI, 20, .inl (fun i_ => nI (r i_))))] → va_S A s.heap H locs → ∀ (ls : Array Slot), lv_has ls 5 [(3, .int x3), (0, .ref h0), (1, .int (nI q)), (2, .ref ht)] → W p l e (headSpec wsX3_findAbove ({ frames := 3, cells := 0, slots := 0, locals := 66 })).room s m ([.ref h0, .int (nI q), .ref ht] : List Value).toArray below meth c H locs 0 0 (MQ below (mxQ (fun u_ : Nat × (Nat → Nat) × (List Nat) => match u_ with | (z', fd', L') => none) (fun u_ : Nat × (Nat → Nat) × (List Nat) => match u_ with | (z', fd', L') => (lstAt fd' L') ∧ (z' = L'.length) ∧ (z' ≤ 20) ∧ (NbOK (P_ab r q o) L')) (fun u_ : Nat × (Nat → Nat) × (List Nat) => match u_ with | (z', fd', L') => [(h0, .inr (3, [.ref h2, .int (nI z')])), (h2, .inl (cI, 20, .inl (fun i_ => nI (fd' i_)))), (ht, .inr (5, ft)), (hro, .inl (cI, 20, .inl (fun i_ => nI (r i_))))]) D vwCl A) ([.ref h0, .int (nI q), .ref ht] : List Value).toArray s 0 0 A) (F0 m 7 ls []) := by
    intro n_
    induction n_ with
    | zero => intro k z1 fd1 L1 h0_; exact absurd h0_ (Nat.not_lt_zero _)
    | succ n_ ih_7 =>
      intro k z1 fd1 L1 hm_7 hk hl1 hl2 hl3 hl4 x3 e_x3 f_h0_1 e_f_h0_1 H locs hP hD hS ls hl
      subst e_x3
      subst e_f_h0_1
      refine lv_iload_n hx hb dX3_findAbove_7 rfl (lv_at hl 0 rfl) ?_
      refine lv_aload_n hx hb dX3_findAbove_8 rfl (lv_at hl 3 rfl) ?_
      refine rd_V (As := []) (rest := [.int (nI k)]) ⟨hx, hb, hml, hown, hts⟩ (c_X6_size l D ht ft o t2) (cwV 0 hts gX3_findAbove_X6_size rfl rfl rfl (by decide +kernel) ⟨Nat.le_of_ble_eq_true rfl, Nat.le_of_ble_eq_true rfl⟩) (hP.sub (ws' := [(ht, .inr (5, ft))]) [2] rfl) (hK.sub (tys' := []) [] rfl) (va_recv hK hP (ci := 5) (q0 := 2) rfl rfl) rfl rfl hl.1 rfl (lv_room (Nat.le_of_ble_eq_true rfl)) dX3_findAbove_9 ⟨Nat.le_of_ble_eq_true rfl, Nat.le_of_ble_eq_true rfl⟩ ?_
      refine lv_icmp_ge (tgt := 42) hx hb dX3_findAbove_12 (by decide) (fun c_12 => ?_) (fun c_12 => ?_)
      · have c_12 : o ≤ k := (nI_leI (a := o) (b := k) (by omega) (by omega)).mp c_12
        have hP := hP.sub (ws' := [(h0, .inr (3, [.ref h2, .int (nI z1)])), (h2, .inl (cI, 20, .inl (fun i_ => nI (fd1 i_)))), (ht, .inr (5, ft)), (hro, .inl (cI, 20, .inl (fun i_ => nI (r i_))))]) [0, 1, 2, 3] rfl
        have hD := hD.sub (ws' := [(h0, .inr (3, [.ref h2, .int (nI z1)])), (h2, .inl (cI, 20, .inl (fun i_ => nI (fd1 i_)))), (ht, .inr (5, ft)), (hro, .inl (cI, 20, .inl (fun i_ => nI (r i_))))]) [0, 1, 2, 3] (by decide) rfl
        exact W.vret hx hb hr (fun t ht hW => ⟨⟨(z1, fd1, L1), rfl, ⟨hl1, hl2, (by omega), (by rw [show o = k by omega]; exact hl4)⟩, by rw [ht]; exact hP, hD⟩, hS.F ht⟩) hS.2.2 dX3_findAbove_42
      · have c_12 : k < o := Nat.lt_of_not_le (fun h_ => c_12 ((nI_leI (a := o) (b := k) (by omega) (by omega)).mpr h_))
        refine lv_iload_n hx hb dX3_findAbove_15 rfl (lv_at hl 2 rfl) ?_
        refine lv_aload_n hx hb dX3_findAbove_16 rfl (lv_at hl 3 rfl) ?_
        refine lv_iload_n hx hb dX3_findAbove_17 rfl (lv_at hl 0 rfl) ?_
        refine rd_V (As := [.int (nI k)]) (rest := [.int (nI q)]) ⟨hx, hb, hml, hown, hts⟩ (c_X6_row l D ht ft hro cI o r k t0 t2 ho (by omega)) (cwV 1 hts gX3_findAbove_X6_row rfl rfl rfl (by decide +kernel) ⟨Nat.le_of_ble_eq_true rfl, Nat.le_of_ble_eq_true rfl⟩) (hP.sub (ws' := [(ht, .inr (5, ft)), (hro, .inl (cI, 20, .inl (fun i_ => nI (r i_))))]) [2, 3] rfl) (hK.sub (tys' := [(cI, .int)]) [0] rfl) (va_recv hK hP (ci := 5) (q0 := 2) rfl rfl) rfl rfl hl.1 rfl (lv_room (Nat.le_of_ble_eq_true rfl)) dX3_findAbove_18 ⟨Nat.le_of_ble_eq_true rfl, Nat.le_of_ble_eq_true rfl⟩ ?_
        refine lv_iand hx hb dX3_findAbove_21 ?_
        refine lv_re (y := (nI (q &&& (r k)))) (nx_and q (r k)) ?_
        refine lv_istore (lv' := [(4, .int (nI (q &&& (r k)))), (3, .int (nI k)), (0, .ref h0), (1, .int (nI q)), (2, .ref ht)]) hx hb dX3_findAbove_22 hl (by decide) rfl (fun ls hl => ?_)
        refine lv_iload hx hb dX3_findAbove_24 (lv_at hl 0 rfl) ?_
        refine lv_iload_n hx hb dX3_findAbove_26 rfl (lv_at hl 3 rfl) ?_
        refine lv_icmp_eq (tgt := 36) hx hb dX3_findAbove_27 (by decide) (fun c_27 => ?_) (fun c_27 => ?_)
        · have c_27 : (q &&& (r k)) = q := (nI_eq (a := (q &&& (r k))) (b := q) (Nat.lt_of_le_of_lt Nat.and_le_left (by omega)) (by omega)).mp c_27
          refine lv_iinc (v := (nI (k + 1))) (lv' := [(3, .int (nI (k + 1))), (4, .int (nI (q &&& (r k)))), (0, .ref h0), (1, .int (nI q)), (2, .ref ht)]) hx hb dX3_findAbove_36 hl (k := 1) rfl (nI_add _ 1) (by decide) rfl (fun ls hl => ?_)
          refine lv_goto (tgt := 7) hx hb dX3_findAbove_39 (by decide) ?_
          exact ih_7 (k + 1) z1 fd1 L1 (by omega) (by omega) hl1 hl2 (by omega) (nb_ex hl4 (ab_skip c_27)) _ rfl _ rfl _ _ (hP.sub [0, 1, 2, 3] rfl) (hD.sub [0, 1, 2, 3] (by decide) rfl) hS _ (lv_sub hl [0, 2, 3, 4] rfl)
        · have c_27 : ¬ (q &&& (r k)) = q := fun h_ => c_27 ((nI_eq (a := (q &&& (r k))) (b := q) (Nat.lt_of_le_of_lt Nat.and_le_left (by omega)) (by omega)).mpr h_)
          refine lv_aload_n hx hb dX3_findAbove_30 rfl (lv_at hl 2 rfl) ?_
          refine lv_iload hx hb dX3_findAbove_31 (lv_at hl 0 rfl) ?_
          have hPc := hP.sub (ws' := [(h0, .inr (3, [.ref h2, .int (nI z1)])), (h2, .inl (cI, 20, .inl (fun i_ => nI (fd1 i_))))]) [0, 1] rfl
          have hDc := hD.sub (ws' := [(h0, .inr (3, [.ref h2, .int (nI z1)])), (h2, .inl (cI, 20, .inl (fun i_ => nI (fd1 i_))))]) [0, 1] (by decide) rfl
          have hKc := hK.sub (tys' := [(cI, .int)]) [0] rfl
          have hFc := va_free (wc := [(h0, .inr (3, [.ref h2, .int (nI z1)])), (h2, .inl (cI, 20, .inl (fun i_ => nI (fd1 i_))))]) hD hS hA [0, 1] rfl
          refine mx_call (va_runV (As := [.int (nI (q &&& (r k)))]) (rest := []) ⟨hx, hb, hml, hown, hts⟩ (c_X3_offer l D H.size h0 h2 z1 cI fd1 L1 (q &&& (r k)) n (P_ab r q k) hn hl1 hl2 (by omega) (Nat.lt_of_le_of_lt Nat.and_le_left hq) (ab_lt hq) hl4) (cwV 1 hts gX3_findAbove_X3_offer rfl rfl rfl (by decide +kernel) ⟨Nat.le_of_ble_eq_true rfl, Nat.le_of_ble_eq_true rfl⟩) ⟨mu_bl, va_recv hKc hPc (ci := 3) (q0 := 0) rfl rfl, fun U hU hW => ⟨rfl, by rw [hU], by rw [hU]; exact hPc, va_K.moved hW.alike hKc, hDc.weaken (fun _ _ _ _ => trivial)⟩⟩ rfl rfl hl.1 rfl (lv_room (Nat.le_of_ble_eq_true rfl)) dX3_findAbove_33 ⟨Nat.le_of_ble_eq_true rfl, Nat.le_of_ble_eq_true rfl⟩) hS (fun q _ h => hFc q h) hFc (fun u_ H1 locs hq_ hP1 hD1 hk1 hS => ?_)
          obtain ⟨z2, fd2, L2⟩ := u_
          have hP1 : va_P D vwCl [(h0, .inr (3, [.ref h2, .int (nI z2)])), (h2, .inl (cI, 20, .inl (fun i_ => nI (fd2 i_))))] H1 := hP1
          have hD1 : va_D (va_A [(h0, .inr (3, [.ref h2, .int (nI z1)])), (h2, .inl (cI, 20, .inl (fun i_ => nI (fd1 i_))))] H.size) [(h0, .inr (3, [.ref h2, .int (nI z2)])), (h2, .inl (cI, 20, .inl (fun i_ => nI (fd2 i_))))] := hD1
          obtain ⟨ho1, ho2, ho3, ho4⟩ := hq_
          have ho1 : lstAt fd2 L2 := ho1
          have ho2 : z2 = L2.length := ho2
          have ho3 : z2 ≤ z1 + 1 := ho3
          have ho4 : NbOK (fun s => (P_ab r q k) s ∨ s = (q &&& (r k))) L2 := ho4
          obtain ⟨hP, hD⟩ := va_join (wr := [(ht, .inr (5, ft)), (hro, .inl (cI, 20, .inl (fun i_ => nI (r i_))))]) (w1 := [(h0, .inr (3, [.ref h2, .int (nI z2)])), (h2, .inl (cI, 20, .inl (fun i_ => nI (fd2 i_))))]) hP hD [0, 1] [2, 3] rfl rfl (by decide) (by decide) hk1 hFc hP1 hD1
          generalize H1 = H at hP hS ⊢
          have hP : va_P D vwCl [(ht, .inr (5, ft)), (hro, .inl (cI, 20, .inl (fun i_ => nI (r i_)))), (h0, .inr (3, [.ref h2, .int (nI z2)])), (h2, .inl (cI, 20, .inl (fun i_ => nI (fd2 i_))))] H := hP
          have hD : va_D A [(ht, .inr (5, ft)), (hro, .inl (cI, 20, .inl (fun i_ => nI (r i_)))), (h0, .inr (3, [.ref h2, .int (nI z2)])), (h2, .inl (cI, 20, .inl (fun i_ => nI (fd2 i_))))] := hD
          refine lv_iinc (v := (nI (k + 1))) (lv' := [(3, .int (nI (k + 1))), (4, .int (nI (q &&& (r k)))), (0, .ref h0), (1, .int (nI q)), (2, .ref ht)]) hx hb dX3_findAbove_36 hl (k := 1) rfl (nI_add _ 1) (by decide) rfl (fun ls hl => ?_)
          refine lv_goto (tgt := 7) hx hb dX3_findAbove_39 (by decide) ?_
          exact ih_7 (k + 1) z2 fd2 L2 (by omega) (by omega) ho1 ho2 (by omega) (nb_ex ho4 (ab_add c_27)) _ rfl _ rfl _ _ (hP.sub [2, 3, 0, 1] rfl) (hD.sub [2, 3, 0, 1] (by decide) rfl) hS _ (lv_sub hl [0, 2, 3, 4] rfl)
  exact lp_7 _ 0 0 fd ([]) (Nat.lt_succ_self _) (Nat.zero_le _) (lstAt_0 _) rfl (Nat.le_refl _) (nb_0 (fun s ⟨i, hi, _⟩ => absurd hi (Nat.not_lt_zero _))) _ rfl _ rfl _ _ hP hD hS _ (lv_sub hl [0, 1, 2, 3] rfl)

set_option maxHeartbeats 4000000 in
set_option maxRecDepth 100000 in
theorem c_X3_findBelow (l : Launch) (D : va_G) (sz : Nat) (h0 : Nat) (h2 : Nat) (z : Nat) (cI : ClassId) (fd : Nat → Nat) (ht : Nat) (ft : List Value) (hro : Nat) (n : Nat) (o : Nat) (r : Nat → Nat) (q : Nat) (t0 : ft[0]? = some (.ref hro)) (t1 : ft[1]? = some (.int (nI n))) (t2 : ft[2]? = some (.int (nI o))) (hn : n ≤ 12) (ho : o ≤ 20) (hq : q < 2 ^ n) : Met l yX3_findBelow wsX3_findBelow ({ frames := 3, cells := 0, slots := 0, locals := 66 }) (va_Pc [.ref h0, .int (nI q), .ref ht] (fun U => U.heap.size = sz ∧ va_P D vwCl [(h0, .inr (3, [.ref h2, .int (nI z)])), (h2, .inl (cI, 20, .inl (fun i_ => nI (fd i_)))), (ht, .inr (5, ft)), (hro, .inl (cI, 20, .inl (fun i_ => nI (r i_))))] U.heap ∧ va_K D vwCl [(cI, .int)] U ∧ va_D (fun _ => True) [(h0, .inr (3, [.ref h2, .int (nI z)])), (h2, .inl (cI, 20, .inl (fun i_ => nI (fd i_)))), (ht, .inr (5, ft)), (hro, .inl (cI, 20, .inl (fun i_ => nI (r i_))))])) (mxQ (fun u_ : Nat × (Nat → Nat) × (List Nat) => match u_ with | (z', fd', L') => none) (fun u_ : Nat × (Nat → Nat) × (List Nat) => match u_ with | (z', fd', L') => (lstAt fd' L') ∧ (z' = L'.length) ∧ (z' ≤ 20) ∧ (NbOK (P_be r n o q n) L')) (fun u_ : Nat × (Nat → Nat) × (List Nat) => match u_ with | (z', fd', L') => [(h0, .inr (3, [.ref h2, .int (nI z')])), (h2, .inl (cI, 20, .inl (fun i_ => nI (fd' i_)))), (ht, .inr (5, ft)), (hro, .inl (cI, 20, .inl (fun i_ => nI (r i_))))]) D vwCl (va_A [(h0, .inr (3, [.ref h2, .int (nI z)])), (h2, .inl (cI, 20, .inl (fun i_ => nI (fd i_)))), (ht, .inr (5, ft)), (hro, .inl (cI, 20, .inl (fun i_ => nI (r i_))))] sz)) 0 0 (va_A [(h0, .inr (3, [.ref h2, .int (nI z)])), (h2, .inl (cI, 20, .inl (fun i_ => nI (fd i_)))), (ht, .inr (5, ft)), (hro, .inl (cI, 20, .inl (fun i_ => nI (r i_))))] sz) := by
  refine Met.ofW (cc := cX3_findBelow) (maxL := 6) (ret := none) (by decide) rfl ?_
  intro p e s m args below meth c s₁ B hml hv
  obtain ⟨rfl, hsz, hP, hK, hD0⟩ := hv
  have hx := B.exec
  have hb := B.bytes
  have hr := B.returns
  have hts := atoms_spec (ws := wsX3_findBelow) B.pre
  have hown : s.vm.findClass RX3 = some m.cls := findClass_of_methodNamed B.named
  have hlocks := B.notSynchronized
  subst hsz
  have hD := hD0.self (sz := s.heap.size)
  generalize hAe : va_A [(h0, .inr (3, [.ref h2, .int (nI z)])), (h2, .inl (cI, 20, .inl (fun i_ => nI (fd i_)))), (ht, .inr (5, ft)), (hro, .inl (cI, 20, .inl (fun i_ => nI (r i_))))] s.heap.size = A at hD ⊢
  have hA : ∀ q : Nat, s.heap.size ≤ q → A q := fun q h => by rw [← hAe]; exact Or.inr h
  have hS : va_S A s.heap s.heap [] := va_S.rf
  have hl := lv_entry ([.ref h0, .int (nI q), .ref ht]) (n := 6) (Nat.le_of_ble_eq_true rfl)
  rw [lg_entry_eq]
  generalize (lg_sl ([.ref h0, .int (nI q), .ref ht]) ++ List.replicate (6 - (lg_sl ([.ref h0, .int (nI q), .ref ht])).length) Slot.unset).toArray = ls at hl ⊢
  have hl : lv_has ls 6 [(0, .ref h0), (1, .int (nI q)), (2, .ref ht)] := hl
  have h2n := p2_le hn
  have hp1 := p2_pos n
  refine lv_aload_n hx hb dX3_findBelow_0 rfl (lv_at hl 2 rfl) ?_
  refine rd_V (As := []) (rest := []) ⟨hx, hb, hml, hown, hts⟩ (c_X6_allAttributes l D ht ft n t1 hn) (cwV 0 hts gX3_findBelow_X6_allAttributes rfl rfl rfl (by decide +kernel) ⟨Nat.le_of_ble_eq_true rfl, Nat.le_of_ble_eq_true rfl⟩) (hP.sub (ws' := [(ht, .inr (5, ft))]) [2] rfl) (hK.sub (tys' := []) [] rfl) (va_recv hK hP (ci := 5) (q0 := 2) rfl rfl) rfl rfl hl.1 rfl (lv_room (Nat.le_of_ble_eq_true rfl)) dX3_findBelow_1 ⟨Nat.le_of_ble_eq_true rfl, Nat.le_of_ble_eq_true rfl⟩ ?_
  refine lv_istore_n (lv' := [(3, .int (nI (2 ^ n - 1))), (0, .ref h0), (1, .int (nI q)), (2, .ref ht)]) hx hb dX3_findBelow_4 rfl hl (by decide) rfl (fun ls hl => ?_)
  refine lv_aload_n hx hb dX3_findBelow_5 rfl (lv_at hl 1 rfl) ?_
  refine lv_iconst (v := 0) hx hb dX3_findBelow_6 (by decide) ?_
  refine va_put (D := D) (ci := 3) (v := .int (0 : Int32)) (ty := .int) (C := RX3) (T := TX3) (N := 2) hx hb hts (by decide +kernel) tyX3 tyX3_ok nmX3 hown hK hP hD hS 0 rfl rfl 1 (by decide) (hts (.fieldLink RX3 15 "ConceptTable$Neighbours" "size" "I") (by decide +kernel)) (fun _ h9 => h9) rfl (by decide +kernel) rfl rfl (Nat.le_of_ble_eq_true rfl) dX3_findBelow_7 (fun H locs hP hD hS => ?_)
  have hP : va_P D vwCl [(h0, .inr (3, [.ref h2, .int (0 : Int32)])), (h2, .inl (cI, 20, .inl (fun i_ => nI (fd i_)))), (ht, .inr (5, ft)), (hro, .inl (cI, 20, .inl (fun i_ => nI (r i_))))] H := hP
  have hD : va_D A [(h0, .inr (3, [.ref h2, .int (0 : Int32)])), (h2, .inl (cI, 20, .inl (fun i_ => nI (fd i_)))), (ht, .inr (5, ft)), (hro, .inl (cI, 20, .inl (fun i_ => nI (r i_))))] := hD
  refine lv_iconst (v := 0) hx hb dX3_findBelow_10 (by decide) ?_
  refine lv_istore (lv' := [(4, .int (0 : Int32)), (3, .int (nI (2 ^ n - 1))), (0, .ref h0), (1, .int (nI q)), (2, .ref ht)]) hx hb dX3_findBelow_11 hl (by decide) rfl (fun ls hl => ?_)
  have lp_13 : ∀ (n_ : Nat) (k : Nat) (z1 : Nat) (fd1 : Nat → Nat) (L1 : List Nat), n - k < n_ → (k ≤ n) → (lstAt fd1 L1) → (z1 = L1.length) → (z1 ≤ k) → (NbOK (P_be r n o q k) L1) → ∀ (x4 : Int32), x4 = nI k → ∀ (f_h0_1 : Int32), f_h0_1 = nI z1 → ∀ (H : Heap) (locs : List Loc), va_P D vwCl [(h0, .inr (3, [.ref h2, .int f_h0_1])), (h2, .inl (cI, 20, .inl (fun i_ => nI (fd1 i_)))), (ht, .inr (5, ft)), (hro, .inl (cI, 20, .inl (fun i_ => nI (r i_))))] H → va_D A [(h0, .inr (3, [.ref h2, .int f_h0_1])), (h2, .inl (cI, 20, .inl (fun i_ => nI (fd1 i_)))), (ht, .inr (5, ft)), (hro, .inl (cI, 20, .inl (fun i_ => nI (r i_))))] → va_S A s.heap H locs → ∀ (ls : Array Slot), lv_has ls 6 [(4, .int x4), (3, .int (nI (2 ^ n - 1))), (0, .ref h0), (1, .int (nI q)), (2, .ref ht)] → W p l e (headSpec wsX3_findBelow ({ frames := 3, cells := 0, slots := 0, locals := 66 })).room s m ([.ref h0, .int (nI q), .ref ht] : List Value).toArray below meth c H locs 0 0 (MQ below (mxQ (fun u_ : Nat × (Nat → Nat) × (List Nat) => match u_ with | (z', fd', L') => none) (fun u_ : Nat × (Nat → Nat) × (List Nat) => match u_ with | (z', fd', L') => (lstAt fd' L') ∧ (z' = L'.length) ∧ (z' ≤ 20) ∧ (NbOK (P_be r n o q n) L')) (fun u_ : Nat × (Nat → Nat) × (List Nat) => match u_ with | (z', fd', L') => [(h0, .inr (3, [.ref h2, .int (nI z')])), (h2, .inl (cI, 20, .inl (fun i_ => nI (fd' i_)))), (ht, .inr (5, ft)), (hro, .inl (cI, 20, .inl (fun i_ => nI (r i_))))]) D vwCl A) ([.ref h0, .int (nI q), .ref ht] : List Value).toArray s 0 0 A) (F0 m 13 ls []) := by
    intro n_
    induction n_ with
    | zero => intro k z1 fd1 L1 h0_; exact absurd h0_ (Nat.not_lt_zero _)
    | succ n_ ih_13 =>
      intro k z1 fd1 L1 hm_13 hk hl1 hl2 hl3 hl4 x4 e_x4 f_h0_1 e_f_h0_1 H locs hP hD hS ls hl
      subst e_x4
      subst e_f_h0_1
      refine lv_iload hx hb dX3_findBelow_13 (lv_at hl 0 rfl) ?_
      refine lv_aload_n hx hb dX3_findBelow_15 rfl (lv_at hl 4 rfl) ?_
      refine rd_V (As := []) (rest := [.int (nI k)]) ⟨hx, hb, hml, hown, hts⟩ (c_X6_attributes l D ht ft n t1) (cwV 0 hts gX3_findBelow_X6_attributes rfl rfl rfl (by decide +kernel) ⟨Nat.le_of_ble_eq_true rfl, Nat.le_of_ble_eq_true rfl⟩) (hP.sub (ws' := [(ht, .inr (5, ft))]) [2] rfl) (hK.sub (tys' := []) [] rfl) (va_recv hK hP (ci := 5) (q0 := 2) rfl rfl) rfl rfl hl.1 rfl (lv_room (Nat.le_of_ble_eq_true rfl)) dX3_findBelow_16 ⟨Nat.le_of_ble_eq_true rfl, Nat.le_of_ble_eq_true rfl⟩ ?_
      refine lv_icmp_ge (tgt := 55) hx hb dX3_findBelow_19 (by decide) (fun c_19 => ?_) (fun c_19 => ?_)
      · have c_19 : n ≤ k := (nI_leI (a := n) (b := k) (by omega) (by omega)).mp c_19
        have hP := hP.sub (ws' := [(h0, .inr (3, [.ref h2, .int (nI z1)])), (h2, .inl (cI, 20, .inl (fun i_ => nI (fd1 i_)))), (ht, .inr (5, ft)), (hro, .inl (cI, 20, .inl (fun i_ => nI (r i_))))]) [0, 1, 2, 3] rfl
        have hD := hD.sub (ws' := [(h0, .inr (3, [.ref h2, .int (nI z1)])), (h2, .inl (cI, 20, .inl (fun i_ => nI (fd1 i_)))), (ht, .inr (5, ft)), (hro, .inl (cI, 20, .inl (fun i_ => nI (r i_))))]) [0, 1, 2, 3] (by decide) rfl
        exact W.vret hx hb hr (fun t ht hW => ⟨⟨(z1, fd1, L1), rfl, ⟨hl1, hl2, (by omega), (nb_ex hl4 (fun s => by rw [show k = n by omega]))⟩, by rw [ht]; exact hP, hD⟩, hS.F ht⟩) hS.2.2 dX3_findBelow_55
      · have c_19 : k < n := Nat.lt_of_not_le (fun h_ => c_19 ((nI_leI (a := n) (b := k) (by omega) (by omega)).mpr h_))
        refine lv_iconst (v := 1) hx hb dX3_findBelow_22 (by decide) ?_
        refine lv_iload hx hb dX3_findBelow_23 (lv_at hl 0 rfl) ?_
        refine lv_ishl hx hb dX3_findBelow_25 ?_
        refine lv_re (y := (nI (2 ^ k))) (nx_sh1 (k := k) (by omega)) ?_
        refine lv_istore (lv' := [(5, .int (nI (2 ^ k))), (4, .int (nI k)), (3, .int (nI (2 ^ n - 1))), (0, .ref h0), (1, .int (nI q)), (2, .ref ht)]) hx hb dX3_findBelow_26 hl (by decide) rfl (fun ls hl => ?_)
        refine lv_iload_n hx hb dX3_findBelow_28 rfl (lv_at hl 4 rfl) ?_
        refine lv_iload hx hb dX3_findBelow_29 (lv_at hl 0 rfl) ?_
        refine lv_iand hx hb dX3_findBelow_31 ?_
        refine lv_re (y := (nI (q &&& (2 ^ k)))) (nx_and q (2 ^ k)) ?_
        refine lv_if_ne (tgt := 49) hx hb dX3_findBelow_32 (by decide) (fun c_32 => ?_) (fun c_32 => ?_)
        · have c_32 : ¬ (q &&& (2 ^ k)) = 0 := fun h_ => c_32 ((nI_eq (a := (q &&& (2 ^ k))) (b := 0) (Nat.lt_of_le_of_lt Nat.and_le_left (by omega)) (by decide)).mpr h_)
          refine lv_iinc (v := (nI (k + 1))) (lv' := [(4, .int (nI (k + 1))), (5, .int (nI (2 ^ k))), (3, .int (nI (2 ^ n - 1))), (0, .ref h0), (1, .int (nI q)), (2, .ref ht)]) hx hb dX3_findBelow_49 hl (k := 1) rfl (nI_add _ 1) (by decide) rfl (fun ls hl => ?_)
          refine lv_goto (tgt := 13) hx hb dX3_findBelow_52 (by decide) ?_
          exact ih_13 (k + 1) z1 fd1 L1 (by omega) (by omega) hl1 hl2 (by omega) (nb_ex hl4 (be_skip (and_pow_t c_32))) _ rfl _ rfl _ _ (hP.sub [0, 1, 2, 3] rfl) (hD.sub [0, 1, 2, 3] (by decide) rfl) hS _ (lv_sub hl [0, 2, 3, 4, 5] rfl)
        · have c_32 : (q &&& (2 ^ k)) = 0 := (nI_eq (a := (q &&& (2 ^ k))) (b := 0) (Nat.lt_of_le_of_lt Nat.and_le_left (by omega)) (by decide)).mp c_32
          refine lv_aload_n hx hb dX3_findBelow_35 rfl (lv_at hl 3 rfl) ?_
          refine lv_iload_n hx hb dX3_findBelow_36 rfl (lv_at hl 2 rfl) ?_
          refine lv_aload_n hx hb dX3_findBelow_37 rfl (lv_at hl 5 rfl) ?_
          refine lv_iload_n hx hb dX3_findBelow_38 rfl (lv_at hl 4 rfl) ?_
          refine lv_iload hx hb dX3_findBelow_39 (lv_at hl 0 rfl) ?_
          refine lv_ior hx hb dX3_findBelow_41 ?_
          refine lv_re (y := (nI (q ||| (2 ^ k)))) (nx_or q (2 ^ k)) ?_
          refine rd_V (As := [.int (nI (q ||| (2 ^ k)))]) (rest := [.int (nI (2 ^ n - 1)), .ref h0]) ⟨hx, hb, hml, hown, hts⟩ (c_X6_closureOf l D ht ft hro cI n o r (q ||| (2 ^ k)) t0 t1 t2 hn ho (by have := or_pow_lt hq (show k < n by omega); omega)) (cwV 1 hts gX3_findBelow_X6_closureOf rfl rfl rfl (by decide +kernel) ⟨Nat.le_of_ble_eq_true rfl, Nat.le_of_ble_eq_true rfl⟩) (hP.sub (ws' := [(ht, .inr (5, ft)), (hro, .inl (cI, 20, .inl (fun i_ => nI (r i_))))]) [2, 3] rfl) (hK.sub (tys' := [(cI, .int)]) [0] rfl) (va_recv hK hP (ci := 5) (q0 := 2) rfl rfl) rfl rfl hl.1 rfl (lv_room (Nat.le_of_ble_eq_true rfl)) dX3_findBelow_42 ⟨Nat.le_of_ble_eq_true rfl, Nat.le_of_ble_eq_true rfl⟩ ?_
          refine lv_ixor hx hb dX3_findBelow_45 ?_
          refine lv_re (y := (nI ((2 ^ n - 1) ^^^ (clo r n o (q ||| (2 ^ k)))))) (nx_xor (2 ^ n - 1) (clo r n o (q ||| (2 ^ k)))) ?_
          have hPc := hP.sub (ws' := [(h0, .inr (3, [.ref h2, .int (nI z1)])), (h2, .inl (cI, 20, .inl (fun i_ => nI (fd1 i_))))]) [0, 1] rfl
          have hDc := hD.sub (ws' := [(h0, .inr (3, [.ref h2, .int (nI z1)])), (h2, .inl (cI, 20, .inl (fun i_ => nI (fd1 i_))))]) [0, 1] (by decide) rfl
          have hKc := hK.sub (tys' := [(cI, .int)]) [0] rfl
          have hFc := va_free (wc := [(h0, .inr (3, [.ref h2, .int (nI z1)])), (h2, .inl (cI, 20, .inl (fun i_ => nI (fd1 i_))))]) hD hS hA [0, 1] rfl
          refine mx_call (va_runV (As := [.int (nI ((2 ^ n - 1) ^^^ (clo r n o (q ||| (2 ^ k)))))]) (rest := []) ⟨hx, hb, hml, hown, hts⟩ (c_X3_offer l D H.size h0 h2 z1 cI fd1 L1 ((2 ^ n - 1) ^^^ (clo r n o (q ||| (2 ^ k)))) n (P_be r n o q k) hn hl1 hl2 (by omega) (Nat.xor_lt_two_pow (by omega) (clo_lt _ _ _ _)) be_lt hl4) (cwV 1 hts gX3_findBelow_X3_offer rfl rfl rfl (by decide +kernel) ⟨Nat.le_of_ble_eq_true rfl, Nat.le_of_ble_eq_true rfl⟩) ⟨mu_bl, va_recv hKc hPc (ci := 3) (q0 := 0) rfl rfl, fun U hU hW => ⟨rfl, by rw [hU], by rw [hU]; exact hPc, va_K.moved hW.alike hKc, hDc.weaken (fun _ _ _ _ => trivial)⟩⟩ rfl rfl hl.1 rfl (lv_room (Nat.le_of_ble_eq_true rfl)) dX3_findBelow_46 ⟨Nat.le_of_ble_eq_true rfl, Nat.le_of_ble_eq_true rfl⟩) hS (fun q _ h => hFc q h) hFc (fun u_ H1 locs hq_ hP1 hD1 hk1 hS => ?_)
          obtain ⟨z2, fd2, L2⟩ := u_
          have hP1 : va_P D vwCl [(h0, .inr (3, [.ref h2, .int (nI z2)])), (h2, .inl (cI, 20, .inl (fun i_ => nI (fd2 i_))))] H1 := hP1
          have hD1 : va_D (va_A [(h0, .inr (3, [.ref h2, .int (nI z1)])), (h2, .inl (cI, 20, .inl (fun i_ => nI (fd1 i_))))] H.size) [(h0, .inr (3, [.ref h2, .int (nI z2)])), (h2, .inl (cI, 20, .inl (fun i_ => nI (fd2 i_))))] := hD1
          obtain ⟨ho1, ho2, ho3, ho4⟩ := hq_
          have ho1 : lstAt fd2 L2 := ho1
          have ho2 : z2 = L2.length := ho2
          have ho3 : z2 ≤ z1 + 1 := ho3
          have ho4 : NbOK (fun s => (P_be r n o q k) s ∨ s = ((2 ^ n - 1) ^^^ (clo r n o (q ||| (2 ^ k))))) L2 := ho4
          obtain ⟨hP, hD⟩ := va_join (wr := [(ht, .inr (5, ft)), (hro, .inl (cI, 20, .inl (fun i_ => nI (r i_))))]) (w1 := [(h0, .inr (3, [.ref h2, .int (nI z2)])), (h2, .inl (cI, 20, .inl (fun i_ => nI (fd2 i_))))]) hP hD [0, 1] [2, 3] rfl rfl (by decide) (by decide) hk1 hFc hP1 hD1
          generalize H1 = H at hP hS ⊢
          have hP : va_P D vwCl [(ht, .inr (5, ft)), (hro, .inl (cI, 20, .inl (fun i_ => nI (r i_)))), (h0, .inr (3, [.ref h2, .int (nI z2)])), (h2, .inl (cI, 20, .inl (fun i_ => nI (fd2 i_))))] H := hP
          have hD : va_D A [(ht, .inr (5, ft)), (hro, .inl (cI, 20, .inl (fun i_ => nI (r i_)))), (h0, .inr (3, [.ref h2, .int (nI z2)])), (h2, .inl (cI, 20, .inl (fun i_ => nI (fd2 i_))))] := hD
          refine lv_iinc (v := (nI (k + 1))) (lv' := [(4, .int (nI (k + 1))), (5, .int (nI (2 ^ k))), (3, .int (nI (2 ^ n - 1))), (0, .ref h0), (1, .int (nI q)), (2, .ref ht)]) hx hb dX3_findBelow_49 hl (k := 1) rfl (nI_add _ 1) (by decide) rfl (fun ls hl => ?_)
          refine lv_goto (tgt := 13) hx hb dX3_findBelow_52 (by decide) ?_
          exact ih_13 (k + 1) z2 fd2 L2 (by omega) (by omega) ho1 ho2 (by omega) (nb_ex ho4 (be_add (and_pow.mp c_32))) _ rfl _ rfl _ _ (hP.sub [2, 3, 0, 1] rfl) (hD.sub [2, 3, 0, 1] (by decide) rfl) hS _ (lv_sub hl [0, 2, 3, 4, 5] rfl)
  exact lp_13 _ 0 0 fd ([]) (Nat.lt_succ_self _) (Nat.zero_le _) (lstAt_0 _) rfl (Nat.le_refl _) (nb_0 (fun s ⟨i, hi, _⟩ => absurd hi (Nat.not_lt_zero _))) _ rfl _ rfl _ _ hP hD hS _ (lv_sub hl [0, 1, 2, 3, 4] rfl)
