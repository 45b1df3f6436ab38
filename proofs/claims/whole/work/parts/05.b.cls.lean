set_option maxHeartbeats 4000000 in
set_option maxRecDepth 100000 in
theorem c_X1_attributes (l : Launch) (D : va_G) (h0 : Nat) (fs : List Value) (n : Nat) (f2 : fs[2]? = some (.int (nI n))) : Met l yX1_attributes wsX1_attributes ({ frames := 0, cells := 0, slots := 0, locals := 0 }) (va_Pc [.ref h0] (fun U => va_P D vwCl [(h0, .inr (1, fs))] U.heap ∧ va_K D vwCl [] U)) (QcRead (nI n)) 0 0 (fun _ => False) := by
  refine Met.ofW (cc := cX1_attributes) (maxL := 1) (ret := (some .int)) (by decide) rfl ?_
  intro p e s m args below meth c s₁ B hml hv
  obtain ⟨rfl, hP, hK⟩ := hv
  have hx := B.exec
  have hb := B.bytes
  have hr := B.returns
  have hts := atoms_spec (ws := wsX1_attributes) B.pre
  have hown : s.vm.findClass RX1 = some m.cls := findClass_of_methodNamed B.named
  have hlocks := B.notSynchronized
  have hl := lv_entry ([.ref h0]) (n := 1) (Nat.le_of_ble_eq_true rfl)
  rw [lg_entry_eq]
  generalize (lg_sl ([.ref h0]) ++ List.replicate (1 - (lg_sl ([.ref h0])).length) Slot.unset).toArray = ls at hl ⊢
  have hl : lv_has ls 1 [(0, .ref h0)] := hl
  refine lv_aload_n hx hb dX1_attributes_0 rfl (lv_at hl 0 rfl) ?_
  refine va_get (D := D) (ci := 1) (v := .int (nI n)) (C := RX1) (T := TX1) (N := 5) hx hb hts (by decide +kernel) hown hK hP 0 rfl rfl 2 (by decide) (hts (.fieldLink RX1 18 "ConceptTable$Family" "attributes" "I") (by decide +kernel)) (fun _ h9 => h9) f2 dX1_attributes_1 ?_
  have e_ret : (nI n) = (nI n) := by rfl
  exact W.iret (v := (nI n)) hx hb hr (fun t ht hW => ⟨congrArg (fun z_ => Outcome.returned (some (Value.int z_))) e_ret, ht⟩) (fun q h => by cases h) dX1_attributes_4

set_option maxHeartbeats 4000000 in
set_option maxRecDepth 100000 in
theorem c_X1_size (l : Launch) (D : va_G) (h0 : Nat) (fs : List Value) (z : Nat) (f3 : fs[3]? = some (.int (nI z))) : Met l yX1_size wsX1_size ({ frames := 0, cells := 0, slots := 0, locals := 0 }) (va_Pc [.ref h0] (fun U => va_P D vwCl [(h0, .inr (1, fs))] U.heap ∧ va_K D vwCl [] U)) (QcRead (nI z)) 0 0 (fun _ => False) := by
  refine Met.ofW (cc := cX1_size) (maxL := 1) (ret := (some .int)) (by decide) rfl ?_
  intro p e s m args below meth c s₁ B hml hv
  obtain ⟨rfl, hP, hK⟩ := hv
  have hx := B.exec
  have hb := B.bytes
  have hr := B.returns
  have hts := atoms_spec (ws := wsX1_size) B.pre
  have hown : s.vm.findClass RX1 = some m.cls := findClass_of_methodNamed B.named
  have hlocks := B.notSynchronized
  have hl := lv_entry ([.ref h0]) (n := 1) (Nat.le_of_ble_eq_true rfl)
  rw [lg_entry_eq]
  generalize (lg_sl ([.ref h0]) ++ List.replicate (1 - (lg_sl ([.ref h0])).length) Slot.unset).toArray = ls at hl ⊢
  have hl : lv_has ls 1 [(0, .ref h0)] := hl
  refine lv_aload_n hx hb dX1_size_0 rfl (lv_at hl 0 rfl) ?_
  refine va_get (D := D) (ci := 1) (v := .int (nI z)) (C := RX1) (T := TX1) (N := 5) hx hb hts (by decide +kernel) hown hK hP 0 rfl rfl 3 (by decide) (hts (.fieldLink RX1 22 "ConceptTable$Family" "size" "I") (by decide +kernel)) (fun _ h9 => h9) f3 dX1_size_1 ?_
  have e_ret : (nI z) = (nI z) := by rfl
  exact W.iret (v := (nI z)) hx hb hr (fun t ht hW => ⟨congrArg (fun z_ => Outcome.returned (some (Value.int z_))) e_ret, ht⟩) (fun q h => by cases h) dX1_size_4

set_option maxHeartbeats 4000000 in
set_option maxRecDepth 100000 in
theorem c_X1_member (l : Launch) (D : va_G) (h0 : Nat) (fs : List Value) (h2 : Nat) (cI : ClassId) (N : Nat) (z : Nat) (mem : Nat → Nat) (x : Int32) (f0 : fs[0]? = some (.ref h2)) (f3 : fs[3]? = some (.int (nI z))) (hz : z ≤ N) (hN2 : N ≤ 4096) : Met l yX1_member wsX1_member ({ frames := 0, cells := 0, slots := 0, locals := 0 }) (va_Pc [.ref h0, .int x] (fun U => va_P D vwCl [(h0, .inr (1, fs)), (h2, .inl (cI, N, .inl (fun i_ => nI (mem i_))))] U.heap ∧ va_K D vwCl [(cI, .int)] U)) (QcRead (if (decide (¬ x < 0) && decide (¬ nI z ≤ x)) = true then nI (mem x.toNatClampNeg) else -1)) 0 0 (fun _ => False) := by
  refine Met.ofW (cc := cX1_member) (maxL := 2) (ret := (some .int)) (by decide) rfl ?_
  intro p e s m args below meth c s₁ B hml hv
  obtain ⟨rfl, hP, hK⟩ := hv
  have hx := B.exec
  have hb := B.bytes
  have hr := B.returns
  have hts := atoms_spec (ws := wsX1_member) B.pre
  have hown : s.vm.findClass RX1 = some m.cls := findClass_of_methodNamed B.named
  have hlocks := B.notSynchronized
  have hl := lv_entry ([.ref h0, .int x]) (n := 2) (Nat.le_of_ble_eq_true rfl)
  rw [lg_entry_eq]
  generalize (lg_sl ([.ref h0, .int x]) ++ List.replicate (2 - (lg_sl ([.ref h0, .int x])).length) Slot.unset).toArray = ls at hl ⊢
  have hl : lv_has ls 2 [(0, .ref h0), (1, .int x)] := hl
  refine lv_iload_n hx hb dX1_member_0 rfl (lv_at hl 1 rfl) ?_
  refine lv_if_lt (tgt := 21) hx hb dX1_member_1 (by decide) (fun c_1 => ?_) (fun c_1 => ?_)
  · refine lv_iconst (v := -1) hx hb dX1_member_21 (by decide) ?_
    have e_ret : (-1 : Int32) = (if (decide (¬ x < 0) && decide (¬ nI z ≤ x)) = true then nI (mem x.toNatClampNeg) else -1) := by rw [if_neg (by rw [decide_eq_false (fun z_ => z_ c_1), Bool.false_and]; decide)]
    exact W.iret (v := (-1 : Int32)) hx hb hr (fun t ht hW => ⟨congrArg (fun z_ => Outcome.returned (some (Value.int z_))) e_ret, ht⟩) (fun q h => by cases h) dX1_member_22
  · refine lv_iload_n hx hb dX1_member_4 rfl (lv_at hl 1 rfl) ?_
    refine lv_aload_n hx hb dX1_member_5 rfl (lv_at hl 0 rfl) ?_
    refine va_get (D := D) (ci := 1) (v := .int (nI z)) (C := RX1) (T := TX1) (N := 5) hx hb hts (by decide +kernel) hown hK hP 0 rfl rfl 3 (by decide) (hts (.fieldLink RX1 22 "ConceptTable$Family" "size" "I") (by decide +kernel)) (fun _ h9 => h9) f3 dX1_member_6 ?_
    refine lv_icmp_ge (tgt := 21) hx hb dX1_member_9 (by decide) (fun c_9 => ?_) (fun c_9 => ?_)
    · refine lv_iconst (v := -1) hx hb dX1_member_21 (by decide) ?_
      have e_ret : (-1 : Int32) = (if (decide (¬ x < 0) && decide (¬ nI z ≤ x)) = true then nI (mem x.toNatClampNeg) else -1) := by rw [if_neg (by rw [decide_eq_false (p := ¬ nI z ≤ x) (fun z_ => z_ c_9), Bool.and_false]; decide)]
      exact W.iret (v := (-1 : Int32)) hx hb hr (fun t ht hW => ⟨congrArg (fun z_ => Outcome.returned (some (Value.int z_))) e_ret, ht⟩) (fun q h => by cases h) dX1_member_22
    · refine lv_aload_n hx hb dX1_member_12 rfl (lv_at hl 0 rfl) ?_
      refine va_get (D := D) (ci := 1) (v := .ref h2) (C := RX1) (T := TX1) (N := 5) hx hb hts (by decide +kernel) hown hK hP 0 rfl rfl 0 (by decide) (hts (.fieldLink RX1 9 "ConceptTable$Family" "members" "[I") (by decide +kernel)) (fun _ h9 => h9) f0 dX1_member_13 ?_
      refine lv_iload_n hx hb dX1_member_16 rfl (lv_at hl 1 rfl) ?_
      refine va_iald hx hb hK hP 1 0 rfl rfl (ix_in hz (by omega) c_1 c_9) dX1_member_17 ?_
      refine lv_re (y := (nI (mem (x.toNatClampNeg)))) rfl ?_
      refine lv_goto (tgt := 22) hx hb dX1_member_18 (by decide) ?_
      have e_ret : (nI (mem (x.toNatClampNeg))) = (if (decide (¬ x < 0) && decide (¬ nI z ≤ x)) = true then nI (mem x.toNatClampNeg) else -1) := by rw [if_pos (by rw [decide_eq_true c_1, decide_eq_true c_9]; rfl)]
      exact W.iret (v := (nI (mem (x.toNatClampNeg)))) hx hb hr (fun t ht hW => ⟨congrArg (fun z_ => Outcome.returned (some (Value.int z_))) e_ret, ht⟩) (fun q h => by cases h) dX1_member_22

set_option maxHeartbeats 4000000 in
set_option maxRecDepth 100000 in
theorem c_X1_levelOf (l : Launch) (D : va_G) (h0 : Nat) (fs : List Value) (h3 : Nat) (cI : ClassId) (N : Nat) (g : Nat → Option Nat) (q : Nat) (f1 : fs[1]? = some (.ref h3)) (hq : q < N) (hN2 : N ≤ 4096) : Met l yX1_levelOf wsX1_levelOf ({ frames := 1, cells := 0, slots := 0, locals := 21 }) (va_Pc [.ref h0, .int (nI q)] (fun U => va_P D vwCl [(h0, .inr (1, fs)), (h3, .inl (cI, N, .inl (fun i_ => lvO (g i_))))] U.heap ∧ va_K D vwCl [(cI, .int)] U)) (QcRead (lvO (g q))) 0 0 (fun _ => False) := by
  refine Met.ofW (cc := cX1_levelOf) (maxL := 2) (ret := (some .int)) (by decide) rfl ?_
  intro p e s m args below meth c s₁ B hml hv
  obtain ⟨rfl, hP, hK⟩ := hv
  have hx := B.exec
  have hb := B.bytes
  have hr := B.returns
  have hts := atoms_spec (ws := wsX1_levelOf) B.pre
  have hown : s.vm.findClass RX1 = some m.cls := findClass_of_methodNamed B.named
  have hlocks := B.notSynchronized
  have hl := lv_entry ([.ref h0, .int (nI q)]) (n := 2) (Nat.le_of_ble_eq_true rfl)
  rw [lg_entry_eq]
  generalize (lg_sl ([.ref h0, .int (nI q)]) ++ List.replicate (2 - (lg_sl ([.ref h0, .int (nI q)])).length) Slot.unset).toArray = ls at hl ⊢
  have hl : lv_has ls 2 [(0, .ref h0), (1, .int (nI q))] := hl
  refine lv_aload_n hx hb dX1_levelOf_0 rfl (lv_at hl 0 rfl) ?_
  refine va_get (D := D) (ci := 1) (v := .ref h3) (C := RX1) (T := TX1) (N := 5) hx hb hts (by decide +kernel) hown hK hP 0 rfl rfl 1 (by decide) (hts (.fieldLink RX1 15 "ConceptTable$Family" "levels" "[I") (by decide +kernel)) (fun _ h9 => h9) f1 dX1_levelOf_1 ?_
  refine lv_iload_n hx hb dX1_levelOf_4 rfl (lv_at hl 1 rfl) ?_
  refine rd_S (As := [.ref h3, .int (nI q)]) (rest := []) ⟨hx, hb, hml, hown, hts⟩ (c_X5_isIndexIn l D h3 cI N (fun i_ => lvO (g i_)) q (by assumption) (by assumption)) (va_cwS 2 hts gX1_levelOf_X5_isIndexIn rfl rfl rfl (by decide +kernel) ⟨Nat.le_of_ble_eq_true rfl, Nat.le_of_ble_eq_true rfl⟩) (hP.sub (ws' := [(h3, .inl (cI, N, .inl (fun i_ => lvO (g i_))))]) [1] rfl) (hK.sub (tys' := [(cI, .int)]) [0] rfl) rfl rfl hl.1 rfl (lv_room (Nat.le_of_ble_eq_true rfl)) dX1_levelOf_5 ⟨Nat.le_of_ble_eq_true rfl, Nat.le_of_ble_eq_true rfl⟩ ?_
  refine lv_if_eq (tgt := 20) hx hb dX1_levelOf_8 (by decide) (fun c_8 => ?_) (fun c_8 => ?_)
  · have c_8 := b2_0.mp c_8
    exact Bool.noConfusion c_8
  · have c_8 := b2_n0.mp c_8
    refine lv_aload_n hx hb dX1_levelOf_11 rfl (lv_at hl 0 rfl) ?_
    refine va_get (D := D) (ci := 1) (v := .ref h3) (C := RX1) (T := TX1) (N := 5) hx hb hts (by decide +kernel) hown hK hP 0 rfl rfl 1 (by decide) (hts (.fieldLink RX1 15 "ConceptTable$Family" "levels" "[I") (by decide +kernel)) (fun _ h9 => h9) f1 dX1_levelOf_12 ?_
    refine lv_iload_n hx hb dX1_levelOf_15 rfl (lv_at hl 1 rfl) ?_
    refine va_iald hx hb hK hP 1 0 rfl rfl (vp_in_nI (by omega) (by omega)) dX1_levelOf_16 ?_
    refine lv_re (y := (lvO (g q))) (by rw [nI_clamp (by omega)]) ?_
    refine lv_goto (tgt := 21) hx hb dX1_levelOf_17 (by decide) ?_
    have e_ret : (lvO (g q)) = (lvO (g q)) := by rfl
    exact W.iret (v := (lvO (g q))) hx hb hr (fun t ht hW => ⟨congrArg (fun z_ => Outcome.returned (some (Value.int z_))) e_ret, ht⟩) (fun q h => by cases h) dX1_levelOf_21

set_option maxHeartbeats 4000000 in
set_option maxRecDepth 100000 in
theorem c_X1_levelOf_v (l : Launch) (D : va_G) (h0 : Nat) (fs : List Value) (h3 : Nat) (cI : ClassId) (N : Nat) (g : Nat → Option Nat) (q : Nat) (v : Nat) (f1 : fs[1]? = some (.ref h3)) (hq : q < N) (hN2 : N ≤ 4096) (hv : g q = some v) : Met l yX1_levelOf wsX1_levelOf ({ frames := 1, cells := 0, slots := 0, locals := 21 }) (va_Pc [.ref h0, .int (nI q)] (fun U => va_P D vwCl [(h0, .inr (1, fs)), (h3, .inl (cI, N, .inl (fun i_ => lvO (g i_))))] U.heap ∧ va_K D vwCl [(cI, .int)] U)) (QcRead (nI v)) 0 0 (fun _ => False) := by
  refine Met.ofW (cc := cX1_levelOf) (maxL := 2) (ret := (some .int)) (by decide) rfl ?_
  intro p e s m args below meth c s₁ B hml hv
  obtain ⟨rfl, hP, hK⟩ := hv
  have hx := B.exec
  have hb := B.bytes
  have hr := B.returns
  have hts := atoms_spec (ws := wsX1_levelOf) B.pre
  have hown : s.vm.findClass RX1 = some m.cls := findClass_of_methodNamed B.named
  have hlocks := B.notSynchronized
  have hl := lv_entry ([.ref h0, .int (nI q)]) (n := 2) (Nat.le_of_ble_eq_true rfl)
  rw [lg_entry_eq]
  generalize (lg_sl ([.ref h0, .int (nI q)]) ++ List.replicate (2 - (lg_sl ([.ref h0, .int (nI q)])).length) Slot.unset).toArray = ls at hl ⊢
  have hl : lv_has ls 2 [(0, .ref h0), (1, .int (nI q))] := hl
  refine lv_aload_n hx hb dX1_levelOf_0 rfl (lv_at hl 0 rfl) ?_
  refine va_get (D := D) (ci := 1) (v := .ref h3) (C := RX1) (T := TX1) (N := 5) hx hb hts (by decide +kernel) hown hK hP 0 rfl rfl 1 (by decide) (hts (.fieldLink RX1 15 "ConceptTable$Family" "levels" "[I") (by decide +kernel)) (fun _ h9 => h9) f1 dX1_levelOf_1 ?_
  refine lv_iload_n hx hb dX1_levelOf_4 rfl (lv_at hl 1 rfl) ?_
  refine rd_S (As := [.ref h3, .int (nI q)]) (rest := []) ⟨hx, hb, hml, hown, hts⟩ (c_X5_isIndexIn l D h3 cI N (fun i_ => lvO (g i_)) q (by assumption) (by assumption)) (va_cwS 2 hts gX1_levelOf_X5_isIndexIn rfl rfl rfl (by decide +kernel) ⟨Nat.le_of_ble_eq_true rfl, Nat.le_of_ble_eq_true rfl⟩) (hP.sub (ws' := [(h3, .inl (cI, N, .inl (fun i_ => lvO (g i_))))]) [1] rfl) (hK.sub (tys' := [(cI, .int)]) [0] rfl) rfl rfl hl.1 rfl (lv_room (Nat.le_of_ble_eq_true rfl)) dX1_levelOf_5 ⟨Nat.le_of_ble_eq_true rfl, Nat.le_of_ble_eq_true rfl⟩ ?_
  refine lv_if_eq (tgt := 20) hx hb dX1_levelOf_8 (by decide) (fun c_8 => ?_) (fun c_8 => ?_)
  · have c_8 := b2_0.mp c_8
    exact Bool.noConfusion c_8
  · have c_8 := b2_n0.mp c_8
    refine lv_aload_n hx hb dX1_levelOf_11 rfl (lv_at hl 0 rfl) ?_
    refine va_get (D := D) (ci := 1) (v := .ref h3) (C := RX1) (T := TX1) (N := 5) hx hb hts (by decide +kernel) hown hK hP 0 rfl rfl 1 (by decide) (hts (.fieldLink RX1 15 "ConceptTable$Family" "levels" "[I") (by decide +kernel)) (fun _ h9 => h9) f1 dX1_levelOf_12 ?_
    refine lv_iload_n hx hb dX1_levelOf_15 rfl (lv_at hl 1 rfl) ?_
    refine va_iald hx hb hK hP 1 0 rfl rfl (vp_in_nI (by omega) (by omega)) dX1_levelOf_16 ?_
    refine lv_re (y := (lvO (g q))) (by rw [nI_clamp (by omega)]) ?_
    refine lv_goto (tgt := 21) hx hb dX1_levelOf_17 (by decide) ?_
    have e_ret : (lvO (g q)) = (nI v) := by exact lvO_get hv
    exact W.iret (v := (lvO (g q))) hx hb hr (fun t ht hW => ⟨congrArg (fun z_ => Outcome.returned (some (Value.int z_))) e_ret, ht⟩) (fun q h => by cases h) dX1_levelOf_21

set_option maxHeartbeats 4000000 in
set_option maxRecDepth 100000 in
theorem c_X1_isClosed (l : Launch) (D : va_G) (h0 : Nat) (fs : List Value) (h3 : Nat) (cI : ClassId) (N : Nat) (g : Nat → Option Nat) (q : Nat) (f1 : fs[1]? = some (.ref h3)) (hq : q < N) (hN2 : N ≤ 4096) (hgb : ∀ j v, g j = some v → v ≤ 4096) : Met l yX1_isClosed wsX1_isClosed ({ frames := 2, cells := 0, slots := 0, locals := 42 }) (va_Pc [.ref h0, .int (nI q)] (fun U => va_P D vwCl [(h0, .inr (1, fs)), (h3, .inl (cI, N, .inl (fun i_ => lvO (g i_))))] U.heap ∧ va_K D vwCl [(cI, .int)] U)) (QcRead (b2 (gB g q))) 0 0 (fun _ => False) := by
  refine Met.ofW (cc := cX1_isClosed) (maxL := 2) (ret := (some .boolean)) (by decide) rfl ?_
  intro p e s m args below meth c s₁ B hml hv
  obtain ⟨rfl, hP, hK⟩ := hv
  have hx := B.exec
  have hb := B.bytes
  have hr := B.returns
  have hts := atoms_spec (ws := wsX1_isClosed) B.pre
  have hown : s.vm.findClass RX1 = some m.cls := findClass_of_methodNamed B.named
  have hlocks := B.notSynchronized
  have hl := lv_entry ([.ref h0, .int (nI q)]) (n := 2) (Nat.le_of_ble_eq_true rfl)
  rw [lg_entry_eq]
  generalize (lg_sl ([.ref h0, .int (nI q)]) ++ List.replicate (2 - (lg_sl ([.ref h0, .int (nI q)])).length) Slot.unset).toArray = ls at hl ⊢
  have hl : lv_has ls 2 [(0, .ref h0), (1, .int (nI q))] := hl
  refine lv_aload_n hx hb dX1_isClosed_0 rfl (lv_at hl 0 rfl) ?_
  refine lv_iload_n hx hb dX1_isClosed_1 rfl (lv_at hl 1 rfl) ?_
  refine rd_V (As := [.int (nI q)]) (rest := []) ⟨hx, hb, hml, hown, hts⟩ (c_X1_levelOf l D h0 fs h3 cI N g q f1 hq hN2) (cwV 1 hts gX1_isClosed_X1_levelOf rfl rfl rfl (by decide +kernel) ⟨Nat.le_of_ble_eq_true rfl, Nat.le_of_ble_eq_true rfl⟩) (hP.sub (ws' := [(h0, .inr (1, fs)), (h3, .inl (cI, N, .inl (fun i_ => lvO (g i_))))]) [0, 1] rfl) (hK.sub (tys' := [(cI, .int)]) [0] rfl) (va_recv hK hP (ci := 1) (q0 := 0) rfl rfl) rfl rfl hl.1 rfl (lv_room (Nat.le_of_ble_eq_true rfl)) dX1_isClosed_2 ⟨Nat.le_of_ble_eq_true rfl, Nat.le_of_ble_eq_true rfl⟩ ?_
  refine lv_iconst (v := -1) hx hb dX1_isClosed_5 (by decide) ?_
  refine lv_icmp_eq (tgt := 13) hx hb dX1_isClosed_6 (by decide) (fun c_6 => ?_) (fun c_6 => ?_)
  · refine lv_iconst (v := 0) hx hb dX1_isClosed_13 (by decide) ?_
    have e_ret : (0 : Int32) = (b2 (gB g q)) := by rw [gB_n ((lvO_none (hgb q)).mp c_6)]; rfl
    exact W.zret (v := (0 : Int32)) hx hb hr rfl (fun t ht hW => ⟨congrArg (fun z_ => Outcome.returned (some (Value.int z_))) e_ret, ht⟩) (fun q h => by cases h) dX1_isClosed_14
  · refine lv_iconst (v := 1) hx hb dX1_isClosed_9 (by decide) ?_
    refine lv_goto (tgt := 14) hx hb dX1_isClosed_10 (by decide) ?_
    have e_ret : (1 : Int32) = (b2 (gB g q)) := by rw [gB_s (fun z_ => c_6 ((lvO_none (hgb q)).mpr z_))]; rfl
    exact W.zret (v := (1 : Int32)) hx hb hr rfl (fun t ht hW => ⟨congrArg (fun z_ => Outcome.returned (some (Value.int z_))) e_ret, ht⟩) (fun q h => by cases h) dX1_isClosed_14

set_option maxHeartbeats 4000000 in
set_option maxRecDepth 100000 in
theorem c_X1_setLevel_n (l : Launch) (D : va_G) (sz : Nat) (h0 : Nat) (fs : List Value) (h3 : Nat) (cI : ClassId) (N : Nat) (g : Nat → Option Nat) (q : Nat) (f1 : fs[1]? = some (.ref h3)) (hq : q < N) (hN2 : N ≤ 4096) : Met l yX1_setLevel wsX1_setLevel ({ frames := 1, cells := 0, slots := 0, locals := 21 }) (va_Pc [.ref h0, .int (nI q), .int (-1 : Int32)] (fun U => U.heap.size = sz ∧ va_P D vwCl [(h0, .inr (1, fs)), (h3, .inl (cI, N, .inl (fun i_ => lvO (g i_))))] U.heap ∧ va_K D vwCl [(cI, .int)] U ∧ va_D (fun _ => True) [(h0, .inr (1, fs)), (h3, .inl (cI, N, .inl (fun i_ => lvO (g i_))))])) (muQ none D vwCl [(h0, .inr (1, fs)), (h3, .inl (cI, N, .inl (fun i_ => lvO ((va_up g q none) i_))))] (va_A [(h0, .inr (1, fs)), (h3, .inl (cI, N, .inl (fun i_ => lvO (g i_))))] sz)) 0 0 (va_A [(h0, .inr (1, fs)), (h3, .inl (cI, N, .inl (fun i_ => lvO (g i_))))] sz) := by
  refine Met.ofW (cc := cX1_setLevel) (maxL := 3) (ret := none) (by decide) rfl ?_
  intro p e s m args below meth c s₁ B hml hv
  obtain ⟨rfl, hsz, hP, hK, hD0⟩ := hv
  have hx := B.exec
  have hb := B.bytes
  have hr := B.returns
  have hts := atoms_spec (ws := wsX1_setLevel) B.pre
  have hown : s.vm.findClass RX1 = some m.cls := findClass_of_methodNamed B.named
  have hlocks := B.notSynchronized
  subst hsz
  have hD := hD0.self (sz := s.heap.size)
  generalize hAe : va_A [(h0, .inr (1, fs)), (h3, .inl (cI, N, .inl (fun i_ => lvO (g i_))))] s.heap.size = A at hD ⊢
  have hA : ∀ q : Nat, s.heap.size ≤ q → A q := fun q h => by rw [← hAe]; exact Or.inr h
  have hS : va_S A s.heap s.heap [] := va_S.rf
  have hl := lv_entry ([.ref h0, .int (nI q), .int (-1 : Int32)]) (n := 3) (Nat.le_of_ble_eq_true rfl)
  rw [lg_entry_eq]
  generalize (lg_sl ([.ref h0, .int (nI q), .int (-1 : Int32)]) ++ List.replicate (3 - (lg_sl ([.ref h0, .int (nI q), .int (-1 : Int32)])).length) Slot.unset).toArray = ls at hl ⊢
  have hl : lv_has ls 3 [(0, .ref h0), (1, .int (nI q)), (2, .int (-1 : Int32))] := hl
  refine lv_aload_n hx hb dX1_setLevel_0 rfl (lv_at hl 0 rfl) ?_
  refine va_get (D := D) (ci := 1) (v := .ref h3) (C := RX1) (T := TX1) (N := 5) hx hb hts (by decide +kernel) hown hK hP 0 rfl rfl 1 (by decide) (hts (.fieldLink RX1 15 "ConceptTable$Family" "levels" "[I") (by decide +kernel)) (fun _ h9 => h9) f1 dX1_setLevel_1 ?_
  refine lv_iload_n hx hb dX1_setLevel_4 rfl (lv_at hl 1 rfl) ?_
  refine rd_S (As := [.ref h3, .int (nI q)]) (rest := []) ⟨hx, hb, hml, hown, hts⟩ (c_X5_isIndexIn l D h3 cI N (fun i_ => lvO (g i_)) q (by assumption) (by assumption)) (va_cwS 2 hts gX1_setLevel_X5_isIndexIn rfl rfl rfl (by decide +kernel) ⟨Nat.le_of_ble_eq_true rfl, Nat.le_of_ble_eq_true rfl⟩) (hP.sub (ws' := [(h3, .inl (cI, N, .inl (fun i_ => lvO (g i_))))]) [1] rfl) (hK.sub (tys' := [(cI, .int)]) [0] rfl) rfl rfl hl.1 rfl (lv_room (Nat.le_of_ble_eq_true rfl)) dX1_setLevel_5 ⟨Nat.le_of_ble_eq_true rfl, Nat.le_of_ble_eq_true rfl⟩ ?_
  refine lv_if_eq (tgt := 18) hx hb dX1_setLevel_8 (by decide) (fun c_8 => ?_) (fun c_8 => ?_)
  · have c_8 := b2_0.mp c_8
    exact Bool.noConfusion c_8
  · have c_8 := b2_n0.mp c_8
    refine lv_aload_n hx hb dX1_setLevel_11 rfl (lv_at hl 0 rfl) ?_
    refine va_get (D := D) (ci := 1) (v := .ref h3) (C := RX1) (T := TX1) (N := 5) hx hb hts (by decide +kernel) hown hK hP 0 rfl rfl 1 (by decide) (hts (.fieldLink RX1 15 "ConceptTable$Family" "levels" "[I") (by decide +kernel)) (fun _ h9 => h9) f1 dX1_setLevel_12 ?_
    refine lv_iload_n hx hb dX1_setLevel_15 rfl (lv_at hl 1 rfl) ?_
    refine lv_iload_n hx hb dX1_setLevel_16 rfl (lv_at hl 2 rfl) ?_
    refine va_iast hx hb hK hP hD hS 1 0 rfl rfl (vp_in_nI (by omega) (by omega)) dX1_setLevel_17 (fun H locs hP hD hS => ?_)
    have e_up : (upd (fun i_ => lvO (g i_)) ((nI q)).toNatClampNeg (-1 : Int32)) = (fun i_ => lvO ((va_up g q none) i_)) := by rw [show ((nI q)).toNatClampNeg = q from nI_clamp (by omega)]; exact up_lvO g q none
    have hP : va_P D vwCl [(h0, .inr (1, fs)), (h3, .inl (cI, N, .inl (fun i_ => lvO ((va_up g q none) i_))))] H := by rw [← e_up]; exact hP
    have hD : va_D A [(h0, .inr (1, fs)), (h3, .inl (cI, N, .inl (fun i_ => lvO ((va_up g q none) i_))))] := by rw [← e_up]; exact hD
    clear e_up
    have hP := hP.sub (ws' := [(h0, .inr (1, fs)), (h3, .inl (cI, N, .inl (fun i_ => lvO ((va_up g q none) i_))))]) [0, 1] rfl
    have hD := hD.sub (ws' := [(h0, .inr (1, fs)), (h3, .inl (cI, N, .inl (fun i_ => lvO ((va_up g q none) i_))))]) [0, 1] (by decide) rfl
    have hP : va_P D vwCl [(h0, .inr (1, fs)), (h3, .inl (cI, N, .inl (fun i_ => lvO ((va_up g q none) i_))))] H := by exact hP
    have hD : va_D A [(h0, .inr (1, fs)), (h3, .inl (cI, N, .inl (fun i_ => lvO ((va_up g q none) i_))))] := by exact hD
    exact W.vret hx hb hr (fun t ht hW => ⟨⟨rfl, by rw [ht]; exact hP, hD⟩, hS.F ht⟩) hS.2.2 dX1_setLevel_18

set_option maxHeartbeats 4000000 in
set_option maxRecDepth 100000 in
theorem c_X1_setLevel (l : Launch) (D : va_G) (sz : Nat) (h0 : Nat) (fs : List Value) (h3 : Nat) (cI : ClassId) (N : Nat) (g : Nat → Option Nat) (q : Nat) (v : Nat) (f1 : fs[1]? = some (.ref h3)) (hq : q < N) (hN2 : N ≤ 4096) : Met l yX1_setLevel wsX1_setLevel ({ frames := 1, cells := 0, slots := 0, locals := 21 }) (va_Pc [.ref h0, .int (nI q), .int (nI v)] (fun U => U.heap.size = sz ∧ va_P D vwCl [(h0, .inr (1, fs)), (h3, .inl (cI, N, .inl (fun i_ => lvO (g i_))))] U.heap ∧ va_K D vwCl [(cI, .int)] U ∧ va_D (fun _ => True) [(h0, .inr (1, fs)), (h3, .inl (cI, N, .inl (fun i_ => lvO (g i_))))])) (muQ none D vwCl [(h0, .inr (1, fs)), (h3, .inl (cI, N, .inl (fun i_ => lvO ((va_up g q (some v)) i_))))] (va_A [(h0, .inr (1, fs)), (h3, .inl (cI, N, .inl (fun i_ => lvO (g i_))))] sz)) 0 0 (va_A [(h0, .inr (1, fs)), (h3, .inl (cI, N, .inl (fun i_ => lvO (g i_))))] sz) := by
  refine Met.ofW (cc := cX1_setLevel) (maxL := 3) (ret := none) (by decide) rfl ?_
  intro p e s m args below meth c s₁ B hml hv
  obtain ⟨rfl, hsz, hP, hK, hD0⟩ := hv
  have hx := B.exec
  have hb := B.bytes
  have hr := B.returns
  have hts := atoms_spec (ws := wsX1_setLevel) B.pre
  have hown : s.vm.findClass RX1 = some m.cls := findClass_of_methodNamed B.named
  have hlocks := B.notSynchronized
  subst hsz
  have hD := hD0.self (sz := s.heap.size)
  generalize hAe : va_A [(h0, .inr (1, fs)), (h3, .inl (cI, N, .inl (fun i_ => lvO (g i_))))] s.heap.size = A at hD ⊢
  have hA : ∀ q : Nat, s.heap.size ≤ q → A q := fun q h => by rw [← hAe]; exact Or.inr h
  have hS : va_S A s.heap s.heap [] := va_S.rf
  have hl := lv_entry ([.ref h0, .int (nI q), .int (nI v)]) (n := 3) (Nat.le_of_ble_eq_true rfl)
  rw [lg_entry_eq]
  generalize (lg_sl ([.ref h0, .int (nI q), .int (nI v)]) ++ List.replicate (3 - (lg_sl ([.ref h0, .int (nI q), .int (nI v)])).length) Slot.unset).toArray = ls at hl ⊢
  have hl : lv_has ls 3 [(0, .ref h0), (1, .int (nI q)), (2, .int (nI v))] := hl
  refine lv_aload_n hx hb dX1_setLevel_0 rfl (lv_at hl 0 rfl) ?_
  refine va_get (D := D) (ci := 1) (v := .ref h3) (C := RX1) (T := TX1) (N := 5) hx hb hts (by decide +kernel) hown hK hP 0 rfl rfl 1 (by decide) (hts (.fieldLink RX1 15 "ConceptTable$Family" "levels" "[I") (by decide +kernel)) (fun _ h9 => h9) f1 dX1_setLevel_1 ?_
  refine lv_iload_n hx hb dX1_setLevel_4 rfl (lv_at hl 1 rfl) ?_
  refine rd_S (As := [.ref h3, .int (nI q)]) (rest := []) ⟨hx, hb, hml, hown, hts⟩ (c_X5_isIndexIn l D h3 cI N (fun i_ => lvO (g i_)) q (by assumption) (by assumption)) (va_cwS 2 hts gX1_setLevel_X5_isIndexIn rfl rfl rfl (by decide +kernel) ⟨Nat.le_of_ble_eq_true rfl, Nat.le_of_ble_eq_true rfl⟩) (hP.sub (ws' := [(h3, .inl (cI, N, .inl (fun i_ => lvO (g i_))))]) [1] rfl) (hK.sub (tys' := [(cI, .int)]) [0] rfl) rfl rfl hl.1 rfl (lv_room (Nat.le_of_ble_eq_true rfl)) dX1_setLevel_5 ⟨Nat.le_of_ble_eq_true rfl, Nat.le_of_ble_eq_true rfl⟩ ?_
  refine lv_if_eq (tgt := 18) hx hb dX1_setLevel_8 (by decide) (fun c_8 => ?_) (fun c_8 => ?_)
  · have c_8 := b2_0.mp c_8
    exact Bool.noConfusion c_8
  · have c_8 := b2_n0.mp c_8
    refine lv_aload_n hx hb dX1_setLevel_11 rfl (lv_at hl 0 rfl) ?_
    refine va_get (D := D) (ci := 1) (v := .ref h3) (C := RX1) (T := TX1) (N := 5) hx hb hts (by decide +kernel) hown hK hP 0 rfl rfl 1 (by decide) (hts (.fieldLink RX1 15 "ConceptTable$Family" "levels" "[I") (by decide +kernel)) (fun _ h9 => h9) f1 dX1_setLevel_12 ?_
    refine lv_iload_n hx hb dX1_setLevel_15 rfl (lv_at hl 1 rfl) ?_
    refine lv_iload_n hx hb dX1_setLevel_16 rfl (lv_at hl 2 rfl) ?_
    refine va_iast hx hb hK hP hD hS 1 0 rfl rfl (vp_in_nI (by omega) (by omega)) dX1_setLevel_17 (fun H locs hP hD hS => ?_)
    have e_up : (upd (fun i_ => lvO (g i_)) ((nI q)).toNatClampNeg (nI v)) = (fun i_ => lvO ((va_up g q (some v)) i_)) := by rw [show ((nI q)).toNatClampNeg = q from nI_clamp (by omega)]; exact up_lvO g q (some v)
    have hP : va_P D vwCl [(h0, .inr (1, fs)), (h3, .inl (cI, N, .inl (fun i_ => lvO ((va_up g q (some v)) i_))))] H := by rw [← e_up]; exact hP
    have hD : va_D A [(h0, .inr (1, fs)), (h3, .inl (cI, N, .inl (fun i_ => lvO ((va_up g q (some v)) i_))))] := by rw [← e_up]; exact hD
    clear e_up
    have hP := hP.sub (ws' := [(h0, .inr (1, fs)), (h3, .inl (cI, N, .inl (fun i_ => lvO ((va_up g q (some v)) i_))))]) [0, 1] rfl
    have hD := hD.sub (ws' := [(h0, .inr (1, fs)), (h3, .inl (cI, N, .inl (fun i_ => lvO ((va_up g q (some v)) i_))))]) [0, 1] (by decide) rfl
    have hP : va_P D vwCl [(h0, .inr (1, fs)), (h3, .inl (cI, N, .inl (fun i_ => lvO ((va_up g q (some v)) i_))))] H := by exact hP
    have hD : va_D A [(h0, .inr (1, fs)), (h3, .inl (cI, N, .inl (fun i_ => lvO ((va_up g q (some v)) i_))))] := by exact hD
    exact W.vret hx hb hr (fun t ht hW => ⟨⟨rfl, by rw [ht]; exact hP, hD⟩, hS.F ht⟩) hS.2.2 dX1_setLevel_18

set_option maxHeartbeats 4000000 in
set_option maxRecDepth 100000 in
theorem c_X1_include (l : Launch) (D : va_G) (sz : Nat) (h0 : Nat) (h2 : Nat) (h3 : Nat) (n : Nat) (z : Nat) (ar : Bool) (cI : ClassId) (N : Nat) (mem : Nat → Nat) (g : Nat → Option Nat) (q : Nat) (hq : q < N) (hN2 : N ≤ 4096) (hgb : ∀ j v, g j = some v → v ≤ 4096) (hz : (g q).isNone = true → z < N) : Met l yX1_include wsX1_include ({ frames := 3, cells := 0, slots := 0, locals := 63 }) (va_Pc [.ref h0, .int (nI q)] (fun U => U.heap.size = sz ∧ va_P D vwCl [(h0, .inr (1, [.ref h2, .ref h3, .int (nI n), .int (nI z), .int (b2 ar)])), (h2, .inl (cI, N, .inl (fun i_ => nI (mem i_)))), (h3, .inl (cI, N, .inl (fun i_ => lvO (g i_))))] U.heap ∧ va_K D vwCl [(cI, .int)] U ∧ va_D (fun _ => True) [(h0, .inr (1, [.ref h2, .ref h3, .int (nI n), .int (nI z), .int (b2 ar)])), (h2, .inl (cI, N, .inl (fun i_ => nI (mem i_)))), (h3, .inl (cI, N, .inl (fun i_ => lvO (g i_))))])) (muQ none D vwCl [(h0, .inr (1, [.ref h2, .ref h3, .int (nI n), .int (nI (incS g q z)), .int (b2 (incA g q ar))])), (h2, .inl (cI, N, .inl (fun i_ => nI ((incM g q z mem) i_)))), (h3, .inl (cI, N, .inl (fun i_ => lvO ((incG g q) i_))))] (va_A [(h0, .inr (1, [.ref h2, .ref h3, .int (nI n), .int (nI z), .int (b2 ar)])), (h2, .inl (cI, N, .inl (fun i_ => nI (mem i_)))), (h3, .inl (cI, N, .inl (fun i_ => lvO (g i_))))] sz)) 0 0 (va_A [(h0, .inr (1, [.ref h2, .ref h3, .int (nI n), .int (nI z), .int (b2 ar)])), (h2, .inl (cI, N, .inl (fun i_ => nI (mem i_)))), (h3, .inl (cI, N, .inl (fun i_ => lvO (g i_))))] sz) := by
  refine Met.ofW (cc := cX1_include) (maxL := 2) (ret := none) (by decide) rfl ?_
  intro p e s m args below meth c s₁ B hml hv
  obtain ⟨rfl, hsz, hP, hK, hD0⟩ := hv
  have hx := B.exec
  have hb := B.bytes
  have hr := B.returns
  have hts := atoms_spec (ws := wsX1_include) B.pre
  have hown : s.vm.findClass RX1 = some m.cls := findClass_of_methodNamed B.named
  have hlocks := B.notSynchronized
  subst hsz
  have hD := hD0.self (sz := s.heap.size)
  generalize hAe : va_A [(h0, .inr (1, [.ref h2, .ref h3, .int (nI n), .int (nI z), .int (b2 ar)])), (h2, .inl (cI, N, .inl (fun i_ => nI (mem i_)))), (h3, .inl (cI, N, .inl (fun i_ => lvO (g i_))))] s.heap.size = A at hD ⊢
  have hA : ∀ q : Nat, s.heap.size ≤ q → A q := fun q h => by rw [← hAe]; exact Or.inr h
  have hS : va_S A s.heap s.heap [] := va_S.rf
  have hl := lv_entry ([.ref h0, .int (nI q)]) (n := 2) (Nat.le_of_ble_eq_true rfl)
  rw [lg_entry_eq]
  generalize (lg_sl ([.ref h0, .int (nI q)]) ++ List.replicate (2 - (lg_sl ([.ref h0, .int (nI q)])).length) Slot.unset).toArray = ls at hl ⊢
  have hl : lv_has ls 2 [(0, .ref h0), (1, .int (nI q))] := hl
  refine lv_aload_n hx hb dX1_include_0 rfl (lv_at hl 0 rfl) ?_
  refine lv_iload_n hx hb dX1_include_1 rfl (lv_at hl 1 rfl) ?_
  refine rd_V (As := [.int (nI q)]) (rest := []) ⟨hx, hb, hml, hown, hts⟩ (c_X1_isClosed l D h0 ([.ref h2, .ref h3, .int (nI n), .int (nI z), .int (b2 ar)]) h3 cI N g q rfl hq hN2 hgb) (cwV 1 hts gX1_include_X1_isClosed rfl rfl rfl (by decide +kernel) ⟨Nat.le_of_ble_eq_true rfl, Nat.le_of_ble_eq_true rfl⟩) (hP.sub (ws' := [(h0, .inr (1, [.ref h2, .ref h3, .int (nI n), .int (nI z), .int (b2 ar)])), (h3, .inl (cI, N, .inl (fun i_ => lvO (g i_))))]) [0, 2] rfl) (hK.sub (tys' := [(cI, .int)]) [0] rfl) (va_recv hK hP (ci := 1) (q0 := 0) rfl rfl) rfl rfl hl.1 rfl (lv_room (Nat.le_of_ble_eq_true rfl)) dX1_include_2 ⟨Nat.le_of_ble_eq_true rfl, Nat.le_of_ble_eq_true rfl⟩ ?_
  refine lv_if_ne (tgt := 51) hx hb dX1_include_5 (by decide) (fun c_5 => ?_) (fun c_5 => ?_)
  · have c_5 := b2_n0.mp c_5
    have hs_ := gB_t c_5
    have hP := hP.sub (ws' := [(h0, .inr (1, [.ref h2, .ref h3, .int (nI n), .int (nI z), .int (b2 ar)])), (h2, .inl (cI, N, .inl (fun i_ => nI (mem i_)))), (h3, .inl (cI, N, .inl (fun i_ => lvO (g i_))))]) [0, 1, 2] rfl
    have hD := hD.sub (ws' := [(h0, .inr (1, [.ref h2, .ref h3, .int (nI n), .int (nI z), .int (b2 ar)])), (h2, .inl (cI, N, .inl (fun i_ => nI (mem i_)))), (h3, .inl (cI, N, .inl (fun i_ => lvO (g i_))))]) [0, 1, 2] (by decide) rfl
    have e_w1 : (nI z) = (nI (incS g q z)) := by unfold incS; rw [if_neg hs_]
    have e_w2 : (b2 ar) = (b2 (incA g q ar)) := by unfold incA; rw [if_neg hs_]
    have e_w3 : mem = (incM g q z mem) := by unfold incM; rw [if_neg hs_]
    have e_w4 : g = (incG g q) := by unfold incG; rw [if_neg hs_]
    have hP : va_P D vwCl [(h0, .inr (1, [.ref h2, .ref h3, .int (nI n), .int (nI (incS g q z)), .int (b2 (incA g q ar))])), (h2, .inl (cI, N, .inl (fun i_ => nI ((incM g q z mem) i_)))), (h3, .inl (cI, N, .inl (fun i_ => lvO ((incG g q) i_))))] s.heap := by rw [← e_w1, ← e_w2, ← e_w3, ← e_w4]; exact hP
    have hD : va_D A [(h0, .inr (1, [.ref h2, .ref h3, .int (nI n), .int (nI (incS g q z)), .int (b2 (incA g q ar))])), (h2, .inl (cI, N, .inl (fun i_ => nI ((incM g q z mem) i_)))), (h3, .inl (cI, N, .inl (fun i_ => lvO ((incG g q) i_))))] := by rw [← e_w1, ← e_w2, ← e_w3, ← e_w4]; exact hD
    exact W.vret hx hb hr (fun t ht hW => ⟨⟨rfl, by rw [ht]; exact hP, hD⟩, hS.F ht⟩) hS.2.2 dX1_include_51
  · have c_5 := b2_0.mp c_5
    have hs_ := gB_f c_5
    have hzz := hz hs_
    refine lv_aload_n hx hb dX1_include_8 rfl (lv_at hl 0 rfl) ?_
    refine va_get (D := D) (ci := 1) (v := .int (nI z)) (C := RX1) (T := TX1) (N := 5) hx hb hts (by decide +kernel) hown hK hP 0 rfl rfl 3 (by decide) (hts (.fieldLink RX1 22 "ConceptTable$Family" "size" "I") (by decide +kernel)) (fun _ h9 => h9) rfl dX1_include_9 ?_
    refine lv_aload_n hx hb dX1_include_12 rfl (lv_at hl 0 rfl) ?_
    refine va_get (D := D) (ci := 1) (v := .ref h2) (C := RX1) (T := TX1) (N := 5) hx hb hts (by decide +kernel) hown hK hP 0 rfl rfl 0 (by decide) (hts (.fieldLink RX1 9 "ConceptTable$Family" "members" "[I") (by decide +kernel)) (fun _ h9 => h9) rfl dX1_include_13 ?_
    refine va_alen hx hb hK hP 1 0 rfl rfl (v := nI N) rfl dX1_include_16 ?_
    refine lv_icmp_ge (tgt := 51) hx hb dX1_include_17 (by decide) (fun c_17 => ?_) (fun c_17 => ?_)
    · have c_17 : N ≤ z := (nI_leI (a := N) (b := z) (by omega) (by omega)).mp c_17
      exact absurd c_17 (by omega)
    · have c_17 : z < N := Nat.lt_of_not_le (fun h_ => c_17 ((nI_leI (a := N) (b := z) (by omega) (by omega)).mpr h_))
      refine lv_aload_n hx hb dX1_include_20 rfl (lv_at hl 0 rfl) ?_
      refine lv_iload_n hx hb dX1_include_21 rfl (lv_at hl 1 rfl) ?_
      refine lv_iconst (v := 0) hx hb dX1_include_22 (by decide) ?_
      have hPc := hP.sub (ws' := [(h0, .inr (1, [.ref h2, .ref h3, .int (nI n), .int (nI z), .int (b2 ar)])), (h3, .inl (cI, N, .inl (fun i_ => lvO (g i_))))]) [0, 2] rfl
      have hDc := hD.sub (ws' := [(h0, .inr (1, [.ref h2, .ref h3, .int (nI n), .int (nI z), .int (b2 ar)])), (h3, .inl (cI, N, .inl (fun i_ => lvO (g i_))))]) [0, 2] (by decide) rfl
      have hKc := hK.sub (tys' := [(cI, .int)]) [0] rfl
      have hFc := va_free (wc := [(h0, .inr (1, [.ref h2, .ref h3, .int (nI n), .int (nI z), .int (b2 ar)])), (h3, .inl (cI, N, .inl (fun i_ => lvO (g i_))))]) hD hS hA [0, 2] rfl
      refine mu_call (va_runV (As := [.int (nI q), .int (0 : Int32)]) (rest := []) ⟨hx, hb, hml, hown, hts⟩ (c_X1_setLevel l D s.heap.size h0 ([.ref h2, .ref h3, .int (nI n), .int (nI z), .int (b2 ar)]) h3 cI N g q 0 rfl hq hN2) (cwV 2 hts gX1_include_X1_setLevel rfl rfl rfl (by decide +kernel) ⟨Nat.le_of_ble_eq_true rfl, Nat.le_of_ble_eq_true rfl⟩) ⟨mu_bl, va_recv hKc hPc (ci := 1) (q0 := 0) rfl rfl, fun U hU hW => ⟨rfl, by rw [hU], by rw [hU]; exact hPc, va_K.moved hW.alike hKc, hDc.weaken (fun _ _ _ _ => trivial)⟩⟩ rfl rfl hl.1 rfl (lv_room (Nat.le_of_ble_eq_true rfl)) dX1_include_23 ⟨Nat.le_of_ble_eq_true rfl, Nat.le_of_ble_eq_true rfl⟩) hS (fun q _ h => hFc q h) hFc (fun H1 locs hP1 hD1 hk1 hS => ?_)
      obtain ⟨hP, hD⟩ := va_join (wr := [(h2, .inl (cI, N, .inl (fun i_ => nI (mem i_))))]) (w1 := [(h0, .inr (1, [.ref h2, .ref h3, .int (nI n), .int (nI z), .int (b2 ar)])), (h3, .inl (cI, N, .inl (fun i_ => lvO ((va_up g q (some 0)) i_))))]) hP hD [0, 2] [1] rfl rfl (by decide) (by decide) hk1 hFc hP1 hD1
      generalize H1 = H at hP hS ⊢
      have hP : va_P D vwCl [(h2, .inl (cI, N, .inl (fun i_ => nI (mem i_)))), (h0, .inr (1, [.ref h2, .ref h3, .int (nI n), .int (nI z), .int (b2 ar)])), (h3, .inl (cI, N, .inl (fun i_ => lvO ((va_up g q (some 0)) i_))))] H := hP
      have hD : va_D A [(h2, .inl (cI, N, .inl (fun i_ => nI (mem i_)))), (h0, .inr (1, [.ref h2, .ref h3, .int (nI n), .int (nI z), .int (b2 ar)])), (h3, .inl (cI, N, .inl (fun i_ => lvO ((va_up g q (some 0)) i_))))] := hD
      refine lv_aload_n hx hb dX1_include_26 rfl (lv_at hl 0 rfl) ?_
      refine va_get (D := D) (ci := 1) (v := .ref h2) (C := RX1) (T := TX1) (N := 5) hx hb hts (by decide +kernel) hown hK hP 1 rfl rfl 0 (by decide) (hts (.fieldLink RX1 9 "ConceptTable$Family" "members" "[I") (by decide +kernel)) (fun _ h9 => h9) rfl dX1_include_27 ?_
      refine lv_aload_n hx hb dX1_include_30 rfl (lv_at hl 0 rfl) ?_
      refine va_get (D := D) (ci := 1) (v := .int (nI z)) (C := RX1) (T := TX1) (N := 5) hx hb hts (by decide +kernel) hown hK hP 1 rfl rfl 3 (by decide) (hts (.fieldLink RX1 22 "ConceptTable$Family" "size" "I") (by decide +kernel)) (fun _ h9 => h9) rfl dX1_include_31 ?_
      refine lv_iload_n hx hb dX1_include_34 rfl (lv_at hl 1 rfl) ?_
      refine va_iast hx hb hK hP hD hS 0 0 rfl rfl (vp_in_nI (by omega) (by omega)) dX1_include_35 (fun H locs hP hD hS => ?_)
      have e_up : (upd (fun i_ => nI (mem i_)) ((nI z)).toNatClampNeg (nI q)) = (fun i_ => nI ((va_up mem z q) i_)) := by rw [show ((nI z)).toNatClampNeg = z from nI_clamp (by omega)]; exact up_nI mem z q
      have hP : va_P D vwCl [(h2, .inl (cI, N, .inl (fun i_ => nI ((va_up mem z q) i_)))), (h0, .inr (1, [.ref h2, .ref h3, .int (nI n), .int (nI z), .int (b2 ar)])), (h3, .inl (cI, N, .inl (fun i_ => lvO ((va_up g q (some 0)) i_))))] H := by rw [← e_up]; exact hP
      have hD : va_D A [(h2, .inl (cI, N, .inl (fun i_ => nI ((va_up mem z q) i_)))), (h0, .inr (1, [.ref h2, .ref h3, .int (nI n), .int (nI z), .int (b2 ar)])), (h3, .inl (cI, N, .inl (fun i_ => lvO ((va_up g q (some 0)) i_))))] := by rw [← e_up]; exact hD
      clear e_up
      refine lv_aload_n hx hb dX1_include_36 rfl (lv_at hl 0 rfl) ?_
      refine lv_dup hx hb dX1_include_37 rfl ?_
      refine va_get (D := D) (ci := 1) (v := .int (nI z)) (C := RX1) (T := TX1) (N := 5) hx hb hts (by decide +kernel) hown hK hP 1 rfl rfl 3 (by decide) (hts (.fieldLink RX1 22 "ConceptTable$Family" "size" "I") (by decide +kernel)) (fun _ h9 => h9) rfl dX1_include_38 ?_
      refine lv_iconst (v := 1) hx hb dX1_include_41 (by decide) ?_
      refine lv_iadd hx hb dX1_include_42 ?_
      refine lv_re (y := (nI (z + 1))) (nI_add z 1) ?_
      refine va_put (D := D) (ci := 1) (v := .int (nI (z + 1))) (ty := .int) (C := RX1) (T := TX1) (N := 5) hx hb hts (by decide +kernel) tyX1 tyX1_ok nmX1 hown hK hP hD hS 1 rfl rfl 3 (by decide) (hts (.fieldLink RX1 22 "ConceptTable$Family" "size" "I") (by decide +kernel)) (fun _ h9 => h9) rfl (by decide +kernel) rfl rfl (Nat.le_of_ble_eq_true rfl) dX1_include_43 (fun H locs hP hD hS => ?_)
      have hP : va_P D vwCl [(h2, .inl (cI, N, .inl (fun i_ => nI ((va_up mem z q) i_)))), (h0, .inr (1, [.ref h2, .ref h3, .int (nI n), .int (nI (z + 1)), .int (b2 ar)])), (h3, .inl (cI, N, .inl (fun i_ => lvO ((va_up g q (some 0)) i_))))] H := hP
      have hD : va_D A [(h2, .inl (cI, N, .inl (fun i_ => nI ((va_up mem z q) i_)))), (h0, .inr (1, [.ref h2, .ref h3, .int (nI n), .int (nI (z + 1)), .int (b2 ar)])), (h3, .inl (cI, N, .inl (fun i_ => lvO ((va_up g q (some 0)) i_))))] := hD
      refine lv_aload_n hx hb dX1_include_46 rfl (lv_at hl 0 rfl) ?_
      refine lv_iconst (v := 0) hx hb dX1_include_47 (by decide) ?_
      refine va_put (D := D) (ci := 1) (v := .int (0 : Int32)) (ty := .boolean) (C := RX1) (T := TX1) (N := 5) hx hb hts (by decide +kernel) tyX1 tyX1_ok nmX1 hown hK hP hD hS 1 rfl rfl 4 (by decide) (hts (.fieldLink RX1 43 "ConceptTable$Family" "arranged" "Z") (by decide +kernel)) (fun _ h9 => h9) rfl (by decide +kernel) rfl rfl (Nat.le_of_ble_eq_true rfl) dX1_include_48 (fun H locs hP hD hS => ?_)
      have hP : va_P D vwCl [(h2, .inl (cI, N, .inl (fun i_ => nI ((va_up mem z q) i_)))), (h0, .inr (1, [.ref h2, .ref h3, .int (nI n), .int (nI (z + 1)), .int (0 : Int32)])), (h3, .inl (cI, N, .inl (fun i_ => lvO ((va_up g q (some 0)) i_))))] H := hP
      have hD : va_D A [(h2, .inl (cI, N, .inl (fun i_ => nI ((va_up mem z q) i_)))), (h0, .inr (1, [.ref h2, .ref h3, .int (nI n), .int (nI (z + 1)), .int (0 : Int32)])), (h3, .inl (cI, N, .inl (fun i_ => lvO ((va_up g q (some 0)) i_))))] := hD
      have hP := hP.sub (ws' := [(h0, .inr (1, [.ref h2, .ref h3, .int (nI n), .int (nI (z + 1)), .int (0 : Int32)])), (h2, .inl (cI, N, .inl (fun i_ => nI ((va_up mem z q) i_)))), (h3, .inl (cI, N, .inl (fun i_ => lvO ((va_up g q (some 0)) i_))))]) [1, 0, 2] rfl
      have hD := hD.sub (ws' := [(h0, .inr (1, [.ref h2, .ref h3, .int (nI n), .int (nI (z + 1)), .int (0 : Int32)])), (h2, .inl (cI, N, .inl (fun i_ => nI ((va_up mem z q) i_)))), (h3, .inl (cI, N, .inl (fun i_ => lvO ((va_up g q (some 0)) i_))))]) [1, 0, 2] (by decide) rfl
      have e_w1 : (nI (z + 1)) = (nI (incS g q z)) := by unfold incS; rw [if_pos hs_]
      have e_w2 : (0 : Int32) = (b2 (incA g q ar)) := by unfold incA; rw [if_pos hs_]; rfl
      have e_w3 : (va_up mem z q) = (incM g q z mem) := by unfold incM; rw [if_pos hs_]
      have e_w4 : (va_up g q (some 0)) = (incG g q) := by unfold incG; rw [if_pos hs_]
      have hP : va_P D vwCl [(h0, .inr (1, [.ref h2, .ref h3, .int (nI n), .int (nI (incS g q z)), .int (b2 (incA g q ar))])), (h2, .inl (cI, N, .inl (fun i_ => nI ((incM g q z mem) i_)))), (h3, .inl (cI, N, .inl (fun i_ => lvO ((incG g q) i_))))] H := by rw [← e_w1, ← e_w2, ← e_w3, ← e_w4]; exact hP
      have hD : va_D A [(h0, .inr (1, [.ref h2, .ref h3, .int (nI n), .int (nI (incS g q z)), .int (b2 (incA g q ar))])), (h2, .inl (cI, N, .inl (fun i_ => nI ((incM g q z mem) i_)))), (h3, .inl (cI, N, .inl (fun i_ => lvO ((incG g q) i_))))] := by rw [← e_w1, ← e_w2, ← e_w3, ← e_w4]; exact hD
      exact W.vret hx hb hr (fun t ht hW => ⟨⟨rfl, by rw [ht]; exact hP, hD⟩, hS.F ht⟩) hS.2.2 dX1_include_51

set_option maxHeartbeats 4000000 in
set_option maxRecDepth 100000 in
theorem c_X1_meetWith (l : Launch) (D : va_G) (sz : Nat) (h0 : Nat) (h2 : Nat) (h3 : Nat) (n : Nat) (z : Nat) (ar : Bool) (cI : ClassId) (N : Nat) (mem : Nat → Nat) (g : Nat → Option Nat) (w : Nat) (hn : n ≤ 12) (hN : 2 ^ n ≤ N) (hN2 : N ≤ 4096) (hfam : FamOK n g mem z) : Met l yX1_meetWith wsX1_meetWith ({ frames := 4, cells := 0, slots := 0, locals := 84 }) (va_Pc [.ref h0, .int (nI w)] (fun U => U.heap.size = sz ∧ va_P D vwCl [(h0, .inr (1, [.ref h2, .ref h3, .int (nI n), .int (nI z), .int (b2 ar)])), (h2, .inl (cI, N, .inl (fun i_ => nI (mem i_)))), (h3, .inl (cI, N, .inl (fun i_ => lvO (g i_))))] U.heap ∧ va_K D vwCl [(cI, .int)] U ∧ va_D (fun _ => True) [(h0, .inr (1, [.ref h2, .ref h3, .int (nI n), .int (nI z), .int (b2 ar)])), (h2, .inl (cI, N, .inl (fun i_ => nI (mem i_)))), (h3, .inl (cI, N, .inl (fun i_ => lvO (g i_))))])) (mxQ (fun u_ : Nat × Bool × (Nat → Nat) × (Nat → Option Nat) => match u_ with | (z', ar', mem', g') => none) (fun u_ : Nat × Bool × (Nat → Nat) × (Nat → Option Nat) => match u_ with | (z', ar', mem', g') => (FamOK n g' mem' z') ∧ (∀ x, x < 2 ^ n → (gB g' x = true ↔ gB g x = true ∨ ∃ p, p < 2 ^ n ∧ gB g p = true ∧ (p &&& w) = x)) ∧ (ar' = true → ar = true ∧ g' = g ∧ mem' = mem ∧ z' = z)) (fun u_ : Nat × Bool × (Nat → Nat) × (Nat → Option Nat) => match u_ with | (z', ar', mem', g') => [(h0, .inr (1, [.ref h2, .ref h3, .int (nI n), .int (nI z'), .int (b2 ar')])), (h2, .inl (cI, N, .inl (fun i_ => nI (mem' i_)))), (h3, .inl (cI, N, .inl (fun i_ => lvO (g' i_))))]) D vwCl (va_A [(h0, .inr (1, [.ref h2, .ref h3, .int (nI n), .int (nI z), .int (b2 ar)])), (h2, .inl (cI, N, .inl (fun i_ => nI (mem i_)))), (h3, .inl (cI, N, .inl (fun i_ => lvO (g i_))))] sz)) 0 0 (va_A [(h0, .inr (1, [.ref h2, .ref h3, .int (nI n), .int (nI z), .int (b2 ar)])), (h2, .inl (cI, N, .inl (fun i_ => nI (mem i_)))), (h3, .inl (cI, N, .inl (fun i_ => lvO (g i_))))] sz) := by
  refine Met.ofW (cc := cX1_meetWith) (maxL := 4) (ret := none) (by decide) rfl ?_
  intro p e s m args below meth c s₁ B hml hv
  obtain ⟨rfl, hsz, hP, hK, hD0⟩ := hv
  have hx := B.exec
  have hb := B.bytes
  have hr := B.returns
  have hts := atoms_spec (ws := wsX1_meetWith) B.pre
  have hown : s.vm.findClass RX1 = some m.cls := findClass_of_methodNamed B.named
  have hlocks := B.notSynchronized
  subst hsz
  have hD := hD0.self (sz := s.heap.size)
  generalize hAe : va_A [(h0, .inr (1, [.ref h2, .ref h3, .int (nI n), .int (nI z), .int (b2 ar)])), (h2, .inl (cI, N, .inl (fun i_ => nI (mem i_)))), (h3, .inl (cI, N, .inl (fun i_ => lvO (g i_))))] s.heap.size = A at hD ⊢
  have hA : ∀ q : Nat, s.heap.size ≤ q → A q := fun q h => by rw [← hAe]; exact Or.inr h
  have hS : va_S A s.heap s.heap [] := va_S.rf
  have hl := lv_entry ([.ref h0, .int (nI w)]) (n := 4) (Nat.le_of_ble_eq_true rfl)
  rw [lg_entry_eq]
  generalize (lg_sl ([.ref h0, .int (nI w)]) ++ List.replicate (4 - (lg_sl ([.ref h0, .int (nI w)])).length) Slot.unset).toArray = ls at hl ⊢
  have hl : lv_has ls 4 [(0, .ref h0), (1, .int (nI w))] := hl
  have h2n := p2_le hn
  have hzl := cnt_le (gB g) (2 ^ n)
  rw [← hfam.1] at hzl
  refine lv_aload_n hx hb dX1_meetWith_0 rfl (lv_at hl 0 rfl) ?_
  refine va_get (D := D) (ci := 1) (v := .int (nI z)) (C := RX1) (T := TX1) (N := 5) hx hb hts (by decide +kernel) hown hK hP 0 rfl rfl 3 (by decide) (hts (.fieldLink RX1 22 "ConceptTable$Family" "size" "I") (by decide +kernel)) (fun _ h9 => h9) rfl dX1_meetWith_1 ?_
  refine lv_istore_n (lv' := [(2, .int (nI z)), (0, .ref h0), (1, .int (nI w))]) hx hb dX1_meetWith_4 rfl hl (by decide) rfl (fun ls hl => ?_)
  refine lv_iconst (v := 0) hx hb dX1_meetWith_5 (by decide) ?_
  refine lv_istore_n (lv' := [(3, .int (0 : Int32)), (2, .int (nI z)), (0, .ref h0), (1, .int (nI w))]) hx hb dX1_meetWith_6 rfl hl (by decide) rfl (fun ls hl => ?_)
  have lp_7 : ∀ (n_ : Nat) (k : Nat) (z1 : Nat) (ar1 : Bool) (mem1 : Nat → Nat) (g1 : Nat → Option Nat), z - k < n_ → (k ≤ z) → (FamOK n g1 mem1 z1) → (z ≤ z1) → (∀ j, j < z → mem1 j = mem j) → (∀ x, x < 2 ^ n → (gB g1 x = true ↔ gB g x = true ∨ ∃ j, j < k ∧ (mem j &&& w) = x)) → (ar1 = true → ar = true ∧ g1 = g ∧ mem1 = mem ∧ z1 = z) → ∀ (x3 : Int32), x3 = nI k → ∀ (f_h0_3 : Int32), f_h0_3 = nI z1 → ∀ (f_h0_4 : Int32), f_h0_4 = b2 ar1 → ∀ (H : Heap) (locs : List Loc), va_P D vwCl [(h0, .inr (1, [.ref h2, .ref h3, .int (nI n), .int f_h0_3, .int f_h0_4])), (h2, .inl (cI, N, .inl (fun i_ => nI (mem1 i_)))), (h3, .inl (cI, N, .inl (fun i_ => lvO (g1 i_))))] H → va_D A [(h0, .inr (1, [.ref h2, .ref h3, .int (nI n), .int f_h0_3, .int f_h0_4])), (h2, .inl (cI, N, .inl (fun i_ => nI (mem1 i_)))), (h3, .inl (cI, N, .inl (fun i_ => lvO (g1 i_))))] → va_S A s.heap H locs → ∀ (ls : Array Slot), lv_has ls 4 [(3, .int x3), (2, .int (nI z)), (0, .ref h0), (1, .int (nI w))] → W p l e (headSpec wsX1_meetWith ({ frames := 4, cells := 0, slots := 0, locals := 84 })).room s m ([.ref h0, .int (nI w)] : List Value).toArray below meth c H locs 0 0 (MQ below (mxQ (fun u_ : Nat × Bool × (Nat → Nat) × (Nat → Option Nat) => match u_ with | (z', ar', mem', g') => none) (fun u_ : Nat × Bool × (Nat → Nat) × (Nat → Option Nat) => match u_ with | (z', ar', mem', g') => (FamOK n g' mem' z') ∧ (∀ x, x < 2 ^ n → (gB g' x = true ↔ gB g x = true ∨ ∃ p, p < 2 ^ n ∧ gB g p = true ∧ (p &&& w) = x)) ∧ (ar' = true → ar = true ∧ g' = g ∧ mem' = mem ∧ z' = z)) (fun u_ : Nat × Bool × (Nat → Nat) × (Nat → Option Nat) => match u_ with | (z', ar', mem', g') => [(h0, .inr (1, [.ref h2, .ref h3, .int (nI n), .int (nI z'), .int (b2 ar')])), (h2, .inl (cI, N, .inl (fun i_ => nI (mem' i_)))), (h3, .inl (cI, N, .inl (fun i_ => lvO (g' i_))))]) D vwCl A) ([.ref h0, .int (nI w)] : List Value).toArray s 0 0 A) (F0 m 7 ls []) := by
    intro n_
    induction n_ with
    | zero => intro k z1 ar1 mem1 g1 h0_; exact absurd h0_ (Nat.not_lt_zero _)
    | succ n_ ih_7 =>
      intro k z1 ar1 mem1 g1 hm_7 hk hf1 hz1 hm1 hb1 hAr x3 e_x3 f_h0_3 e_f_h0_3 f_h0_4 e_f_h0_4 H locs hP hD hS ls hl
      subst e_x3
      subst e_f_h0_3
      subst e_f_h0_4
      refine lv_iload_n hx hb dX1_meetWith_7 rfl (lv_at hl 0 rfl) ?_
      refine lv_iload_n hx hb dX1_meetWith_8 rfl (lv_at hl 1 rfl) ?_
      refine lv_icmp_ge (tgt := 30) hx hb dX1_meetWith_9 (by decide) (fun c_9 => ?_) (fun c_9 => ?_)
      · have c_9 : z ≤ k := (nI_leI (a := z) (b := k) (by omega) (by omega)).mp c_9
        have hP := hP.sub (ws' := [(h0, .inr (1, [.ref h2, .ref h3, .int (nI n), .int (nI z1), .int (b2 ar1)])), (h2, .inl (cI, N, .inl (fun i_ => nI (mem1 i_)))), (h3, .inl (cI, N, .inl (fun i_ => lvO (g1 i_))))]) [0, 1, 2] rfl
        have hD := hD.sub (ws' := [(h0, .inr (1, [.ref h2, .ref h3, .int (nI n), .int (nI z1), .int (b2 ar1)])), (h2, .inl (cI, N, .inl (fun i_ => nI (mem1 i_)))), (h3, .inl (cI, N, .inl (fun i_ => lvO (g1 i_))))]) [0, 1, 2] (by decide) rfl
        exact W.vret hx hb hr (fun t ht hW => ⟨⟨(z1, ar1, mem1, g1), rfl, ⟨hf1, (meet_end hfam (show k = z by omega) hb1), hAr⟩, by rw [ht]; exact hP, hD⟩, hS.F ht⟩) hS.2.2 dX1_meetWith_30
      · have c_9 : k < z := Nat.lt_of_not_le (fun h_ => c_9 ((nI_leI (a := z) (b := k) (by omega) (by omega)).mpr h_))
        have hq_ : (mem1 k &&& w) < 2 ^ n := Nat.lt_of_le_of_lt Nat.and_le_left (hf1.2.1 k (by omega)).1
        have hz2 := cnt_le (gB g1) (2 ^ n)
        rw [← hf1.1] at hz2
        refine lv_aload_n hx hb dX1_meetWith_12 rfl (lv_at hl 2 rfl) ?_
        refine lv_aload_n hx hb dX1_meetWith_13 rfl (lv_at hl 2 rfl) ?_
        refine va_get (D := D) (ci := 1) (v := .ref h2) (C := RX1) (T := TX1) (N := 5) hx hb hts (by decide +kernel) hown hK hP 0 rfl rfl 0 (by decide) (hts (.fieldLink RX1 9 "ConceptTable$Family" "members" "[I") (by decide +kernel)) (fun _ h9 => h9) rfl dX1_meetWith_14 ?_
        refine lv_iload_n hx hb dX1_meetWith_17 rfl (lv_at hl 0 rfl) ?_
        refine va_iald hx hb hK hP 1 0 rfl rfl (vp_in_nI (by omega) (by omega)) dX1_meetWith_18 ?_
        refine lv_re (y := (nI (mem1 k))) (by rw [nI_clamp (by omega)]) ?_
        refine lv_iload_n hx hb dX1_meetWith_19 rfl (lv_at hl 3 rfl) ?_
        refine lv_iand hx hb dX1_meetWith_20 ?_
        refine lv_re (y := (nI ((mem1 k) &&& w))) (nx_and (mem1 k) w) ?_
        have hPc := hP.sub (ws' := [(h0, .inr (1, [.ref h2, .ref h3, .int (nI n), .int (nI z1), .int (b2 ar1)])), (h2, .inl (cI, N, .inl (fun i_ => nI (mem1 i_)))), (h3, .inl (cI, N, .inl (fun i_ => lvO (g1 i_))))]) [0, 1, 2] rfl
        have hDc := hD.sub (ws' := [(h0, .inr (1, [.ref h2, .ref h3, .int (nI n), .int (nI z1), .int (b2 ar1)])), (h2, .inl (cI, N, .inl (fun i_ => nI (mem1 i_)))), (h3, .inl (cI, N, .inl (fun i_ => lvO (g1 i_))))]) [0, 1, 2] (by decide) rfl
        have hKc := hK.sub (tys' := [(cI, .int)]) [0] rfl
        have hFc := va_free (wc := [(h0, .inr (1, [.ref h2, .ref h3, .int (nI n), .int (nI z1), .int (b2 ar1)])), (h2, .inl (cI, N, .inl (fun i_ => nI (mem1 i_)))), (h3, .inl (cI, N, .inl (fun i_ => lvO (g1 i_))))]) hD hS hA [0, 1, 2] rfl
        refine mu_call (va_runV (As := [.int (nI ((mem1 k) &&& w))]) (rest := []) ⟨hx, hb, hml, hown, hts⟩ (c_X1_include l D H.size h0 h2 h3 n z1 ar1 cI N mem1 g1 ((mem1 k) &&& w) (by omega) hN2 hf1.2.2.2 (fun z_ => Nat.lt_of_lt_of_le (fam_lt hf1 hq_ z_) hN)) (cwV 1 hts gX1_meetWith_X1_include rfl rfl rfl (by decide +kernel) ⟨Nat.le_of_ble_eq_true rfl, Nat.le_of_ble_eq_true rfl⟩) ⟨mu_bl, va_recv hKc hPc (ci := 1) (q0 := 0) rfl rfl, fun U hU hW => ⟨rfl, by rw [hU], by rw [hU]; exact hPc, va_K.moved hW.alike hKc, hDc.weaken (fun _ _ _ _ => trivial)⟩⟩ rfl rfl hl.1 rfl (lv_room (Nat.le_of_ble_eq_true rfl)) dX1_meetWith_21 ⟨Nat.le_of_ble_eq_true rfl, Nat.le_of_ble_eq_true rfl⟩) hS (fun q _ h => hFc q h) hFc (fun H1 locs hP1 hD1 hk1 hS => ?_)
        obtain ⟨hP, hD⟩ := va_join (wr := []) (w1 := [(h0, .inr (1, [.ref h2, .ref h3, .int (nI n), .int (nI (incS g1 ((mem1 k) &&& w) z1)), .int (b2 (incA g1 ((mem1 k) &&& w) ar1))])), (h2, .inl (cI, N, .inl (fun i_ => nI ((incM g1 ((mem1 k) &&& w) z1 mem1) i_)))), (h3, .inl (cI, N, .inl (fun i_ => lvO ((incG g1 ((mem1 k) &&& w)) i_))))]) hP hD [0, 1, 2] [] rfl rfl (by decide) (by decide) hk1 hFc hP1 hD1
        generalize H1 = H at hP hS ⊢
        have hP : va_P D vwCl [(h0, .inr (1, [.ref h2, .ref h3, .int (nI n), .int (nI (incS g1 ((mem1 k) &&& w) z1)), .int (b2 (incA g1 ((mem1 k) &&& w) ar1))])), (h2, .inl (cI, N, .inl (fun i_ => nI ((incM g1 ((mem1 k) &&& w) z1 mem1) i_)))), (h3, .inl (cI, N, .inl (fun i_ => lvO ((incG g1 ((mem1 k) &&& w)) i_))))] H := hP
        have hD : va_D A [(h0, .inr (1, [.ref h2, .ref h3, .int (nI n), .int (nI (incS g1 ((mem1 k) &&& w) z1)), .int (b2 (incA g1 ((mem1 k) &&& w) ar1))])), (h2, .inl (cI, N, .inl (fun i_ => nI ((incM g1 ((mem1 k) &&& w) z1 mem1) i_)))), (h3, .inl (cI, N, .inl (fun i_ => lvO ((incG g1 ((mem1 k) &&& w)) i_))))] := hD
        refine lv_iinc (v := (nI (k + 1))) (lv' := [(3, .int (nI (k + 1))), (2, .int (nI z)), (0, .ref h0), (1, .int (nI w))]) hx hb dX1_meetWith_24 hl (k := 0) rfl (nI_add _ 1) (by decide) rfl (fun ls hl => ?_)
        refine lv_goto (tgt := 7) hx hb dX1_meetWith_27 (by decide) ?_
        exact ih_7 (k + 1) (incS g1 (mem1 k &&& w) z1) (incA g1 (mem1 k &&& w) ar1) (incM g1 (mem1 k &&& w) z1 mem1) (incG g1 (mem1 k &&& w)) (by omega) (by omega) (fam_inc hf1 hq_) (Nat.le_trans hz1 (incS_ge _ _ _)) (fun j hj => by rw [incM_keep (by omega)]; exact hm1 j hj) (meet_step hb1 (hm1 k (by omega))) (inc_same hAr) _ rfl _ rfl _ rfl _ _ (hP.sub [0, 1, 2] rfl) (hD.sub [0, 1, 2] (by decide) rfl) hS _ (lv_sub hl [0, 1, 2, 3] rfl)
  exact lp_7 _ 0 z ar mem g (Nat.lt_succ_self _) (Nat.zero_le _) hfam (Nat.le_refl _) (fun _ _ => rfl) (fun x hx => ⟨Or.inl, fun h => by rcases h with h | ⟨j, hj, _⟩; exact h; exact absurd hj (Nat.not_lt_zero _)⟩) (fun z_ => ⟨z_, rfl, rfl, rfl⟩) _ rfl _ rfl _ rfl _ _ hP hD hS _ (lv_sub hl [0, 1, 2, 3] rfl)

set_option maxHeartbeats 4000000 in
set_option maxRecDepth 100000 in
theorem c_X1_restart (l : Launch) (D : va_G) (sz : Nat) (h0 : Nat) (h2 : Nat) (h3 : Nat) (n : Nat) (z : Nat) (ar : Bool) (cI : ClassId) (N : Nat) (mem : Nat → Nat) (g : Nat → Option Nat) (a : Nat) (ha : a ≤ 12) (hN : 2 ^ a ≤ N) (hN2 : N ≤ 4096) (hgb : ∀ j v, g j = some v → v ≤ 4096) : Met l yX1_restart wsX1_restart ({ frames := 4, cells := 0, slots := 0, locals := 84 }) (va_Pc [.ref h0, .int (nI a)] (fun U => U.heap.size = sz ∧ va_P D vwCl [(h0, .inr (1, [.ref h2, .ref h3, .int (nI n), .int (nI z), .int (b2 ar)])), (h2, .inl (cI, N, .inl (fun i_ => nI (mem i_)))), (h3, .inl (cI, N, .inl (fun i_ => lvO (g i_))))] U.heap ∧ va_K D vwCl [(cI, .int)] U ∧ va_D (fun _ => True) [(h0, .inr (1, [.ref h2, .ref h3, .int (nI n), .int (nI z), .int (b2 ar)])), (h2, .inl (cI, N, .inl (fun i_ => nI (mem i_)))), (h3, .inl (cI, N, .inl (fun i_ => lvO (g i_))))])) (mxQ (fun u_ : Nat × Bool × (Nat → Nat) × (Nat → Option Nat) => match u_ with | (z', ar', mem', g') => none) (fun u_ : Nat × Bool × (Nat → Nat) × (Nat → Option Nat) => match u_ with | (z', ar', mem', g') => (FamOK a g' mem' z') ∧ (∀ x, x < 2 ^ a → (gB g' x = true ↔ x = 2 ^ a - 1)) ∧ (ar' = false)) (fun u_ : Nat × Bool × (Nat → Nat) × (Nat → Option Nat) => match u_ with | (z', ar', mem', g') => [(h0, .inr (1, [.ref h2, .ref h3, .int (nI a), .int (nI z'), .int (b2 ar')])), (h2, .inl (cI, N, .inl (fun i_ => nI (mem' i_)))), (h3, .inl (cI, N, .inl (fun i_ => lvO (g' i_))))]) D vwCl (va_A [(h0, .inr (1, [.ref h2, .ref h3, .int (nI n), .int (nI z), .int (b2 ar)])), (h2, .inl (cI, N, .inl (fun i_ => nI (mem i_)))), (h3, .inl (cI, N, .inl (fun i_ => lvO (g i_))))] sz)) 0 0 (va_A [(h0, .inr (1, [.ref h2, .ref h3, .int (nI n), .int (nI z), .int (b2 ar)])), (h2, .inl (cI, N, .inl (fun i_ => nI (mem i_)))), (h3, .inl (cI, N, .inl (fun i_ => lvO (g i_))))] sz) := by
  refine Met.ofW (cc := cX1_restart) (maxL := 3) (ret := none) (by decide) rfl ?_
  intro p e s m args below meth c s₁ B hml hv
  obtain ⟨rfl, hsz, hP, hK, hD0⟩ := hv
  have hx := B.exec
  have hb := B.bytes
  have hr := B.returns
  have hts := atoms_spec (ws := wsX1_restart) B.pre
  have hown : s.vm.findClass RX1 = some m.cls := findClass_of_methodNamed B.named
  have hlocks := B.notSynchronized
  subst hsz
  have hD := hD0.self (sz := s.heap.size)
  generalize hAe : va_A [(h0, .inr (1, [.ref h2, .ref h3, .int (nI n), .int (nI z), .int (b2 ar)])), (h2, .inl (cI, N, .inl (fun i_ => nI (mem i_)))), (h3, .inl (cI, N, .inl (fun i_ => lvO (g i_))))] s.heap.size = A at hD ⊢
  have hA : ∀ q : Nat, s.heap.size ≤ q → A q := fun q h => by rw [← hAe]; exact Or.inr h
  have hS : va_S A s.heap s.heap [] := va_S.rf
  have hl := lv_entry ([.ref h0, .int (nI a)]) (n := 3) (Nat.le_of_ble_eq_true rfl)
  rw [lg_entry_eq]
  generalize (lg_sl ([.ref h0, .int (nI a)]) ++ List.replicate (3 - (lg_sl ([.ref h0, .int (nI a)])).length) Slot.unset).toArray = ls at hl ⊢
  have hl : lv_has ls 3 [(0, .ref h0), (1, .int (nI a))] := hl
  have hp1 := p2_pos a
  have h2n := p2_le ha
  refine lv_aload_n hx hb dX1_restart_0 rfl (lv_at hl 0 rfl) ?_
  refine lv_iload_n hx hb dX1_restart_1 rfl (lv_at hl 1 rfl) ?_
  refine va_put (D := D) (ci := 1) (v := .int (nI a)) (ty := .int) (C := RX1) (T := TX1) (N := 5) hx hb hts (by decide +kernel) tyX1 tyX1_ok nmX1 hown hK hP hD hS 0 rfl rfl 2 (by decide) (hts (.fieldLink RX1 18 "ConceptTable$Family" "attributes" "I") (by decide +kernel)) (fun _ h9 => h9) rfl (by decide +kernel) rfl rfl (Nat.le_of_ble_eq_true rfl) dX1_restart_2 (fun H locs hP hD hS => ?_)
  have hP : va_P D vwCl [(h0, .inr (1, [.ref h2, .ref h3, .int (nI a), .int (nI z), .int (b2 ar)])), (h2, .inl (cI, N, .inl (fun i_ => nI (mem i_)))), (h3, .inl (cI, N, .inl (fun i_ => lvO (g i_))))] H := hP
  have hD : va_D A [(h0, .inr (1, [.ref h2, .ref h3, .int (nI a), .int (nI z), .int (b2 ar)])), (h2, .inl (cI, N, .inl (fun i_ => nI (mem i_)))), (h3, .inl (cI, N, .inl (fun i_ => lvO (g i_))))] := hD
  refine lv_aload_n hx hb dX1_restart_5 rfl (lv_at hl 0 rfl) ?_
  refine lv_iconst (v := 0) hx hb dX1_restart_6 (by decide) ?_
  refine va_put (D := D) (ci := 1) (v := .int (0 : Int32)) (ty := .int) (C := RX1) (T := TX1) (N := 5) hx hb hts (by decide +kernel) tyX1 tyX1_ok nmX1 hown hK hP hD hS 0 rfl rfl 3 (by decide) (hts (.fieldLink RX1 22 "ConceptTable$Family" "size" "I") (by decide +kernel)) (fun _ h9 => h9) rfl (by decide +kernel) rfl rfl (Nat.le_of_ble_eq_true rfl) dX1_restart_7 (fun H locs hP hD hS => ?_)
  have hP : va_P D vwCl [(h0, .inr (1, [.ref h2, .ref h3, .int (nI a), .int (0 : Int32), .int (b2 ar)])), (h2, .inl (cI, N, .inl (fun i_ => nI (mem i_)))), (h3, .inl (cI, N, .inl (fun i_ => lvO (g i_))))] H := hP
  have hD : va_D A [(h0, .inr (1, [.ref h2, .ref h3, .int (nI a), .int (0 : Int32), .int (b2 ar)])), (h2, .inl (cI, N, .inl (fun i_ => nI (mem i_)))), (h3, .inl (cI, N, .inl (fun i_ => lvO (g i_))))] := hD
  refine lv_iconst (v := 0) hx hb dX1_restart_10 (by decide) ?_
  refine lv_istore_n (lv' := [(2, .int (0 : Int32)), (0, .ref h0), (1, .int (nI a))]) hx hb dX1_restart_11 rfl hl (by decide) rfl (fun ls hl => ?_)
  have lp_12 : ∀ (n_ : Nat) (k : Nat), 2 ^ a - k < n_ → (k ≤ 2 ^ a) → ∀ (x2 : Int32), x2 = nI k → ∀ (H : Heap) (locs : List Loc), va_P D vwCl [(h0, .inr (1, [.ref h2, .ref h3, .int (nI a), .int (0 : Int32), .int (b2 ar)])), (h2, .inl (cI, N, .inl (fun i_ => nI (mem i_)))), (h3, .inl (cI, N, .inl (fun i_ => lvO ((filG g k) i_))))] H → va_D A [(h0, .inr (1, [.ref h2, .ref h3, .int (nI a), .int (0 : Int32), .int (b2 ar)])), (h2, .inl (cI, N, .inl (fun i_ => nI (mem i_)))), (h3, .inl (cI, N, .inl (fun i_ => lvO ((filG g k) i_))))] → va_S A s.heap H locs → ∀ (ls : Array Slot), lv_has ls 3 [(2, .int x2), (0, .ref h0), (1, .int (nI a))] → W p l e (headSpec wsX1_restart ({ frames := 4, cells := 0, slots := 0, locals := 84 })).room s m ([.ref h0, .int (nI a)] : List Value).toArray below meth c H locs 0 0 (MQ below (mxQ (fun u_ : Nat × Bool × (Nat → Nat) × (Nat → Option Nat) => match u_ with | (z', ar', mem', g') => none) (fun u_ : Nat × Bool × (Nat → Nat) × (Nat → Option Nat) => match u_ with | (z', ar', mem', g') => (FamOK a g' mem' z') ∧ (∀ x, x < 2 ^ a → (gB g' x = true ↔ x = 2 ^ a - 1)) ∧ (ar' = false)) (fun u_ : Nat × Bool × (Nat → Nat) × (Nat → Option Nat) => match u_ with | (z', ar', mem', g') => [(h0, .inr (1, [.ref h2, .ref h3, .int (nI a), .int (nI z'), .int (b2 ar')])), (h2, .inl (cI, N, .inl (fun i_ => nI (mem' i_)))), (h3, .inl (cI, N, .inl (fun i_ => lvO (g' i_))))]) D vwCl A) ([.ref h0, .int (nI a)] : List Value).toArray s 0 0 A) (F0 m 12 ls []) := by
    intro n_
    induction n_ with
    | zero => intro k h0_; exact absurd h0_ (Nat.not_lt_zero _)
    | succ n_ ih_12 =>
      intro k hm_12 hk x2 e_x2 H locs hP hD hS ls hl
      subst e_x2
      refine lv_iload_n hx hb dX1_restart_12 rfl (lv_at hl 0 rfl) ?_
      refine lv_iconst (v := 1) hx hb dX1_restart_13 (by decide) ?_
      refine lv_aload_n hx hb dX1_restart_14 rfl (lv_at hl 1 rfl) ?_
      refine va_get (D := D) (ci := 1) (v := .int (nI a)) (C := RX1) (T := TX1) (N := 5) hx hb hts (by decide +kernel) hown hK hP 0 rfl rfl 2 (by decide) (hts (.fieldLink RX1 18 "ConceptTable$Family" "attributes" "I") (by decide +kernel)) (fun _ h9 => h9) rfl dX1_restart_15 ?_
      refine lv_ishl hx hb dX1_restart_18 ?_
      refine lv_re (y := (nI (2 ^ a))) (nx_sh1 (k := a) (by omega)) ?_
      refine lv_icmp_ge (tgt := 34) hx hb dX1_restart_19 (by decide) (fun c_19 => ?_) (fun c_19 => ?_)
      · have c_19 : (2 ^ a) ≤ k := (nI_leI (a := (2 ^ a)) (b := k) (by omega) (by omega)).mp c_19
        refine lv_aload_n hx hb dX1_restart_34 rfl (lv_at hl 1 rfl) ?_
        refine lv_aload_n hx hb dX1_restart_35 rfl (lv_at hl 1 rfl) ?_
        refine va_get (D := D) (ci := 1) (v := .int (nI a)) (C := RX1) (T := TX1) (N := 5) hx hb hts (by decide +kernel) hown hK hP 0 rfl rfl 2 (by decide) (hts (.fieldLink RX1 18 "ConceptTable$Family" "attributes" "I") (by decide +kernel)) (fun _ h9 => h9) rfl dX1_restart_36 ?_
        refine rd_S (As := [.int (nI a)]) (rest := [.ref h0]) ⟨hx, hb, hml, hown, hts⟩ (c_X5_allOf l D a (by omega)) (va_cwS 1 hts gX1_restart_X5_allOf rfl rfl rfl (by decide +kernel) ⟨Nat.le_of_ble_eq_true rfl, Nat.le_of_ble_eq_true rfl⟩) (hP.sub (ws' := []) [] rfl) (hK.sub (tys' := []) [] rfl) rfl rfl hl.1 rfl (lv_room (Nat.le_of_ble_eq_true rfl)) dX1_restart_39 ⟨Nat.le_of_ble_eq_true rfl, Nat.le_of_ble_eq_true rfl⟩ ?_
        have hPc := hP.sub (ws' := [(h0, .inr (1, [.ref h2, .ref h3, .int (nI a), .int (0 : Int32), .int (b2 ar)])), (h2, .inl (cI, N, .inl (fun i_ => nI (mem i_)))), (h3, .inl (cI, N, .inl (fun i_ => lvO ((filG g k) i_))))]) [0, 1, 2] rfl
        have hDc := hD.sub (ws' := [(h0, .inr (1, [.ref h2, .ref h3, .int (nI a), .int (0 : Int32), .int (b2 ar)])), (h2, .inl (cI, N, .inl (fun i_ => nI (mem i_)))), (h3, .inl (cI, N, .inl (fun i_ => lvO ((filG g k) i_))))]) [0, 1, 2] (by decide) rfl
        have hKc := hK.sub (tys' := [(cI, .int)]) [0] rfl
        have hFc := va_free (wc := [(h0, .inr (1, [.ref h2, .ref h3, .int (nI a), .int (0 : Int32), .int (b2 ar)])), (h2, .inl (cI, N, .inl (fun i_ => nI (mem i_)))), (h3, .inl (cI, N, .inl (fun i_ => lvO ((filG g k) i_))))]) hD hS hA [0, 1, 2] rfl
        refine mu_call (va_runV (As := [.int (nI (2 ^ a - 1))]) (rest := []) ⟨hx, hb, hml, hown, hts⟩ (c_X1_include l D H.size h0 h2 h3 a 0 ar cI N mem (filG g k) (2 ^ a - 1) (by omega) hN2 (filG_b hgb) (fun _ => by omega)) (cwV 1 hts gX1_restart_X1_include rfl rfl rfl (by decide +kernel) ⟨Nat.le_of_ble_eq_true rfl, Nat.le_of_ble_eq_true rfl⟩) ⟨mu_bl, va_recv hKc hPc (ci := 1) (q0 := 0) rfl rfl, fun U hU hW => ⟨rfl, by rw [hU], by rw [hU]; exact hPc, va_K.moved hW.alike hKc, hDc.weaken (fun _ _ _ _ => trivial)⟩⟩ rfl rfl hl.1 rfl (lv_room (Nat.le_of_ble_eq_true rfl)) dX1_restart_42 ⟨Nat.le_of_ble_eq_true rfl, Nat.le_of_ble_eq_true rfl⟩) hS (fun q _ h => hFc q h) hFc (fun H1 locs hP1 hD1 hk1 hS => ?_)
        obtain ⟨hP, hD⟩ := va_join (wr := []) (w1 := [(h0, .inr (1, [.ref h2, .ref h3, .int (nI a), .int (nI (incS (filG g k) (2 ^ a - 1) 0)), .int (b2 (incA (filG g k) (2 ^ a - 1) ar))])), (h2, .inl (cI, N, .inl (fun i_ => nI ((incM (filG g k) (2 ^ a - 1) 0 mem) i_)))), (h3, .inl (cI, N, .inl (fun i_ => lvO ((incG (filG g k) (2 ^ a - 1)) i_))))]) hP hD [0, 1, 2] [] rfl rfl (by decide) (by decide) hk1 hFc hP1 hD1
        generalize H1 = H at hP hS ⊢
        have hP : va_P D vwCl [(h0, .inr (1, [.ref h2, .ref h3, .int (nI a), .int (nI (incS (filG g k) (2 ^ a - 1) 0)), .int (b2 (incA (filG g k) (2 ^ a - 1) ar))])), (h2, .inl (cI, N, .inl (fun i_ => nI ((incM (filG g k) (2 ^ a - 1) 0 mem) i_)))), (h3, .inl (cI, N, .inl (fun i_ => lvO ((incG (filG g k) (2 ^ a - 1)) i_))))] H := hP
        have hD : va_D A [(h0, .inr (1, [.ref h2, .ref h3, .int (nI a), .int (nI (incS (filG g k) (2 ^ a - 1) 0)), .int (b2 (incA (filG g k) (2 ^ a - 1) ar))])), (h2, .inl (cI, N, .inl (fun i_ => nI ((incM (filG g k) (2 ^ a - 1) 0 mem) i_)))), (h3, .inl (cI, N, .inl (fun i_ => lvO ((incG (filG g k) (2 ^ a - 1)) i_))))] := hD
        have hP := hP.sub (ws' := [(h0, .inr (1, [.ref h2, .ref h3, .int (nI a), .int (nI (incS (filG g k) (2 ^ a - 1) 0)), .int (b2 (incA (filG g k) (2 ^ a - 1) ar))])), (h2, .inl (cI, N, .inl (fun i_ => nI ((incM (filG g k) (2 ^ a - 1) 0 mem) i_)))), (h3, .inl (cI, N, .inl (fun i_ => lvO ((incG (filG g k) (2 ^ a - 1)) i_))))]) [0, 1, 2] rfl
        have hD := hD.sub (ws' := [(h0, .inr (1, [.ref h2, .ref h3, .int (nI a), .int (nI (incS (filG g k) (2 ^ a - 1) 0)), .int (b2 (incA (filG g k) (2 ^ a - 1) ar))])), (h2, .inl (cI, N, .inl (fun i_ => nI ((incM (filG g k) (2 ^ a - 1) 0 mem) i_)))), (h3, .inl (cI, N, .inl (fun i_ => lvO ((incG (filG g k) (2 ^ a - 1)) i_))))]) [0, 1, 2] (by decide) rfl
        exact W.vret hx hb hr (fun t ht hW => ⟨⟨((incS (filG g k) (2 ^ a - 1) 0), (incA (filG g k) (2 ^ a - 1) ar), (incM (filG g k) (2 ^ a - 1) 0 mem), (incG (filG g k) (2 ^ a - 1))), rfl, ⟨(fam_inc (fam_empty (show 2 ^ a ≤ k by omega) hgb) (by omega)), (one_B (show 2 ^ a ≤ k by omega)), (by unfold incA; rw [filG_n (by omega)]; rfl)⟩, by rw [ht]; exact hP, hD⟩, hS.F ht⟩) hS.2.2 dX1_restart_45
      · have c_19 : k < (2 ^ a) := Nat.lt_of_not_le (fun h_ => c_19 ((nI_leI (a := (2 ^ a)) (b := k) (by omega) (by omega)).mpr h_))
        refine lv_aload_n hx hb dX1_restart_22 rfl (lv_at hl 1 rfl) ?_
        refine lv_iload_n hx hb dX1_restart_23 rfl (lv_at hl 0 rfl) ?_
        refine lv_iconst (v := -1) hx hb dX1_restart_24 (by decide) ?_
        have hPc := hP.sub (ws' := [(h0, .inr (1, [.ref h2, .ref h3, .int (nI a), .int (0 : Int32), .int (b2 ar)])), (h3, .inl (cI, N, .inl (fun i_ => lvO ((filG g k) i_))))]) [0, 2] rfl
        have hDc := hD.sub (ws' := [(h0, .inr (1, [.ref h2, .ref h3, .int (nI a), .int (0 : Int32), .int (b2 ar)])), (h3, .inl (cI, N, .inl (fun i_ => lvO ((filG g k) i_))))]) [0, 2] (by decide) rfl
        have hKc := hK.sub (tys' := [(cI, .int)]) [0] rfl
        have hFc := va_free (wc := [(h0, .inr (1, [.ref h2, .ref h3, .int (nI a), .int (0 : Int32), .int (b2 ar)])), (h3, .inl (cI, N, .inl (fun i_ => lvO ((filG g k) i_))))]) hD hS hA [0, 2] rfl
        refine mu_call (va_runV (As := [.int (nI k), .int (-1 : Int32)]) (rest := []) ⟨hx, hb, hml, hown, hts⟩ (c_X1_setLevel_n l D H.size h0 ([.ref h2, .ref h3, .int (nI a), .int (0 : Int32), .int (b2 ar)]) h3 cI N (filG g k) k rfl (by omega) hN2) (cwV 2 hts gX1_restart_X1_setLevel rfl rfl rfl (by decide +kernel) ⟨Nat.le_of_ble_eq_true rfl, Nat.le_of_ble_eq_true rfl⟩) ⟨mu_bl, va_recv hKc hPc (ci := 1) (q0 := 0) rfl rfl, fun U hU hW => ⟨rfl, by rw [hU], by rw [hU]; exact hPc, va_K.moved hW.alike hKc, hDc.weaken (fun _ _ _ _ => trivial)⟩⟩ rfl rfl hl.1 rfl (lv_room (Nat.le_of_ble_eq_true rfl)) dX1_restart_25 ⟨Nat.le_of_ble_eq_true rfl, Nat.le_of_ble_eq_true rfl⟩) hS (fun q _ h => hFc q h) hFc (fun H1 locs hP1 hD1 hk1 hS => ?_)
        obtain ⟨hP, hD⟩ := va_join (wr := [(h2, .inl (cI, N, .inl (fun i_ => nI (mem i_))))]) (w1 := [(h0, .inr (1, [.ref h2, .ref h3, .int (nI a), .int (0 : Int32), .int (b2 ar)])), (h3, .inl (cI, N, .inl (fun i_ => lvO ((va_up (filG g k) k none) i_))))]) hP hD [0, 2] [1] rfl rfl (by decide) (by decide) hk1 hFc hP1 hD1
        generalize H1 = H at hP hS ⊢
        have hP : va_P D vwCl [(h2, .inl (cI, N, .inl (fun i_ => nI (mem i_)))), (h0, .inr (1, [.ref h2, .ref h3, .int (nI a), .int (0 : Int32), .int (b2 ar)])), (h3, .inl (cI, N, .inl (fun i_ => lvO ((va_up (filG g k) k none) i_))))] H := hP
        have hD : va_D A [(h2, .inl (cI, N, .inl (fun i_ => nI (mem i_)))), (h0, .inr (1, [.ref h2, .ref h3, .int (nI a), .int (0 : Int32), .int (b2 ar)])), (h3, .inl (cI, N, .inl (fun i_ => lvO ((va_up (filG g k) k none) i_))))] := hD
        refine lv_iinc (v := (nI (k + 1))) (lv' := [(2, .int (nI (k + 1))), (0, .ref h0), (1, .int (nI a))]) hx hb dX1_restart_28 hl (k := 0) rfl (nI_add _ 1) (by decide) rfl (fun ls hl => ?_)
        refine lv_goto (tgt := 12) hx hb dX1_restart_31 (by decide) ?_
        rw [filG_s g k] at hP hD
        exact ih_12 (k + 1) (by omega) (by omega) _ rfl _ _ (hP.sub [1, 0, 2] rfl) (hD.sub [1, 0, 2] (by decide) rfl) hS _ (lv_sub hl [0, 1, 2] rfl)
  rw [filG_0 g] at hP hD
  exact lp_12 _ 0 (Nat.lt_succ_self _) (Nat.zero_le _) _ rfl _ _ hP hD hS _ (lv_sub hl [0, 1, 2] rfl)

set_option maxHeartbeats 4000000 in
set_option maxRecDepth 100000 in
theorem c_X1_levelFromAbove (l : Launch) (D : va_G) (h0 : Nat) (fs : List Value) (h3 : Nat) (cI : ClassId) (N : Nat) (g : Nat → Option Nat) (ht : Nat) (ft : List Value) (hro : Nat) (o : Nat) (r : Nat → Nat) (q : Nat) (lv : Nat → Nat) (f1 : fs[1]? = some (.ref h3)) (t0 : ft[0]? = some (.ref hro)) (t2 : ft[2]? = some (.int (nI o))) (ho : o ≤ 20) (hq : q < N) (hN2 : N ≤ 4096) (hlb : ∀ x, lv x ≤ 4096) (hlv : ∀ k, k < o → ¬ (q &&& r k) = q → g (q &&& r k) = some (lv (q &&& r k))) : Met l yX1_levelFromAbove wsX1_levelFromAbove ({ frames := 2, cells := 0, slots := 0, locals := 42 }) (va_Pc [.ref h0, .int (nI q), .ref ht] (fun U => va_P D vwCl [(h0, .inr (1, fs)), (h3, .inl (cI, N, .inl (fun i_ => lvO (g i_)))), (ht, .inr (5, ft)), (hro, .inl (cI, 20, .inl (fun i_ => nI (r i_))))] U.heap ∧ va_K D vwCl [(cI, .int)] U)) (QcRead (nI (lfS r lv q o))) 0 0 (fun _ => False) := by
  refine Met.ofW (cc := cX1_levelFromAbove) (maxL := 6) (ret := (some .int)) (by decide) rfl ?_
  intro p e s m args below meth c s₁ B hml hv
  obtain ⟨rfl, hP, hK⟩ := hv
  have hx := B.exec
  have hb := B.bytes
  have hr := B.returns
  have hts := atoms_spec (ws := wsX1_levelFromAbove) B.pre
  have hown : s.vm.findClass RX1 = some m.cls := findClass_of_methodNamed B.named
  have hlocks := B.notSynchronized
  have hl := lv_entry ([.ref h0, .int (nI q), .ref ht]) (n := 6) (Nat.le_of_ble_eq_true rfl)
  rw [lg_entry_eq]
  generalize (lg_sl ([.ref h0, .int (nI q), .ref ht]) ++ List.replicate (6 - (lg_sl ([.ref h0, .int (nI q), .ref ht])).length) Slot.unset).toArray = ls at hl ⊢
  have hl : lv_has ls 6 [(0, .ref h0), (1, .int (nI q)), (2, .ref ht)] := hl
  have hal : ∀ k, (q &&& r k) < N := fun k => Nat.lt_of_le_of_lt Nat.and_le_left hq
  have hsl : ∀ k, lfS r lv q k < 2 ^ 31 := fun k => Nat.lt_of_le_of_lt (lfS_le hlb k) (by decide)
  refine lv_iconst (v := 0) hx hb dX1_levelFromAbove_0 (by decide) ?_
  refine lv_istore_n (lv' := [(3, .int (0 : Int32)), (0, .ref h0), (1, .int (nI q)), (2, .ref ht)]) hx hb dX1_levelFromAbove_1 rfl hl (by decide) rfl (fun ls hl => ?_)
  refine lv_iconst (v := 0) hx hb dX1_levelFromAbove_2 (by decide) ?_
  refine lv_istore (lv' := [(4, .int (0 : Int32)), (3, .int (0 : Int32)), (0, .ref h0), (1, .int (nI q)), (2, .ref ht)]) hx hb dX1_levelFromAbove_3 hl (by decide) rfl (fun ls hl => ?_)
  have lp_5 : ∀ (n_ : Nat) (k : Nat), o - k < n_ → (k ≤ o) → ∀ (x4 : Int32), x4 = nI k → ∀ (x3 : Int32), x3 = nI (lfS r lv q k) → ∀ (ls : Array Slot), lv_has ls 6 [(4, .int x4), (3, .int x3), (0, .ref h0), (1, .int (nI q)), (2, .ref ht)] → W p l e (headSpec wsX1_levelFromAbove ({ frames := 2, cells := 0, slots := 0, locals := 42 })).room s m ([.ref h0, .int (nI q), .ref ht] : List Value).toArray below meth c s.heap [] 0 0 (MQ below (QcRead (nI (lfS r lv q o))) ([.ref h0, .int (nI q), .ref ht] : List Value).toArray s 0 0 (fun _ => False)) (F0 m 5 ls []) := by
    intro n_
    induction n_ with
    | zero => intro k h0_; exact absurd h0_ (Nat.not_lt_zero _)
    | succ n_ ih_5 =>
      intro k hm_5 hk x4 e_x4 x3 e_x3 ls hl
      subst e_x4
      subst e_x3
      refine lv_iload hx hb dX1_levelFromAbove_5 (lv_at hl 0 rfl) ?_
      refine lv_aload_n hx hb dX1_levelFromAbove_7 rfl (lv_at hl 4 rfl) ?_
      refine rd_V (As := []) (rest := [.int (nI k)]) ⟨hx, hb, hml, hown, hts⟩ (c_X6_size l D ht ft o t2) (cwV 0 hts gX1_levelFromAbove_X6_size rfl rfl rfl (by decide +kernel) ⟨Nat.le_of_ble_eq_true rfl, Nat.le_of_ble_eq_true rfl⟩) (hP.sub (ws' := [(ht, .inr (5, ft))]) [2] rfl) (hK.sub (tys' := []) [] rfl) (va_recv hK hP (ci := 5) (q0 := 2) rfl rfl) rfl rfl hl.1 rfl (lv_room (Nat.le_of_ble_eq_true rfl)) dX1_levelFromAbove_8 ⟨Nat.le_of_ble_eq_true rfl, Nat.le_of_ble_eq_true rfl⟩ ?_
      refine lv_icmp_ge (tgt := 49) hx hb dX1_levelFromAbove_11 (by decide) (fun c_11 => ?_) (fun c_11 => ?_)
      · have c_11 : o ≤ k := (nI_leI (a := o) (b := k) (by omega) (by omega)).mp c_11
        refine lv_iload_n hx hb dX1_levelFromAbove_49 rfl (lv_at hl 1 rfl) ?_
        have e_ret : (nI (lfS r lv q k)) = (nI (lfS r lv q o)) := by rw [show k = o by omega]
        exact W.iret (v := (nI (lfS r lv q k))) hx hb hr (fun t ht hW => ⟨congrArg (fun z_ => Outcome.returned (some (Value.int z_))) e_ret, ht⟩) (fun q h => by cases h) dX1_levelFromAbove_50
      · have c_11 : k < o := Nat.lt_of_not_le (fun h_ => c_11 ((nI_leI (a := o) (b := k) (by omega) (by omega)).mpr h_))
        refine lv_iload_n hx hb dX1_levelFromAbove_14 rfl (lv_at hl 3 rfl) ?_
        refine lv_aload_n hx hb dX1_levelFromAbove_15 rfl (lv_at hl 4 rfl) ?_
        refine lv_iload hx hb dX1_levelFromAbove_16 (lv_at hl 0 rfl) ?_
        refine rd_V (As := [.int (nI k)]) (rest := [.int (nI q)]) ⟨hx, hb, hml, hown, hts⟩ (c_X6_row l D ht ft hro cI o r k t0 t2 ho (by omega)) (cwV 1 hts gX1_levelFromAbove_X6_row rfl rfl rfl (by decide +kernel) ⟨Nat.le_of_ble_eq_true rfl, Nat.le_of_ble_eq_true rfl⟩) (hP.sub (ws' := [(ht, .inr (5, ft)), (hro, .inl (cI, 20, .inl (fun i_ => nI (r i_))))]) [2, 3] rfl) (hK.sub (tys' := [(cI, .int)]) [0] rfl) (va_recv hK hP (ci := 5) (q0 := 2) rfl rfl) rfl rfl hl.1 rfl (lv_room (Nat.le_of_ble_eq_true rfl)) dX1_levelFromAbove_18 ⟨Nat.le_of_ble_eq_true rfl, Nat.le_of_ble_eq_true rfl⟩ ?_
        refine lv_iand hx hb dX1_levelFromAbove_21 ?_
        refine lv_re (y := (nI (q &&& (r k)))) (nx_and q (r k)) ?_
        refine lv_istore (lv' := [(5, .int (nI (q &&& (r k)))), (4, .int (nI k)), (3, .int (nI (lfS r lv q k))), (0, .ref h0), (1, .int (nI q)), (2, .ref ht)]) hx hb dX1_levelFromAbove_22 hl (by decide) rfl (fun ls hl => ?_)
        refine lv_iload hx hb dX1_levelFromAbove_24 (lv_at hl 0 rfl) ?_
        refine lv_iload_n hx hb dX1_levelFromAbove_26 rfl (lv_at hl 4 rfl) ?_
        refine lv_icmp_eq (tgt := 43) hx hb dX1_levelFromAbove_27 (by decide) (fun c_27 => ?_) (fun c_27 => ?_)
        · have c_27 : (q &&& (r k)) = q := (nI_eq (a := (q &&& (r k))) (b := q) (Nat.lt_trans (hal _) (by omega)) (by omega)).mp c_27
          refine lv_iinc (v := (nI (k + 1))) (lv' := [(4, .int (nI (k + 1))), (5, .int (nI (q &&& (r k)))), (3, .int (nI (lfS r lv q k))), (0, .ref h0), (1, .int (nI q)), (2, .ref ht)]) hx hb dX1_levelFromAbove_43 hl (k := 1) rfl (nI_add _ 1) (by decide) rfl (fun ls hl => ?_)
          refine lv_goto (tgt := 5) hx hb dX1_levelFromAbove_46 (by decide) ?_
          exact ih_5 (k + 1) (by omega) (by omega) _ rfl _ (by rw [lfS, if_pos c_27]) _ (lv_sub hl [0, 2, 3, 4, 5] rfl)
        · have c_27 : ¬ (q &&& (r k)) = q := fun h_ => c_27 ((nI_eq (a := (q &&& (r k))) (b := q) (Nat.lt_trans (hal _) (by omega)) (by omega)).mpr h_)
          refine lv_iload_n hx hb dX1_levelFromAbove_30 rfl (lv_at hl 2 rfl) ?_
          refine lv_aload_n hx hb dX1_levelFromAbove_31 rfl (lv_at hl 3 rfl) ?_
          refine lv_iload hx hb dX1_levelFromAbove_32 (lv_at hl 0 rfl) ?_
          refine rd_V (As := [.int (nI (q &&& (r k)))]) (rest := [.int (nI (lfS r lv q k))]) ⟨hx, hb, hml, hown, hts⟩ (c_X1_levelOf_v l D h0 fs h3 cI N g (q &&& (r k)) (lv (q &&& r k)) f1 (hal _) hN2 (hlv k (by omega) c_27)) (cwV 1 hts gX1_levelFromAbove_X1_levelOf rfl rfl rfl (by decide +kernel) ⟨Nat.le_of_ble_eq_true rfl, Nat.le_of_ble_eq_true rfl⟩) (hP.sub (ws' := [(h0, .inr (1, fs)), (h3, .inl (cI, N, .inl (fun i_ => lvO (g i_))))]) [0, 1] rfl) (hK.sub (tys' := [(cI, .int)]) [0] rfl) (va_recv hK hP (ci := 1) (q0 := 0) rfl rfl) rfl rfl hl.1 rfl (lv_room (Nat.le_of_ble_eq_true rfl)) dX1_levelFromAbove_34 ⟨Nat.le_of_ble_eq_true rfl, Nat.le_of_ble_eq_true rfl⟩ ?_
          refine lv_iconst (v := 1) hx hb dX1_levelFromAbove_37 (by decide) ?_
          refine lv_iadd hx hb dX1_levelFromAbove_38 ?_
          refine lv_re (y := (nI ((lv (q &&& r k)) + 1))) (nI_add (lv (q &&& r k)) 1) ?_
          refine va_mmax hx hb (by rw [hml]; exact hl.1.symm) hown (hts (.methodLink RX1 73 Lib.Math.max.name) (by decide +kernel)) (hts (.static Lib.Math.max.name) (by decide +kernel)) (hts (.initialized "java/lang/Math") (by decide +kernel)) (hts (.code Lib.Math.max.name Lib.Math.max.code 2 (some .int)) (by decide +kernel)) (Nat.le_of_ble_eq_true rfl) (Nat.le_of_ble_eq_true rfl) (Nat.le_of_ble_eq_true rfl) (Nat.le_of_ble_eq_true rfl) dX1_levelFromAbove_39 ?_
          refine lv_re (y := (nI (if lfS r lv q k < lv (q &&& r k) + 1 then lv (q &&& r k) + 1 else lfS r lv q k))) (mx_nI (hsl _) (by have := hlb (q &&& r k); omega)) ?_
          refine lv_istore_n (lv' := [(3, .int (nI (if lfS r lv q k < lv (q &&& r k) + 1 then lv (q &&& r k) + 1 else lfS r lv q k))), (5, .int (nI (q &&& (r k)))), (4, .int (nI k)), (0, .ref h0), (1, .int (nI q)), (2, .ref ht)]) hx hb dX1_levelFromAbove_42 rfl hl (by decide) rfl (fun ls hl => ?_)
          refine lv_iinc (v := (nI (k + 1))) (lv' := [(4, .int (nI (k + 1))), (3, .int (nI (if lfS r lv q k < lv (q &&& r k) + 1 then lv (q &&& r k) + 1 else lfS r lv q k))), (5, .int (nI (q &&& (r k)))), (0, .ref h0), (1, .int (nI q)), (2, .ref ht)]) hx hb dX1_levelFromAbove_43 hl (k := 2) rfl (nI_add _ 1) (by decide) rfl (fun ls hl => ?_)
          refine lv_goto (tgt := 5) hx hb dX1_levelFromAbove_46 (by decide) ?_
          exact ih_5 (k + 1) (by omega) (by omega) _ rfl _ (by rw [lfS, if_neg c_27]) _ (lv_sub hl [0, 1, 3, 4, 5] rfl)
  exact lp_5 _ 0 (Nat.lt_succ_self _) (Nat.zero_le _) _ rfl _ rfl _ (lv_sub hl [0, 1, 2, 3, 4] rfl)

set_option maxHeartbeats 4000000 in
set_option maxRecDepth 100000 in
theorem c_X1_putInOrder (l : Launch) (D : va_G) (sz : Nat) (h0 : Nat) (h2 : Nat) (h3 : Nat) (n : Nat) (z : Nat) (ar : Bool) (cI : ClassId) (N : Nat) (mem : Nat → Nat) (g : Nat → Option Nat) (hn : n ≤ 12) (hN : 2 ^ n ≤ N) (hN2 : N ≤ 4096) (hgb : ∀ j v, g j = some v → v ≤ 4096) (hlen : (BLp (gB g) n (2 ^ n)).length = z) : Met l yX1_putInOrder wsX1_putInOrder ({ frames := 3, cells := 0, slots := 0, locals := 63 }) (va_Pc [.ref h0] (fun U => U.heap.size = sz ∧ va_P D vwCl [(h0, .inr (1, [.ref h2, .ref h3, .int (nI n), .int (nI z), .int (b2 ar)])), (h2, .inl (cI, N, .inl (fun i_ => nI (mem i_)))), (h3, .inl (cI, N, .inl (fun i_ => lvO (g i_))))] U.heap ∧ va_K D vwCl [(cI, .int)] U ∧ va_D (fun _ => True) [(h0, .inr (1, [.ref h2, .ref h3, .int (nI n), .int (nI z), .int (b2 ar)])), (h2, .inl (cI, N, .inl (fun i_ => nI (mem i_)))), (h3, .inl (cI, N, .inl (fun i_ => lvO (g i_))))])) (mxQ (fun u_ : (Nat → Nat) => match u_ with | mem' => none) (fun u_ : (Nat → Nat) => match u_ with | mem' => (lstAt mem' (BLp (gB g) n (2 ^ n)))) (fun u_ : (Nat → Nat) => match u_ with | mem' => [(h0, .inr (1, [.ref h2, .ref h3, .int (nI n), .int (nI z), .int (b2 ar)])), (h2, .inl (cI, N, .inl (fun i_ => nI (mem' i_)))), (h3, .inl (cI, N, .inl (fun i_ => lvO (g i_))))]) D vwCl (va_A [(h0, .inr (1, [.ref h2, .ref h3, .int (nI n), .int (nI z), .int (b2 ar)])), (h2, .inl (cI, N, .inl (fun i_ => nI (mem i_)))), (h3, .inl (cI, N, .inl (fun i_ => lvO (g i_))))] sz)) 0 0 (va_A [(h0, .inr (1, [.ref h2, .ref h3, .int (nI n), .int (nI z), .int (b2 ar)])), (h2, .inl (cI, N, .inl (fun i_ => nI (mem i_)))), (h3, .inl (cI, N, .inl (fun i_ => lvO (g i_))))] sz) := by
  refine Met.ofW (cc := cX1_putInOrder) (maxL := 4) (ret := none) (by decide) rfl ?_
  intro p e s m args below meth c s₁ B hml hv
  obtain ⟨rfl, hsz, hP, hK, hD0⟩ := hv
  have hx := B.exec
  have hb := B.bytes
  have hr := B.returns
  have hts := atoms_spec (ws := wsX1_putInOrder) B.pre
  have hown : s.vm.findClass RX1 = some m.cls := findClass_of_methodNamed B.named
  have hlocks := B.notSynchronized
  subst hsz
  have hD := hD0.self (sz := s.heap.size)
  generalize hAe : va_A [(h0, .inr (1, [.ref h2, .ref h3, .int (nI n), .int (nI z), .int (b2 ar)])), (h2, .inl (cI, N, .inl (fun i_ => nI (mem i_)))), (h3, .inl (cI, N, .inl (fun i_ => lvO (g i_))))] s.heap.size = A at hD ⊢
  have hA : ∀ q : Nat, s.heap.size ≤ q → A q := fun q h => by rw [← hAe]; exact Or.inr h
  have hS : va_S A s.heap s.heap [] := va_S.rf
  have hl := lv_entry ([.ref h0]) (n := 4) (Nat.le_of_ble_eq_true rfl)
  rw [lg_entry_eq]
  generalize (lg_sl ([.ref h0]) ++ List.replicate (4 - (lg_sl ([.ref h0])).length) Slot.unset).toArray = ls at hl ⊢
  have hl : lv_has ls 4 [(0, .ref h0)] := hl
  have h2n := p2_le hn
  have hp1 := p2_pos n
  refine lv_iconst (v := 0) hx hb dX1_putInOrder_0 (by decide) ?_
  refine lv_istore_n (lv' := [(1, .int (0 : Int32)), (0, .ref h0)]) hx hb dX1_putInOrder_1 rfl hl (by decide) rfl (fun ls hl => ?_)
  refine lv_iconst (v := 0) hx hb dX1_putInOrder_2 (by decide) ?_
  refine lv_istore_n (lv' := [(2, .int (0 : Int32)), (1, .int (0 : Int32)), (0, .ref h0)]) hx hb dX1_putInOrder_3 rfl hl (by decide) rfl (fun ls hl => ?_)
  refine lv_iconst (v := 0) hx hb dX1_putInOrder_4 (by decide) ?_
  refine lv_istore_n (lv' := [(3, .int (0 : Int32)), (2, .int (0 : Int32)), (1, .int (0 : Int32)), (0, .ref h0)]) hx hb dX1_putInOrder_5 rfl hl (by decide) rfl (fun ls hl => ?_)
  have lp_6 : ∀ (n_ : Nat) (k : Nat) (pl : Nat) (mem1 : Nat → Nat) (sv : Int32), 2 ^ n - k < n_ → (k ≤ 2 ^ n) → (pl = (BLp (gB g) n k).length) → (lstAt mem1 (BLp (gB g) n k)) → (sv = if k < 2 ^ n then nI (tur n k n) else -1) → ∀ (x3 : Int32), x3 = nI k → ∀ (x1 : Int32), x1 = nI pl → ∀ (H : Heap) (locs : List Loc), va_P D vwCl [(h0, .inr (1, [.ref h2, .ref h3, .int (nI n), .int (nI z), .int (b2 ar)])), (h2, .inl (cI, N, .inl (fun i_ => nI (mem1 i_)))), (h3, .inl (cI, N, .inl (fun i_ => lvO (g i_))))] H → va_D A [(h0, .inr (1, [.ref h2, .ref h3, .int (nI n), .int (nI z), .int (b2 ar)])), (h2, .inl (cI, N, .inl (fun i_ => nI (mem1 i_)))), (h3, .inl (cI, N, .inl (fun i_ => lvO (g i_))))] → va_S A s.heap H locs → ∀ (ls : Array Slot), lv_has ls 4 [(3, .int x3), (2, .int sv), (1, .int x1), (0, .ref h0)] → W p l e (headSpec wsX1_putInOrder ({ frames := 3, cells := 0, slots := 0, locals := 63 })).room s m ([.ref h0] : List Value).toArray below meth c H locs 0 0 (MQ below (mxQ (fun u_ : (Nat → Nat) => match u_ with | mem' => none) (fun u_ : (Nat → Nat) => match u_ with | mem' => (lstAt mem' (BLp (gB g) n (2 ^ n)))) (fun u_ : (Nat → Nat) => match u_ with | mem' => [(h0, .inr (1, [.ref h2, .ref h3, .int (nI n), .int (nI z), .int (b2 ar)])), (h2, .inl (cI, N, .inl (fun i_ => nI (mem' i_)))), (h3, .inl (cI, N, .inl (fun i_ => lvO (g i_))))]) D vwCl A) ([.ref h0] : List Value).toArray s 0 0 A) (F0 m 6 ls []) := by
    intro n_
    induction n_ with
    | zero => intro k pl mem1 sv h0_; exact absurd h0_ (Nat.not_lt_zero _)
    | succ n_ ih_6 =>
      intro k pl mem1 sv hm_6 hk hpl hm1 hsv x3 e_x3 x1 e_x1 H locs hP hD hS ls hl
      subst e_x3
      subst e_x1
      refine lv_iload_n hx hb dX1_putInOrder_6 rfl (lv_at hl 0 rfl) ?_
      refine lv_iconst (v := 1) hx hb dX1_putInOrder_7 (by decide) ?_
      refine lv_aload_n hx hb dX1_putInOrder_8 rfl (lv_at hl 3 rfl) ?_
      refine va_get (D := D) (ci := 1) (v := .int (nI n)) (C := RX1) (T := TX1) (N := 5) hx hb hts (by decide +kernel) hown hK hP 0 rfl rfl 2 (by decide) (hts (.fieldLink RX1 18 "ConceptTable$Family" "attributes" "I") (by decide +kernel)) (fun _ h9 => h9) rfl dX1_putInOrder_9 ?_
      refine lv_ishl hx hb dX1_putInOrder_12 ?_
      refine lv_re (y := (nI (2 ^ n))) (nx_sh1 (k := n) (by omega)) ?_
      refine lv_icmp_ge (tgt := 62) hx hb dX1_putInOrder_13 (by decide) (fun c_13 => ?_) (fun c_13 => ?_)
      · have c_13 : (2 ^ n) ≤ k := (nI_leI (a := (2 ^ n)) (b := k) (by omega) (by omega)).mp c_13
        have hP := hP.sub (ws' := [(h0, .inr (1, [.ref h2, .ref h3, .int (nI n), .int (nI z), .int (b2 ar)])), (h2, .inl (cI, N, .inl (fun i_ => nI (mem1 i_)))), (h3, .inl (cI, N, .inl (fun i_ => lvO (g i_))))]) [0, 1, 2] rfl
        have hD := hD.sub (ws' := [(h0, .inr (1, [.ref h2, .ref h3, .int (nI n), .int (nI z), .int (b2 ar)])), (h2, .inl (cI, N, .inl (fun i_ => nI (mem1 i_)))), (h3, .inl (cI, N, .inl (fun i_ => lvO (g i_))))]) [0, 1, 2] (by decide) rfl
        exact W.vret hx hb hr (fun t ht hW => ⟨⟨mem1, rfl, (by rw [show (2 : Nat) ^ n = k by omega]; exact hm1), by rw [ht]; exact hP, hD⟩, hS.F ht⟩) hS.2.2 dX1_putInOrder_62
      · have c_13 : k < (2 ^ n) := Nat.lt_of_not_le (fun h_ => c_13 ((nI_leI (a := (2 ^ n)) (b := k) (by omega) (by omega)).mpr h_))
        have hkl : k < 2 ^ n := by omega
        have ht_ := tur_lt n k n
        have hsv_ : sv = nI (tur n k n) := by rw [hsv, if_pos hkl]
        have hple := BLp_len (gB g) n k
        have hzl := BLp_len (gB g) n (2 ^ n)
        rw [hlen] at hzl
        refine lv_iload_n hx hb dX1_putInOrder_16 rfl (lv_at hl 1 rfl) ?_
        refine lv_iconst (v := -1) hx hb dX1_putInOrder_17 (by decide) ?_
        refine lv_icmp_eq (tgt := 62) hx hb dX1_putInOrder_18 (by decide) (fun c_18 => ?_) (fun c_18 => ?_)
        · exact absurd (hsv_.symm.trans c_18) (nI_ne1 (by omega))
        · refine lv_aload_n hx hb dX1_putInOrder_21 rfl (lv_at hl 3 rfl) ?_
          refine lv_iload_n hx hb dX1_putInOrder_22 rfl (lv_at hl 1 rfl) ?_
          refine lv_re (y := (nI (tur n k n))) hsv_ ?_
          refine rd_V (As := [.int (nI (tur n k n))]) (rest := []) ⟨hx, hb, hml, hown, hts⟩ (c_X1_isClosed l D h0 ([.ref h2, .ref h3, .int (nI n), .int (nI z), .int (b2 ar)]) h3 cI N g (tur n k n) rfl (by omega) hN2 hgb) (cwV 1 hts gX1_putInOrder_X1_isClosed rfl rfl rfl (by decide +kernel) ⟨Nat.le_of_ble_eq_true rfl, Nat.le_of_ble_eq_true rfl⟩) (hP.sub (ws' := [(h0, .inr (1, [.ref h2, .ref h3, .int (nI n), .int (nI z), .int (b2 ar)])), (h3, .inl (cI, N, .inl (fun i_ => lvO (g i_))))]) [0, 2] rfl) (hK.sub (tys' := [(cI, .int)]) [0] rfl) (va_recv hK hP (ci := 1) (q0 := 0) rfl rfl) rfl rfl hl.1 rfl (lv_room (Nat.le_of_ble_eq_true rfl)) dX1_putInOrder_23 ⟨Nat.le_of_ble_eq_true rfl, Nat.le_of_ble_eq_true rfl⟩ ?_
          refine lv_if_eq (tgt := 47) hx hb dX1_putInOrder_26 (by decide) (fun c_26 => ?_) (fun c_26 => ?_)
          · have c_26 := b2_0.mp c_26
            refine lv_iload_n hx hb dX1_putInOrder_47 rfl (lv_at hl 1 rfl) ?_
            refine lv_re (y := (nI (tur n k n))) hsv_ ?_
            refine lv_aload_n hx hb dX1_putInOrder_48 rfl (lv_at hl 3 rfl) ?_
            refine va_get (D := D) (ci := 1) (v := .int (nI n)) (C := RX1) (T := TX1) (N := 5) hx hb hts (by decide +kernel) hown hK hP 0 rfl rfl 2 (by decide) (hts (.fieldLink RX1 18 "ConceptTable$Family" "attributes" "I") (by decide +kernel)) (fun _ h9 => h9) rfl dX1_putInOrder_49 ?_
            refine rd_S (As := [.int (nI (tur n k n)), .int (nI n)]) (rest := []) ⟨hx, hb, hml, hown, hts⟩ (c_X5_rightBehind l D (tur n k n) n hn ht_) (va_cwS 2 hts gX1_putInOrder_X5_rightBehind rfl rfl rfl (by decide +kernel) ⟨Nat.le_of_ble_eq_true rfl, Nat.le_of_ble_eq_true rfl⟩) (hP.sub (ws' := []) [] rfl) (hK.sub (tys' := []) [] rfl) rfl rfl hl.1 rfl (lv_room (Nat.le_of_ble_eq_true rfl)) dX1_putInOrder_52 ⟨Nat.le_of_ble_eq_true rfl, Nat.le_of_ble_eq_true rfl⟩ ?_
            refine lv_istore_n (lv' := [(2, .int (rbF n (tur n k n))), (3, .int (nI k)), (1, .int (nI pl)), (0, .ref h0)]) hx hb dX1_putInOrder_55 rfl hl (by decide) rfl (fun ls hl => ?_)
            refine lv_iinc (v := (nI (k + 1))) (lv' := [(3, .int (nI (k + 1))), (2, .int (rbF n (tur n k n))), (1, .int (nI pl)), (0, .ref h0)]) hx hb dX1_putInOrder_56 hl (k := 1) rfl (nI_add _ 1) (by decide) rfl (fun ls hl => ?_)
            refine lv_goto (tgt := 6) hx hb dX1_putInOrder_59 (by decide) ?_
            exact ih_6 (k + 1) pl mem1 (rbF n (tur n k n)) (by omega) (by omega) (by rw [BLp, if_neg (by rw [c_26]; decide)]; exact hpl) (by rw [BLp, if_neg (by rw [c_26]; decide)]; exact hm1) (rb_next hkl) _ rfl _ rfl _ _ (hP.sub [0, 1, 2] rfl) (hD.sub [0, 1, 2] (by decide) rfl) hS _ (lv_sub hl [0, 1, 2, 3] rfl)
          · have c_26 := b2_n0.mp c_26
            refine lv_iload_n hx hb dX1_putInOrder_29 rfl (lv_at hl 2 rfl) ?_
            refine lv_aload_n hx hb dX1_putInOrder_30 rfl (lv_at hl 3 rfl) ?_
            refine va_get (D := D) (ci := 1) (v := .int (nI z)) (C := RX1) (T := TX1) (N := 5) hx hb hts (by decide +kernel) hown hK hP 0 rfl rfl 3 (by decide) (hts (.fieldLink RX1 22 "ConceptTable$Family" "size" "I") (by decide +kernel)) (fun _ h9 => h9) rfl dX1_putInOrder_31 ?_
            refine lv_icmp_ge (tgt := 47) hx hb dX1_putInOrder_34 (by decide) (fun c_34 => ?_) (fun c_34 => ?_)
            · have c_34 : z ≤ pl := (nI_leI (a := z) (b := pl) (by omega) (by omega)).mp c_34
              exact absurd c_34 (by have hq_ := BLp_more hkl c_26; omega)
            · have c_34 : pl < z := Nat.lt_of_not_le (fun h_ => c_34 ((nI_leI (a := z) (b := pl) (by omega) (by omega)).mpr h_))
              refine lv_aload_n hx hb dX1_putInOrder_37 rfl (lv_at hl 3 rfl) ?_
              refine va_get (D := D) (ci := 1) (v := .ref h2) (C := RX1) (T := TX1) (N := 5) hx hb hts (by decide +kernel) hown hK hP 0 rfl rfl 0 (by decide) (hts (.fieldLink RX1 9 "ConceptTable$Family" "members" "[I") (by decide +kernel)) (fun _ h9 => h9) rfl dX1_putInOrder_38 ?_
              refine lv_iload_n hx hb dX1_putInOrder_41 rfl (lv_at hl 2 rfl) ?_
              refine lv_iload_n hx hb dX1_putInOrder_42 rfl (lv_at hl 1 rfl) ?_
              refine lv_re (y := (nI (tur n k n))) hsv_ ?_
              refine va_iast hx hb hK hP hD hS 1 0 rfl rfl (vp_in_nI (by omega) (by omega)) dX1_putInOrder_43 (fun H locs hP hD hS => ?_)
              have e_up : (upd (fun i_ => nI (mem1 i_)) (nI pl).toNatClampNeg (nI (tur n k n))) = (fun i_ => nI ((va_up mem1 pl (tur n k n)) i_)) := by rw [show (nI pl).toNatClampNeg = pl from nI_clamp (by omega)]; exact up_nI mem1 pl (tur n k n)
              have hP : va_P D vwCl [(h0, .inr (1, [.ref h2, .ref h3, .int (nI n), .int (nI z), .int (b2 ar)])), (h2, .inl (cI, N, .inl (fun i_ => nI ((va_up mem1 pl (tur n k n)) i_)))), (h3, .inl (cI, N, .inl (fun i_ => lvO (g i_))))] H := by rw [← e_up]; exact hP
              have hD : va_D A [(h0, .inr (1, [.ref h2, .ref h3, .int (nI n), .int (nI z), .int (b2 ar)])), (h2, .inl (cI, N, .inl (fun i_ => nI ((va_up mem1 pl (tur n k n)) i_)))), (h3, .inl (cI, N, .inl (fun i_ => lvO (g i_))))] := by rw [← e_up]; exact hD
              clear e_up
              refine lv_iinc (v := (nI (pl + 1))) (lv' := [(1, .int (nI (pl + 1))), (3, .int (nI k)), (2, .int sv), (0, .ref h0)]) hx hb dX1_putInOrder_44 hl (k := 2) rfl (nI_add _ 1) (by decide) rfl (fun ls hl => ?_)
              refine lv_iload_n hx hb dX1_putInOrder_47 rfl (lv_at hl 2 rfl) ?_
              refine lv_re (y := (nI (tur n k n))) hsv_ ?_
              refine lv_aload_n hx hb dX1_putInOrder_48 rfl (lv_at hl 3 rfl) ?_
              refine va_get (D := D) (ci := 1) (v := .int (nI n)) (C := RX1) (T := TX1) (N := 5) hx hb hts (by decide +kernel) hown hK hP 0 rfl rfl 2 (by decide) (hts (.fieldLink RX1 18 "ConceptTable$Family" "attributes" "I") (by decide +kernel)) (fun _ h9 => h9) rfl dX1_putInOrder_49 ?_
              refine rd_S (As := [.int (nI (tur n k n)), .int (nI n)]) (rest := []) ⟨hx, hb, hml, hown, hts⟩ (c_X5_rightBehind l D (tur n k n) n hn ht_) (va_cwS 2 hts gX1_putInOrder_X5_rightBehind rfl rfl rfl (by decide +kernel) ⟨Nat.le_of_ble_eq_true rfl, Nat.le_of_ble_eq_true rfl⟩) (hP.sub (ws' := []) [] rfl) (hK.sub (tys' := []) [] rfl) rfl rfl hl.1 rfl (lv_room (Nat.le_of_ble_eq_true rfl)) dX1_putInOrder_52 ⟨Nat.le_of_ble_eq_true rfl, Nat.le_of_ble_eq_true rfl⟩ ?_
              refine lv_istore_n (lv' := [(2, .int (rbF n (tur n k n))), (1, .int (nI (pl + 1))), (3, .int (nI k)), (0, .ref h0)]) hx hb dX1_putInOrder_55 rfl hl (by decide) rfl (fun ls hl => ?_)
              refine lv_iinc (v := (nI (k + 1))) (lv' := [(3, .int (nI (k + 1))), (2, .int (rbF n (tur n k n))), (1, .int (nI (pl + 1))), (0, .ref h0)]) hx hb dX1_putInOrder_56 hl (k := 2) rfl (nI_add _ 1) (by decide) rfl (fun ls hl => ?_)
              refine lv_goto (tgt := 6) hx hb dX1_putInOrder_59 (by decide) ?_
              exact ih_6 (k + 1) (pl + 1) (va_up mem1 pl (tur n k n)) (rbF n (tur n k n)) (by omega) (by omega) (by rw [BLp, if_pos c_26, List.length_append, hpl]; rfl) (by rw [BLp, if_pos c_26, hpl]; exact lstAt_push hm1) (rb_next hkl) _ rfl _ rfl _ _ (hP.sub [0, 1, 2] rfl) (hD.sub [0, 1, 2] (by decide) rfl) hS _ (lv_sub hl [0, 1, 2, 3] rfl)
  exact lp_6 _ 0 0 mem (0 : Int32) (Nat.lt_succ_self _) (Nat.zero_le _) rfl (lstAt_0 _) (by rw [if_pos (show 0 < 2 ^ n from hp1), tur_0]; rfl) _ rfl _ rfl _ _ hP hD hS _ (lv_sub hl [0, 1, 2, 3] rfl)

set_option maxHeartbeats 4000000 in
set_option maxRecDepth 100000 in
theorem c_X1_arrange (l : Launch) (D : va_G) (sz : Nat) (h0 : Nat) (h2 : Nat) (h3 : Nat) (n : Nat) (z : Nat) (ar : Bool) (cI : ClassId) (N : Nat) (mem : Nat → Nat) (g : Nat → Option Nat) (ht : Nat) (ft : List Value) (hro : Nat) (o : Nat) (r : Nat → Nat) (lv : Nat → Nat) (t0 : ft[0]? = some (.ref hro)) (t2 : ft[2]? = some (.int (nI o))) (hn : n ≤ 12) (ho : o ≤ 20) (hN : 2 ^ n ≤ N) (hN2 : N ≤ 4096) (hfam : FamOK n g mem z) (hlb : ∀ x, lv x ≤ 4096) (har : ar = true → lstAt mem (BLp (gB g) n (2 ^ n)) ∧ ∀ q, q < 2 ^ n → gB g q = true → g q = some (lv q)) (hab : ∀ q k, q < 2 ^ n → gB g q = true → k < o → gB g (q &&& r k) = true) (hlr : ∀ q, q < 2 ^ n → gB g q = true → lv q = lfS r lv q o) (hlen : (BLp (gB g) n (2 ^ n)).length = z) : Met l yX1_arrange wsX1_arrange ({ frames := 4, cells := 0, slots := 0, locals := 86 }) (va_Pc [.ref h0, .ref ht] (fun U => U.heap.size = sz ∧ va_P D vwCl [(h0, .inr (1, [.ref h2, .ref h3, .int (nI n), .int (nI z), .int (b2 ar)])), (h2, .inl (cI, N, .inl (fun i_ => nI (mem i_)))), (h3, .inl (cI, N, .inl (fun i_ => lvO (g i_)))), (ht, .inr (5, ft)), (hro, .inl (cI, 20, .inl (fun i_ => nI (r i_))))] U.heap ∧ va_K D vwCl [(cI, .int)] U ∧ va_D (fun _ => True) [(h0, .inr (1, [.ref h2, .ref h3, .int (nI n), .int (nI z), .int (b2 ar)])), (h2, .inl (cI, N, .inl (fun i_ => nI (mem i_)))), (h3, .inl (cI, N, .inl (fun i_ => lvO (g i_)))), (ht, .inr (5, ft)), (hro, .inl (cI, 20, .inl (fun i_ => nI (r i_))))])) (mxQ (fun u_ : (Nat → Nat) × (Nat → Option Nat) => match u_ with | (mem', g') => none) (fun u_ : (Nat → Nat) × (Nat → Option Nat) => match u_ with | (mem', g') => (FamOK n g' mem' z) ∧ (∀ x, gB g' x = gB g x) ∧ (lstAt mem' (BLp (gB g) n (2 ^ n))) ∧ (∀ q, q < 2 ^ n → gB g' q = true → g' q = some (lv q))) (fun u_ : (Nat → Nat) × (Nat → Option Nat) => match u_ with | (mem', g') => [(h0, .inr (1, [.ref h2, .ref h3, .int (nI n), .int (nI z), .int (b2 true)])), (h2, .inl (cI, N, .inl (fun i_ => nI (mem' i_)))), (h3, .inl (cI, N, .inl (fun i_ => lvO (g' i_)))), (ht, .inr (5, ft)), (hro, .inl (cI, 20, .inl (fun i_ => nI (r i_))))]) D vwCl (va_A [(h0, .inr (1, [.ref h2, .ref h3, .int (nI n), .int (nI z), .int (b2 ar)])), (h2, .inl (cI, N, .inl (fun i_ => nI (mem i_)))), (h3, .inl (cI, N, .inl (fun i_ => lvO (g i_)))), (ht, .inr (5, ft)), (hro, .inl (cI, 20, .inl (fun i_ => nI (r i_))))] sz)) 0 0 (va_A [(h0, .inr (1, [.ref h2, .ref h3, .int (nI n), .int (nI z), .int (b2 ar)])), (h2, .inl (cI, N, .inl (fun i_ => nI (mem i_)))), (h3, .inl (cI, N, .inl (fun i_ => lvO (g i_)))), (ht, .inr (5, ft)), (hro, .inl (cI, 20, .inl (fun i_ => nI (r i_))))] sz) := by
  refine Met.ofW (cc := cX1_arrange) (maxL := 3) (ret := none) (by decide) rfl ?_
  intro p e s m args below meth c s₁ B hml hv
  obtain ⟨rfl, hsz, hP, hK, hD0⟩ := hv
  have hx := B.exec
  have hb := B.bytes
  have hr := B.returns
  have hts := atoms_spec (ws := wsX1_arrange) B.pre
  have hown : s.vm.findClass RX1 = some m.cls := findClass_of_methodNamed B.named
  have hlocks := B.notSynchronized
  subst hsz
  have hD := hD0.self (sz := s.heap.size)
  generalize hAe : va_A [(h0, .inr (1, [.ref h2, .ref h3, .int (nI n), .int (nI z), .int (b2 ar)])), (h2, .inl (cI, N, .inl (fun i_ => nI (mem i_)))), (h3, .inl (cI, N, .inl (fun i_ => lvO (g i_)))), (ht, .inr (5, ft)), (hro, .inl (cI, 20, .inl (fun i_ => nI (r i_))))] s.heap.size = A at hD ⊢
  have hA : ∀ q : Nat, s.heap.size ≤ q → A q := fun q h => by rw [← hAe]; exact Or.inr h
  have hS : va_S A s.heap s.heap [] := va_S.rf
  have hl := lv_entry ([.ref h0, .ref ht]) (n := 3) (Nat.le_of_ble_eq_true rfl)
  rw [lg_entry_eq]
  generalize (lg_sl ([.ref h0, .ref ht]) ++ List.replicate (3 - (lg_sl ([.ref h0, .ref ht])).length) Slot.unset).toArray = ls at hl ⊢
  have hl : lv_has ls 3 [(0, .ref h0), (1, .ref ht)] := hl
  have h2n := p2_le hn
  have hzl := cnt_le (gB g) (2 ^ n)
  rw [← hfam.1] at hzl
  refine lv_aload_n hx hb dX1_arrange_0 rfl (lv_at hl 0 rfl) ?_
  refine va_get (D := D) (ci := 1) (v := .int (b2 ar)) (C := RX1) (T := TX1) (N := 5) hx hb hts (by decide +kernel) hown hK hP 0 rfl rfl 4 (by decide) (hts (.fieldLink RX1 43 "ConceptTable$Family" "arranged" "Z") (by decide +kernel)) (fun _ h9 => h9) rfl dX1_arrange_1 ?_
  refine lv_if_eq (tgt := 8) hx hb dX1_arrange_4 (by decide) (fun c_4 => ?_) (fun c_4 => ?_)
  · have c_4 := b2_0.mp c_4
    refine lv_aload_n hx hb dX1_arrange_8 rfl (lv_at hl 0 rfl) ?_
    have hPc := hP.sub (ws' := [(h0, .inr (1, [.ref h2, .ref h3, .int (nI n), .int (nI z), .int (b2 ar)])), (h2, .inl (cI, N, .inl (fun i_ => nI (mem i_)))), (h3, .inl (cI, N, .inl (fun i_ => lvO (g i_))))]) [0, 1, 2] rfl
    have hDc := hD.sub (ws' := [(h0, .inr (1, [.ref h2, .ref h3, .int (nI n), .int (nI z), .int (b2 ar)])), (h2, .inl (cI, N, .inl (fun i_ => nI (mem i_)))), (h3, .inl (cI, N, .inl (fun i_ => lvO (g i_))))]) [0, 1, 2] (by decide) rfl
    have hKc := hK.sub (tys' := [(cI, .int)]) [0] rfl
    have hFc := va_free (wc := [(h0, .inr (1, [.ref h2, .ref h3, .int (nI n), .int (nI z), .int (b2 ar)])), (h2, .inl (cI, N, .inl (fun i_ => nI (mem i_)))), (h3, .inl (cI, N, .inl (fun i_ => lvO (g i_))))]) hD hS hA [0, 1, 2] rfl
    refine mx_call (va_runV (As := []) (rest := []) ⟨hx, hb, hml, hown, hts⟩ (c_X1_putInOrder l D s.heap.size h0 h2 h3 n z ar cI N mem g hn hN hN2 hfam.2.2.2 hlen) (cwV 0 hts gX1_arrange_X1_putInOrder rfl rfl rfl (by decide +kernel) ⟨Nat.le_of_ble_eq_true rfl, Nat.le_of_ble_eq_true rfl⟩) ⟨mu_bl, va_recv hKc hPc (ci := 1) (q0 := 0) rfl rfl, fun U hU hW => ⟨rfl, by rw [hU], by rw [hU]; exact hPc, va_K.moved hW.alike hKc, hDc.weaken (fun _ _ _ _ => trivial)⟩⟩ rfl rfl hl.1 rfl (lv_room (Nat.le_of_ble_eq_true rfl)) dX1_arrange_9 ⟨Nat.le_of_ble_eq_true rfl, Nat.le_of_ble_eq_true rfl⟩) hS (fun q _ h => hFc q h) hFc (fun u_ H1 locs hq_ hP1 hD1 hk1 hS => ?_)
    obtain ⟨mem1, rfl⟩ : ∃ z_, z_ = u_ := ⟨_, rfl⟩
    have hP1 : va_P D vwCl [(h0, .inr (1, [.ref h2, .ref h3, .int (nI n), .int (nI z), .int (b2 ar)])), (h2, .inl (cI, N, .inl (fun i_ => nI (mem1 i_)))), (h3, .inl (cI, N, .inl (fun i_ => lvO (g i_))))] H1 := hP1
    have hD1 : va_D (va_A [(h0, .inr (1, [.ref h2, .ref h3, .int (nI n), .int (nI z), .int (b2 ar)])), (h2, .inl (cI, N, .inl (fun i_ => nI (mem i_)))), (h3, .inl (cI, N, .inl (fun i_ => lvO (g i_))))] s.heap.size) [(h0, .inr (1, [.ref h2, .ref h3, .int (nI n), .int (nI z), .int (b2 ar)])), (h2, .inl (cI, N, .inl (fun i_ => nI (mem1 i_)))), (h3, .inl (cI, N, .inl (fun i_ => lvO (g i_))))] := hD1
    have hL := hq_
    have hL : lstAt mem1 (BLp (gB g) n (2 ^ n)) := hL
    obtain ⟨hP, hD⟩ := va_join (wr := [(ht, .inr (5, ft)), (hro, .inl (cI, 20, .inl (fun i_ => nI (r i_))))]) (w1 := [(h0, .inr (1, [.ref h2, .ref h3, .int (nI n), .int (nI z), .int (b2 ar)])), (h2, .inl (cI, N, .inl (fun i_ => nI (mem1 i_)))), (h3, .inl (cI, N, .inl (fun i_ => lvO (g i_))))]) hP hD [0, 1, 2] [3, 4] rfl rfl (by decide) (by decide) hk1 hFc hP1 hD1
    generalize H1 = H at hP hS ⊢
    have hP : va_P D vwCl [(ht, .inr (5, ft)), (hro, .inl (cI, 20, .inl (fun i_ => nI (r i_)))), (h0, .inr (1, [.ref h2, .ref h3, .int (nI n), .int (nI z), .int (b2 ar)])), (h2, .inl (cI, N, .inl (fun i_ => nI (mem1 i_)))), (h3, .inl (cI, N, .inl (fun i_ => lvO (g i_))))] H := hP
    have hD : va_D A [(ht, .inr (5, ft)), (hro, .inl (cI, 20, .inl (fun i_ => nI (r i_)))), (h0, .inr (1, [.ref h2, .ref h3, .int (nI n), .int (nI z), .int (b2 ar)])), (h2, .inl (cI, N, .inl (fun i_ => nI (mem1 i_)))), (h3, .inl (cI, N, .inl (fun i_ => lvO (g i_))))] := hD
    have hmm : ∀ i, i < z → mem1 i < 2 ^ n ∧ gB g (mem1 i) = true := fun i hi => BL_mem.mp (lstAt_mem hL (by rw [hlen]; exact hi))
    refine lv_iconst (v := 0) hx hb dX1_arrange_12 (by decide) ?_
    refine lv_istore_n (lv' := [(2, .int (0 : Int32)), (0, .ref h0), (1, .ref ht)]) hx hb dX1_arrange_13 rfl hl (by decide) rfl (fun ls hl => ?_)
    have lp_14 : ∀ (n_ : Nat) (i : Nat) (g1 : Nat → Option Nat), z - i < n_ → (i ≤ z) → (∀ j, j < i → g1 (mem1 j) = some (lv (mem1 j))) → (∀ x, gB g1 x = gB g x) → (∀ j v, g1 j = some v → v ≤ 4096) → ∀ (x2 : Int32), x2 = nI i → ∀ (H : Heap) (locs : List Loc), va_P D vwCl [(ht, .inr (5, ft)), (hro, .inl (cI, 20, .inl (fun i_ => nI (r i_)))), (h0, .inr (1, [.ref h2, .ref h3, .int (nI n), .int (nI z), .int (b2 ar)])), (h2, .inl (cI, N, .inl (fun i_ => nI (mem1 i_)))), (h3, .inl (cI, N, .inl (fun i_ => lvO (g1 i_))))] H → va_D A [(ht, .inr (5, ft)), (hro, .inl (cI, 20, .inl (fun i_ => nI (r i_)))), (h0, .inr (1, [.ref h2, .ref h3, .int (nI n), .int (nI z), .int (b2 ar)])), (h2, .inl (cI, N, .inl (fun i_ => nI (mem1 i_)))), (h3, .inl (cI, N, .inl (fun i_ => lvO (g1 i_))))] → va_S A s.heap H locs → ∀ (ls : Array Slot), lv_has ls 3 [(2, .int x2), (0, .ref h0), (1, .ref ht)] → W p l e (headSpec wsX1_arrange ({ frames := 4, cells := 0, slots := 0, locals := 86 })).room s m ([.ref h0, .ref ht] : List Value).toArray below meth c H locs 0 0 (MQ below (mxQ (fun u_ : (Nat → Nat) × (Nat → Option Nat) => match u_ with | (mem', g') => none) (fun u_ : (Nat → Nat) × (Nat → Option Nat) => match u_ with | (mem', g') => (FamOK n g' mem' z) ∧ (∀ x, gB g' x = gB g x) ∧ (lstAt mem' (BLp (gB g) n (2 ^ n))) ∧ (∀ q, q < 2 ^ n → gB g' q = true → g' q = some (lv q))) (fun u_ : (Nat → Nat) × (Nat → Option Nat) => match u_ with | (mem', g') => [(h0, .inr (1, [.ref h2, .ref h3, .int (nI n), .int (nI z), .int (b2 true)])), (h2, .inl (cI, N, .inl (fun i_ => nI (mem' i_)))), (h3, .inl (cI, N, .inl (fun i_ => lvO (g' i_)))), (ht, .inr (5, ft)), (hro, .inl (cI, 20, .inl (fun i_ => nI (r i_))))]) D vwCl A) ([.ref h0, .ref ht] : List Value).toArray s 0 0 A) (F0 m 14 ls []) := by
      intro n_
      induction n_ with
      | zero => intro i g1 h0_; exact absurd h0_ (Nat.not_lt_zero _)
      | succ n_ ih_14 =>
        intro i g1 hm_14 hi hg1 hgB hgb1 x2 e_x2 H locs hP hD hS ls hl
        subst e_x2
        refine lv_iload_n hx hb dX1_arrange_14 rfl (lv_at hl 0 rfl) ?_
        refine lv_aload_n hx hb dX1_arrange_15 rfl (lv_at hl 1 rfl) ?_
        refine va_get (D := D) (ci := 1) (v := .int (nI z)) (C := RX1) (T := TX1) (N := 5) hx hb hts (by decide +kernel) hown hK hP 2 rfl rfl 3 (by decide) (hts (.fieldLink RX1 22 "ConceptTable$Family" "size" "I") (by decide +kernel)) (fun _ h9 => h9) rfl dX1_arrange_16 ?_
        refine lv_icmp_ge (tgt := 49) hx hb dX1_arrange_19 (by decide) (fun c_19 => ?_) (fun c_19 => ?_)
        · have c_19 : z ≤ i := (nI_leI (a := z) (b := i) (by omega) (by omega)).mp c_19
          refine lv_aload_n hx hb dX1_arrange_49 rfl (lv_at hl 1 rfl) ?_
          refine lv_iconst (v := 1) hx hb dX1_arrange_50 (by decide) ?_
          refine va_put (D := D) (ci := 1) (v := .int (1 : Int32)) (ty := .boolean) (C := RX1) (T := TX1) (N := 5) hx hb hts (by decide +kernel) tyX1 tyX1_ok nmX1 hown hK hP hD hS 2 rfl rfl 4 (by decide) (hts (.fieldLink RX1 43 "ConceptTable$Family" "arranged" "Z") (by decide +kernel)) (fun _ h9 => h9) rfl (by decide +kernel) rfl rfl (Nat.le_of_ble_eq_true rfl) dX1_arrange_51 (fun H locs hP hD hS => ?_)
          have hP : va_P D vwCl [(ht, .inr (5, ft)), (hro, .inl (cI, 20, .inl (fun i_ => nI (r i_)))), (h0, .inr (1, [.ref h2, .ref h3, .int (nI n), .int (nI z), .int (1 : Int32)])), (h2, .inl (cI, N, .inl (fun i_ => nI (mem1 i_)))), (h3, .inl (cI, N, .inl (fun i_ => lvO (g1 i_))))] H := hP
          have hD : va_D A [(ht, .inr (5, ft)), (hro, .inl (cI, 20, .inl (fun i_ => nI (r i_)))), (h0, .inr (1, [.ref h2, .ref h3, .int (nI n), .int (nI z), .int (1 : Int32)])), (h2, .inl (cI, N, .inl (fun i_ => nI (mem1 i_)))), (h3, .inl (cI, N, .inl (fun i_ => lvO (g1 i_))))] := hD
          have hP := hP.sub (ws' := [(h0, .inr (1, [.ref h2, .ref h3, .int (nI n), .int (nI z), .int (1 : Int32)])), (h2, .inl (cI, N, .inl (fun i_ => nI (mem1 i_)))), (h3, .inl (cI, N, .inl (fun i_ => lvO (g1 i_)))), (ht, .inr (5, ft)), (hro, .inl (cI, 20, .inl (fun i_ => nI (r i_))))]) [2, 3, 4, 0, 1] rfl
          have hD := hD.sub (ws' := [(h0, .inr (1, [.ref h2, .ref h3, .int (nI n), .int (nI z), .int (1 : Int32)])), (h2, .inl (cI, N, .inl (fun i_ => nI (mem1 i_)))), (h3, .inl (cI, N, .inl (fun i_ => lvO (g1 i_)))), (ht, .inr (5, ft)), (hro, .inl (cI, 20, .inl (fun i_ => nI (r i_))))]) [2, 3, 4, 0, 1] (by decide) rfl
          exact W.vret hx hb hr (fun t ht hW => ⟨⟨(mem1, g1), rfl, ⟨(ar_fam hfam hgB hmm hL hlen hgb1), hgB, hL, (ar_val hL hlen hgB (show i = z by omega) hg1)⟩, by rw [ht]; exact hP, hD⟩, hS.F ht⟩) hS.2.2 dX1_arrange_54
        · have c_19 : i < z := Nat.lt_of_not_le (fun h_ => c_19 ((nI_leI (a := z) (b := i) (by omega) (by omega)).mpr h_))
          refine lv_aload_n hx hb dX1_arrange_22 rfl (lv_at hl 1 rfl) ?_
          refine lv_aload_n hx hb dX1_arrange_23 rfl (lv_at hl 1 rfl) ?_
          refine va_get (D := D) (ci := 1) (v := .ref h2) (C := RX1) (T := TX1) (N := 5) hx hb hts (by decide +kernel) hown hK hP 2 rfl rfl 0 (by decide) (hts (.fieldLink RX1 9 "ConceptTable$Family" "members" "[I") (by decide +kernel)) (fun _ h9 => h9) rfl dX1_arrange_24 ?_
          refine lv_iload_n hx hb dX1_arrange_27 rfl (lv_at hl 0 rfl) ?_
          refine va_iald hx hb hK hP 3 0 rfl rfl (vp_in_nI (by omega) (by omega)) dX1_arrange_28 ?_
          refine lv_re (y := (nI (mem1 i))) (by rw [nI_clamp (by omega)]) ?_
          refine lv_aload_n hx hb dX1_arrange_29 rfl (lv_at hl 1 rfl) ?_
          refine lv_aload_n hx hb dX1_arrange_30 rfl (lv_at hl 1 rfl) ?_
          refine va_get (D := D) (ci := 1) (v := .ref h2) (C := RX1) (T := TX1) (N := 5) hx hb hts (by decide +kernel) hown hK hP 2 rfl rfl 0 (by decide) (hts (.fieldLink RX1 9 "ConceptTable$Family" "members" "[I") (by decide +kernel)) (fun _ h9 => h9) rfl dX1_arrange_31 ?_
          refine lv_iload_n hx hb dX1_arrange_34 rfl (lv_at hl 0 rfl) ?_
          refine va_iald hx hb hK hP 3 0 rfl rfl (vp_in_nI (by omega) (by omega)) dX1_arrange_35 ?_
          refine lv_re (y := (nI (mem1 i))) (by rw [nI_clamp (by omega)]) ?_
          refine lv_aload_n hx hb dX1_arrange_36 rfl (lv_at hl 2 rfl) ?_
          refine rd_V (As := [.int (nI (mem1 i)), .ref ht]) (rest := [.int (nI (mem1 i)), .ref h0]) ⟨hx, hb, hml, hown, hts⟩ (c_X1_levelFromAbove l D h0 ([.ref h2, .ref h3, .int (nI n), .int (nI z), .int (b2 ar)]) h3 cI N g1 ht ft hro o r (mem1 i) lv rfl t0 t2 ho (by have := (hmm i (by omega)).1; omega) hN2 hlb (ar_above hmm hL hlen hg1 hgB hab (by omega))) (cwV 2 hts gX1_arrange_X1_levelFromAbove rfl rfl rfl (by decide +kernel) ⟨Nat.le_of_ble_eq_true rfl, Nat.le_of_ble_eq_true rfl⟩) (hP.sub (ws' := [(h0, .inr (1, [.ref h2, .ref h3, .int (nI n), .int (nI z), .int (b2 ar)])), (h3, .inl (cI, N, .inl (fun i_ => lvO (g1 i_)))), (ht, .inr (5, ft)), (hro, .inl (cI, 20, .inl (fun i_ => nI (r i_))))]) [2, 4, 0, 1] rfl) (hK.sub (tys' := [(cI, .int)]) [0] rfl) (va_recv hK hP (ci := 1) (q0 := 2) rfl rfl) rfl rfl hl.1 rfl (lv_room (Nat.le_of_ble_eq_true rfl)) dX1_arrange_37 ⟨Nat.le_of_ble_eq_true rfl, Nat.le_of_ble_eq_true rfl⟩ ?_
          have hPc := hP.sub (ws' := [(h0, .inr (1, [.ref h2, .ref h3, .int (nI n), .int (nI z), .int (b2 ar)])), (h3, .inl (cI, N, .inl (fun i_ => lvO (g1 i_))))]) [2, 4] rfl
          have hDc := hD.sub (ws' := [(h0, .inr (1, [.ref h2, .ref h3, .int (nI n), .int (nI z), .int (b2 ar)])), (h3, .inl (cI, N, .inl (fun i_ => lvO (g1 i_))))]) [2, 4] (by decide) rfl
          have hKc := hK.sub (tys' := [(cI, .int)]) [0] rfl
          have hFc := va_free (wc := [(h0, .inr (1, [.ref h2, .ref h3, .int (nI n), .int (nI z), .int (b2 ar)])), (h3, .inl (cI, N, .inl (fun i_ => lvO (g1 i_))))]) hD hS hA [2, 4] rfl
          refine mu_call (va_runV (As := [.int (nI (mem1 i)), .int (nI (lfS r lv (mem1 i) o))]) (rest := []) ⟨hx, hb, hml, hown, hts⟩ (c_X1_setLevel l D H.size h0 ([.ref h2, .ref h3, .int (nI n), .int (nI z), .int (b2 ar)]) h3 cI N g1 (mem1 i) (lfS r lv (mem1 i) o) rfl (by have := (hmm i (by omega)).1; omega) hN2) (cwV 2 hts gX1_arrange_X1_setLevel rfl rfl rfl (by decide +kernel) ⟨Nat.le_of_ble_eq_true rfl, Nat.le_of_ble_eq_true rfl⟩) ⟨mu_bl, va_recv hKc hPc (ci := 1) (q0 := 0) rfl rfl, fun U hU hW => ⟨rfl, by rw [hU], by rw [hU]; exact hPc, va_K.moved hW.alike hKc, hDc.weaken (fun _ _ _ _ => trivial)⟩⟩ rfl rfl hl.1 rfl (lv_room (Nat.le_of_ble_eq_true rfl)) dX1_arrange_40 ⟨Nat.le_of_ble_eq_true rfl, Nat.le_of_ble_eq_true rfl⟩) hS (fun q _ h => hFc q h) hFc (fun H1 locs hP1 hD1 hk1 hS => ?_)
          obtain ⟨hP, hD⟩ := va_join (wr := [(ht, .inr (5, ft)), (hro, .inl (cI, 20, .inl (fun i_ => nI (r i_)))), (h2, .inl (cI, N, .inl (fun i_ => nI (mem1 i_))))]) (w1 := [(h0, .inr (1, [.ref h2, .ref h3, .int (nI n), .int (nI z), .int (b2 ar)])), (h3, .inl (cI, N, .inl (fun i_ => lvO ((va_up g1 (mem1 i) (some (lfS r lv (mem1 i) o))) i_))))]) hP hD [2, 4] [0, 1, 3] rfl rfl (by decide) (by decide) hk1 hFc hP1 hD1
          generalize H1 = H at hP hS ⊢
          have hP : va_P D vwCl [(ht, .inr (5, ft)), (hro, .inl (cI, 20, .inl (fun i_ => nI (r i_)))), (h2, .inl (cI, N, .inl (fun i_ => nI (mem1 i_)))), (h0, .inr (1, [.ref h2, .ref h3, .int (nI n), .int (nI z), .int (b2 ar)])), (h3, .inl (cI, N, .inl (fun i_ => lvO ((va_up g1 (mem1 i) (some (lfS r lv (mem1 i) o))) i_))))] H := hP
          have hD : va_D A [(ht, .inr (5, ft)), (hro, .inl (cI, 20, .inl (fun i_ => nI (r i_)))), (h2, .inl (cI, N, .inl (fun i_ => nI (mem1 i_)))), (h0, .inr (1, [.ref h2, .ref h3, .int (nI n), .int (nI z), .int (b2 ar)])), (h3, .inl (cI, N, .inl (fun i_ => lvO ((va_up g1 (mem1 i) (some (lfS r lv (mem1 i) o))) i_))))] := hD
          refine lv_iinc (v := (nI (i + 1))) (lv' := [(2, .int (nI (i + 1))), (0, .ref h0), (1, .ref ht)]) hx hb dX1_arrange_43 hl (k := 0) rfl (nI_add _ 1) (by decide) rfl (fun ls hl => ?_)
          refine lv_goto (tgt := 14) hx hb dX1_arrange_46 (by decide) ?_
          have hmi := hmm i (by omega)
          have hlq := hlr _ hmi.1 hmi.2
          exact ih_14 (i + 1) (va_up g1 (mem1 i) (some (lfS r lv (mem1 i) o))) (by omega) (by omega) (fun j hj => if h_ : mem1 j = mem1 i then by rw [h_, va_up_self, ← hlq] else by rw [va_up_ne _ _ h_]; exact hg1 j (by have : ¬ j = i := fun z_ => h_ (by rw [z_]); omega)) (fun x => by rw [gB_up (by rw [hgB]; exact hmi.2)]; exact hgB x) (fun j v hv => by unfold va_up at hv; split at hv; (cases hv; rw [← hlq]; exact hlb _); exact hgb1 j v hv) _ rfl _ _ (hP.sub [0, 1, 3, 2, 4] rfl) (hD.sub [0, 1, 3, 2, 4] (by decide) rfl) hS _ (lv_sub hl [0, 1, 2] rfl)
    exact lp_14 _ 0 g (Nat.lt_succ_self _) (Nat.zero_le _) (fun j h => absurd h (Nat.not_lt_zero _)) (fun _ => rfl) hfam.2.2.2 _ rfl _ _ hP hD hS _ (lv_sub hl [0, 1, 2] rfl)
  · have c_4 := b2_n0.mp c_4
    have hP := hP.sub (ws' := [(h0, .inr (1, [.ref h2, .ref h3, .int (nI n), .int (nI z), .int (b2 ar)])), (h2, .inl (cI, N, .inl (fun i_ => nI (mem i_)))), (h3, .inl (cI, N, .inl (fun i_ => lvO (g i_)))), (ht, .inr (5, ft)), (hro, .inl (cI, 20, .inl (fun i_ => nI (r i_))))]) [0, 1, 2, 3, 4] rfl
    have hD := hD.sub (ws' := [(h0, .inr (1, [.ref h2, .ref h3, .int (nI n), .int (nI z), .int (b2 ar)])), (h2, .inl (cI, N, .inl (fun i_ => nI (mem i_)))), (h3, .inl (cI, N, .inl (fun i_ => lvO (g i_)))), (ht, .inr (5, ft)), (hro, .inl (cI, 20, .inl (fun i_ => nI (r i_))))]) [0, 1, 2, 3, 4] (by decide) rfl
    rw [c_4] at hP hD
    exact W.vret hx hb hr (fun t ht hW => ⟨⟨(mem, g), rfl, ⟨hfam, (fun _ => rfl), (har c_4).1, (har c_4).2⟩, by rw [ht]; exact hP, hD⟩, hS.F ht⟩) hS.2.2 dX1_arrange_7
