set_option maxHeartbeats 4000000 in
set_option maxRecDepth 100000 in
theorem c_J6_bitCount_0f7a4 (l : Launch) (D : va_G) (q : Nat) (hq : q < 2 ^ 20) : Met l yJ6_bitCount_0f7a4 wsJ6_bitCount_0f7a4 ({ frames := 0, cells := 0, slots := 0, locals := 0 }) (va_Pc [.int (nI q)] (fun U => va_P D vwCl [] U.heap ∧ va_K D vwCl [] U)) (QcRead (nI (bits q 20))) 0 0 (fun _ => False) := by
  refine Met.ofW (cc := cJ6_bitCount_0f7a4) (maxL := 1) (ret := (some .int)) (by decide) rfl ?_
  intro p e s m args below meth c s₁ B hml hv
  obtain ⟨rfl, hP, hK⟩ := hv
  have hx := B.exec
  have hb := B.bytes
  have hr := B.returns
  have hts := atoms_spec (ws := wsJ6_bitCount_0f7a4) B.pre
  have hown : s.vm.findClass RJ6 = some m.cls := findClass_of_methodNamed B.named
  have hlocks := B.notSynchronized
  have hl := lv_entry ([.int (nI q)]) (n := 1) (Nat.le_of_ble_eq_true rfl)
  rw [lg_entry_eq]
  generalize (lg_sl ([.int (nI q)]) ++ List.replicate (1 - (lg_sl ([.int (nI q)])).length) Slot.unset).toArray = ls at hl ⊢
  have hl : lv_has ls 1 [(0, .int (nI q))] := hl
  obtain ⟨hb1, hb2, hb3, hb4⟩ := pc_bound hq
  have hq2 : q < 2 ^ 31 := by omega
  refine lv_iload_n hx hb dJ6_bitCount_0f7a4_0 rfl (lv_at hl 0 rfl) ?_
  refine lv_iload_n hx hb dJ6_bitCount_0f7a4_1 rfl (lv_at hl 0 rfl) ?_
  refine lv_iconst (v := 1) hx hb dJ6_bitCount_0f7a4_2 (by decide) ?_
  refine lv_iushr (v := (nI (q / 2 ^ 1))) hx hb dJ6_bitCount_0f7a4_3 (pk_ushrN (n := q) (by omega) _ 1 (by decide)) ?_
  refine lv_ldcw (v := 1431655765) hx hb hown (hts (.constant RJ6 265 1431655765) (by decide +kernel)) dJ6_bitCount_0f7a4_4 ?_
  refine lv_iand hx hb dJ6_bitCount_0f7a4_7 ?_
  refine lv_re (y := (nI ((q / 2 ^ 1) &&& 1431655765))) (nx_and (q / 2 ^ 1) 1431655765) ?_
  refine lv_isub hx hb dJ6_bitCount_0f7a4_8 ?_
  refine lv_re (y := (nI (q - ((q / 2 ^ 1) &&& 1431655765)))) (pk_sub (a := q) (b := ((q / 2 ^ 1) &&& 1431655765)) (Nat.le_trans Nat.and_le_left (Nat.div_le_self _ _))) ?_
  refine lv_re (y := (nI (pc1 q))) rfl ?_
  refine lv_istore_n (lv' := [(0, .int (nI (pc1 q)))]) hx hb dJ6_bitCount_0f7a4_9 rfl hl (by decide) rfl (fun ls hl => ?_)
  refine lv_iload_n hx hb dJ6_bitCount_0f7a4_10 rfl (lv_at hl 0 rfl) ?_
  refine lv_ldcw (v := 858993459) hx hb hown (hts (.constant RJ6 266 858993459) (by decide +kernel)) dJ6_bitCount_0f7a4_11 ?_
  refine lv_iand hx hb dJ6_bitCount_0f7a4_14 ?_
  refine lv_re (y := (nI ((pc1 q) &&& 858993459))) (nx_and (pc1 q) 858993459) ?_
  refine lv_iload_n hx hb dJ6_bitCount_0f7a4_15 rfl (lv_at hl 0 rfl) ?_
  refine lv_iconst (v := 2) hx hb dJ6_bitCount_0f7a4_16 (by decide) ?_
  refine lv_iushr (v := (nI ((pc1 q) / 2 ^ 2))) hx hb dJ6_bitCount_0f7a4_17 (pk_ushrN (n := (pc1 q)) (by omega) _ 2 (by decide)) ?_
  refine lv_ldcw (v := 858993459) hx hb hown (hts (.constant RJ6 266 858993459) (by decide +kernel)) dJ6_bitCount_0f7a4_18 ?_
  refine lv_iand hx hb dJ6_bitCount_0f7a4_21 ?_
  refine lv_re (y := (nI (((pc1 q) / 2 ^ 2) &&& 858993459))) (nx_and ((pc1 q) / 2 ^ 2) 858993459) ?_
  refine lv_iadd hx hb dJ6_bitCount_0f7a4_22 ?_
  refine lv_re (y := (nI (((pc1 q) &&& 858993459) + (((pc1 q) / 2 ^ 2) &&& 858993459)))) (nI_add ((pc1 q) &&& 858993459) (((pc1 q) / 2 ^ 2) &&& 858993459)) ?_
  refine lv_re (y := (nI (pc2 (pc1 q)))) rfl ?_
  refine lv_istore_n (lv' := [(0, .int (nI (pc2 (pc1 q))))]) hx hb dJ6_bitCount_0f7a4_23 rfl hl (by decide) rfl (fun ls hl => ?_)
  refine lv_iload_n hx hb dJ6_bitCount_0f7a4_24 rfl (lv_at hl 0 rfl) ?_
  refine lv_iload_n hx hb dJ6_bitCount_0f7a4_25 rfl (lv_at hl 0 rfl) ?_
  refine lv_iconst (v := 4) hx hb dJ6_bitCount_0f7a4_26 (by decide) ?_
  refine lv_iushr (v := (nI ((pc2 (pc1 q)) / 2 ^ 4))) hx hb dJ6_bitCount_0f7a4_27 (pk_ushrN (n := (pc2 (pc1 q))) (by omega) _ 4 (by decide)) ?_
  refine lv_iadd hx hb dJ6_bitCount_0f7a4_28 ?_
  refine lv_re (y := (nI ((pc2 (pc1 q)) + ((pc2 (pc1 q)) / 2 ^ 4)))) (nI_add (pc2 (pc1 q)) ((pc2 (pc1 q)) / 2 ^ 4)) ?_
  refine lv_ldcw (v := 252645135) hx hb hown (hts (.constant RJ6 267 252645135) (by decide +kernel)) dJ6_bitCount_0f7a4_29 ?_
  refine lv_iand hx hb dJ6_bitCount_0f7a4_32 ?_
  refine lv_re (y := (nI (((pc2 (pc1 q)) + ((pc2 (pc1 q)) / 2 ^ 4)) &&& 252645135))) (nx_and ((pc2 (pc1 q)) + ((pc2 (pc1 q)) / 2 ^ 4)) 252645135) ?_
  refine lv_re (y := (nI (pc3 (pc2 (pc1 q))))) rfl ?_
  refine lv_istore_n (lv' := [(0, .int (nI (pc3 (pc2 (pc1 q)))))]) hx hb dJ6_bitCount_0f7a4_33 rfl hl (by decide) rfl (fun ls hl => ?_)
  refine lv_iload_n hx hb dJ6_bitCount_0f7a4_34 rfl (lv_at hl 0 rfl) ?_
  refine lv_iload_n hx hb dJ6_bitCount_0f7a4_35 rfl (lv_at hl 0 rfl) ?_
  refine lv_bipush (v := 8) hx hb dJ6_bitCount_0f7a4_36 (by decide) ?_
  refine lv_iushr (v := (nI ((pc3 (pc2 (pc1 q))) / 2 ^ 8))) hx hb dJ6_bitCount_0f7a4_38 (pk_ushrN (n := (pc3 (pc2 (pc1 q)))) (by omega) _ 8 (by decide)) ?_
  refine lv_iadd hx hb dJ6_bitCount_0f7a4_39 ?_
  refine lv_re (y := (nI ((pc3 (pc2 (pc1 q))) + ((pc3 (pc2 (pc1 q))) / 2 ^ 8)))) (nI_add (pc3 (pc2 (pc1 q))) ((pc3 (pc2 (pc1 q))) / 2 ^ 8)) ?_
  refine lv_re (y := (nI (pc4 (pc3 (pc2 (pc1 q)))))) rfl ?_
  refine lv_istore_n (lv' := [(0, .int (nI (pc4 (pc3 (pc2 (pc1 q))))))]) hx hb dJ6_bitCount_0f7a4_40 rfl hl (by decide) rfl (fun ls hl => ?_)
  refine lv_iload_n hx hb dJ6_bitCount_0f7a4_41 rfl (lv_at hl 0 rfl) ?_
  refine lv_iload_n hx hb dJ6_bitCount_0f7a4_42 rfl (lv_at hl 0 rfl) ?_
  refine lv_bipush (v := 16) hx hb dJ6_bitCount_0f7a4_43 (by decide) ?_
  refine lv_iushr (v := (nI ((pc4 (pc3 (pc2 (pc1 q)))) / 2 ^ 16))) hx hb dJ6_bitCount_0f7a4_45 (pk_ushrN (n := (pc4 (pc3 (pc2 (pc1 q))))) (by omega) _ 16 (by decide)) ?_
  refine lv_iadd hx hb dJ6_bitCount_0f7a4_46 ?_
  refine lv_re (y := (nI ((pc4 (pc3 (pc2 (pc1 q)))) + ((pc4 (pc3 (pc2 (pc1 q)))) / 2 ^ 16)))) (nI_add (pc4 (pc3 (pc2 (pc1 q)))) ((pc4 (pc3 (pc2 (pc1 q)))) / 2 ^ 16)) ?_
  refine lv_re (y := (nI (pc5 (pc4 (pc3 (pc2 (pc1 q))))))) rfl ?_
  refine lv_istore_n (lv' := [(0, .int (nI (pc5 (pc4 (pc3 (pc2 (pc1 q)))))))]) hx hb dJ6_bitCount_0f7a4_47 rfl hl (by decide) rfl (fun ls hl => ?_)
  refine lv_iload_n hx hb dJ6_bitCount_0f7a4_48 rfl (lv_at hl 0 rfl) ?_
  refine lv_bipush (v := 63) hx hb dJ6_bitCount_0f7a4_49 (by decide) ?_
  refine lv_iand hx hb dJ6_bitCount_0f7a4_51 ?_
  refine lv_re (y := (nI ((pc5 (pc4 (pc3 (pc2 (pc1 q))))) &&& 63))) (nx_and (pc5 (pc4 (pc3 (pc2 (pc1 q))))) 63) ?_
  have e_ret : (nI ((pc5 (pc4 (pc3 (pc2 (pc1 q))))) &&& 63)) = (nI (bits q 20)) := by rw [← pc_all hq]; rfl
  exact W.iret (v := (nI ((pc5 (pc4 (pc3 (pc2 (pc1 q))))) &&& 63))) hx hb hr (fun t ht hW => ⟨congrArg (fun z_ => Outcome.returned (some (Value.int z_))) e_ret, ht⟩) (fun q h => by cases h) dJ6_bitCount_0f7a4_52

set_option maxHeartbeats 4000000 in
set_option maxRecDepth 100000 in
theorem c_X7_asNumber (l : Launch) (D : va_G) (b : Bool)  : Met l yX7_asNumber wsX7_asNumber ({ frames := 0, cells := 0, slots := 0, locals := 0 }) (va_Pc [.int (b2 b)] (fun U => va_P D vwCl [] U.heap ∧ va_K D vwCl [] U)) (QcRead (b2 b)) 0 0 (fun _ => False) := by
  refine Met.ofW (cc := cX7_asNumber) (maxL := 1) (ret := (some .int)) (by decide) rfl ?_
  intro p e s m args below meth c s₁ B hml hv
  obtain ⟨rfl, hP, hK⟩ := hv
  have hx := B.exec
  have hb := B.bytes
  have hr := B.returns
  have hts := atoms_spec (ws := wsX7_asNumber) B.pre
  have hown : s.vm.findClass RX7 = some m.cls := findClass_of_methodNamed B.named
  have hlocks := B.notSynchronized
  have hl := lv_entry ([.int (b2 b)]) (n := 1) (Nat.le_of_ble_eq_true rfl)
  rw [lg_entry_eq]
  generalize (lg_sl ([.int (b2 b)]) ++ List.replicate (1 - (lg_sl ([.int (b2 b)])).length) Slot.unset).toArray = ls at hl ⊢
  have hl : lv_has ls 1 [(0, .int (b2 b))] := hl
  refine lv_iload_n hx hb dX7_asNumber_0 rfl (lv_at hl 0 rfl) ?_
  refine lv_if_eq (tgt := 8) hx hb dX7_asNumber_1 (by decide) (fun c_1 => ?_) (fun c_1 => ?_)
  · have c_1 := b2_0.mp c_1
    refine lv_iconst (v := 0) hx hb dX7_asNumber_8 (by decide) ?_
    have e_ret : (0 : Int32) = (b2 b) := by rw [c_1]; rfl
    exact W.iret (v := (0 : Int32)) hx hb hr (fun t ht hW => ⟨congrArg (fun z_ => Outcome.returned (some (Value.int z_))) e_ret, ht⟩) (fun q h => by cases h) dX7_asNumber_9
  · have c_1 := b2_n0.mp c_1
    refine lv_iconst (v := 1) hx hb dX7_asNumber_4 (by decide) ?_
    refine lv_goto (tgt := 9) hx hb dX7_asNumber_5 (by decide) ?_
    have e_ret : (1 : Int32) = (b2 b) := by rw [c_1]; rfl
    exact W.iret (v := (1 : Int32)) hx hb hr (fun t ht hW => ⟨congrArg (fun z_ => Outcome.returned (some (Value.int z_))) e_ret, ht⟩) (fun q h => by cases h) dX7_asNumber_9

set_option maxHeartbeats 4000000 in
set_option maxRecDepth 100000 in
theorem c_X7_common_bad (l : Launch) (D : va_G) (h0 : Nat) (fs : List Value) (ht : Nat) (ft : List Value) (o : Nat) (x : Int32) (c0 : fs[0]? = some (.ref ht)) (t2 : ft[2]? = some (.int (nI o))) (ho : o ≤ 20) (hb_ : sb x (nI (2 ^ o - 1)) = false) : Met l yX7_common wsX7_common ({ frames := 2, cells := 0, slots := 0, locals := 42 }) (va_Pc [.ref h0, .int x] (fun U => va_P D vwCl [(h0, .inr (6, fs)), (ht, .inr (5, ft))] U.heap ∧ va_K D vwCl [] U)) (QcRead (-2)) 0 0 (fun _ => False) := by
  refine Met.ofW (cc := cX7_common) (maxL := 2) (ret := (some .int)) (by decide) rfl ?_
  intro p e s m args below meth c s₁ B hml hv
  obtain ⟨rfl, hP, hK⟩ := hv
  have hx := B.exec
  have hb := B.bytes
  have hr := B.returns
  have hts := atoms_spec (ws := wsX7_common) B.pre
  have hown : s.vm.findClass RX7 = some m.cls := findClass_of_methodNamed B.named
  have hlocks := B.notSynchronized
  have hl := lv_entry ([.ref h0, .int x]) (n := 2) (Nat.le_of_ble_eq_true rfl)
  rw [lg_entry_eq]
  generalize (lg_sl ([.ref h0, .int x]) ++ List.replicate (2 - (lg_sl ([.ref h0, .int x])).length) Slot.unset).toArray = ls at hl ⊢
  have hl : lv_has ls 2 [(0, .ref h0), (1, .int x)] := hl
  refine lv_aload_n hx hb dX7_common_0 rfl (lv_at hl 0 rfl) ?_
  refine va_get (D := D) (ci := 6) (v := .ref ht) (C := RX7) (T := TX7) (N := 5) hx hb hts (by decide +kernel) hown hK hP 0 rfl rfl 0 (by decide) (hts (.fieldLink RX7 12 "ConceptTable" "table" "LConceptTable$Table;") (by decide +kernel)) (fun _ h9 => h9) c0 dX7_common_1 ?_
  refine lv_iload_n hx hb dX7_common_4 rfl (lv_at hl 1 rfl) ?_
  refine rd_V (As := [.int x]) (rest := []) ⟨hx, hb, hml, hown, hts⟩ (c_X6_isObjectSet l D ht ft o x t2 (by assumption)) (cwV 1 hts gX7_common_X6_isObjectSet rfl rfl rfl (by decide +kernel) ⟨Nat.le_of_ble_eq_true rfl, Nat.le_of_ble_eq_true rfl⟩) (hP.sub (ws' := [(ht, .inr (5, ft))]) [1] rfl) (hK.sub (tys' := []) [] rfl) (va_recv hK hP (ci := 5) (q0 := 1) rfl rfl) rfl rfl hl.1 rfl (lv_room (Nat.le_of_ble_eq_true rfl)) dX7_common_5 ⟨Nat.le_of_ble_eq_true rfl, Nat.le_of_ble_eq_true rfl⟩ ?_
  refine lv_if_eq (tgt := 22) hx hb dX7_common_8 (by decide) (fun c_8 => ?_) (fun c_8 => ?_)
  · have c_8 := b2_0.mp c_8
    refine lv_bipush (v := -2) hx hb dX7_common_22 (by decide) ?_
    have e_ret : (-2 : Int32) = (-2) := by rfl
    exact W.iret (v := (-2 : Int32)) hx hb hr (fun t ht hW => ⟨congrArg (fun z_ => Outcome.returned (some (Value.int z_))) e_ret, ht⟩) (fun q h => by cases h) dX7_common_24
  · have c_8 := b2_n0.mp c_8
    exact Bool.noConfusion (hb_.symm.trans c_8)

set_option maxHeartbeats 4000000 in
set_option maxRecDepth 100000 in
theorem c_X7_common_ok (l : Launch) (D : va_G) (h0 : Nat) (fs : List Value) (ht : Nat) (ft : List Value) (hro : Nat) (cI : ClassId) (r : Nat → Nat) (n : Nat) (o : Nat) (q : Nat) (c0 : fs[0]? = some (.ref ht)) (t0 : ft[0]? = some (.ref hro)) (t1 : ft[1]? = some (.int (nI n))) (t2 : ft[2]? = some (.int (nI o))) (hn : n ≤ 12) (ho : o ≤ 20) (hq : q < 2 ^ 31) (hb_ : sb (nI q) (nI (2 ^ o - 1)) = true) : Met l yX7_common wsX7_common ({ frames := 3, cells := 0, slots := 0, locals := 63 }) (va_Pc [.ref h0, .int (nI q)] (fun U => va_P D vwCl [(h0, .inr (6, fs)), (ht, .inr (5, ft)), (hro, .inl (cI, 20, .inl (fun i_ => nI (r i_))))] U.heap ∧ va_K D vwCl [(cI, .int)] U)) (QcRead (nI (com r n q o))) 0 0 (fun _ => False) := by
  refine Met.ofW (cc := cX7_common) (maxL := 2) (ret := (some .int)) (by decide) rfl ?_
  intro p e s m args below meth c s₁ B hml hv
  obtain ⟨rfl, hP, hK⟩ := hv
  have hx := B.exec
  have hb := B.bytes
  have hr := B.returns
  have hts := atoms_spec (ws := wsX7_common) B.pre
  have hown : s.vm.findClass RX7 = some m.cls := findClass_of_methodNamed B.named
  have hlocks := B.notSynchronized
  have hl := lv_entry ([.ref h0, .int (nI q)]) (n := 2) (Nat.le_of_ble_eq_true rfl)
  rw [lg_entry_eq]
  generalize (lg_sl ([.ref h0, .int (nI q)]) ++ List.replicate (2 - (lg_sl ([.ref h0, .int (nI q)])).length) Slot.unset).toArray = ls at hl ⊢
  have hl : lv_has ls 2 [(0, .ref h0), (1, .int (nI q))] := hl
  refine lv_aload_n hx hb dX7_common_0 rfl (lv_at hl 0 rfl) ?_
  refine va_get (D := D) (ci := 6) (v := .ref ht) (C := RX7) (T := TX7) (N := 5) hx hb hts (by decide +kernel) hown hK hP 0 rfl rfl 0 (by decide) (hts (.fieldLink RX7 12 "ConceptTable" "table" "LConceptTable$Table;") (by decide +kernel)) (fun _ h9 => h9) c0 dX7_common_1 ?_
  refine lv_iload_n hx hb dX7_common_4 rfl (lv_at hl 1 rfl) ?_
  refine rd_V (As := [.int (nI q)]) (rest := []) ⟨hx, hb, hml, hown, hts⟩ (c_X6_isObjectSet l D ht ft o (nI q) t2 (by assumption)) (cwV 1 hts gX7_common_X6_isObjectSet rfl rfl rfl (by decide +kernel) ⟨Nat.le_of_ble_eq_true rfl, Nat.le_of_ble_eq_true rfl⟩) (hP.sub (ws' := [(ht, .inr (5, ft))]) [1] rfl) (hK.sub (tys' := []) [] rfl) (va_recv hK hP (ci := 5) (q0 := 1) rfl rfl) rfl rfl hl.1 rfl (lv_room (Nat.le_of_ble_eq_true rfl)) dX7_common_5 ⟨Nat.le_of_ble_eq_true rfl, Nat.le_of_ble_eq_true rfl⟩ ?_
  refine lv_if_eq (tgt := 22) hx hb dX7_common_8 (by decide) (fun c_8 => ?_) (fun c_8 => ?_)
  · have c_8 := b2_0.mp c_8
    exact Bool.noConfusion (hb_.symm.trans c_8)
  · have c_8 := b2_n0.mp c_8
    refine lv_aload_n hx hb dX7_common_11 rfl (lv_at hl 0 rfl) ?_
    refine va_get (D := D) (ci := 6) (v := .ref ht) (C := RX7) (T := TX7) (N := 5) hx hb hts (by decide +kernel) hown hK hP 0 rfl rfl 0 (by decide) (hts (.fieldLink RX7 12 "ConceptTable" "table" "LConceptTable$Table;") (by decide +kernel)) (fun _ h9 => h9) c0 dX7_common_12 ?_
    refine lv_iload_n hx hb dX7_common_15 rfl (lv_at hl 1 rfl) ?_
    refine rd_V (As := [.int (nI q)]) (rest := []) ⟨hx, hb, hml, hown, hts⟩ (c_X6_commonOf l D ht ft hro cI n o r q t0 t1 t2 (by assumption) (by assumption) (by assumption)) (cwV 1 hts gX7_common_X6_commonOf rfl rfl rfl (by decide +kernel) ⟨Nat.le_of_ble_eq_true rfl, Nat.le_of_ble_eq_true rfl⟩) (hP.sub (ws' := [(ht, .inr (5, ft)), (hro, .inl (cI, 20, .inl (fun i_ => nI (r i_))))]) [1, 2] rfl) (hK.sub (tys' := [(cI, .int)]) [0] rfl) (va_recv hK hP (ci := 5) (q0 := 1) rfl rfl) rfl rfl hl.1 rfl (lv_room (Nat.le_of_ble_eq_true rfl)) dX7_common_16 ⟨Nat.le_of_ble_eq_true rfl, Nat.le_of_ble_eq_true rfl⟩ ?_
    refine lv_goto (tgt := 24) hx hb dX7_common_19 (by decide) ?_
    have e_ret : (nI (com r n q o)) = (nI (com r n q o)) := by rfl
    exact W.iret (v := (nI (com r n q o))) hx hb hr (fun t ht hW => ⟨congrArg (fun z_ => Outcome.returned (some (Value.int z_))) e_ret, ht⟩) (fun q h => by cases h) dX7_common_24

set_option maxHeartbeats 4000000 in
set_option maxRecDepth 100000 in
theorem c_X7_extent_bad (l : Launch) (D : va_G) (h0 : Nat) (fs : List Value) (ht : Nat) (ft : List Value) (n : Nat) (x : Int32) (c0 : fs[0]? = some (.ref ht)) (t1 : ft[1]? = some (.int (nI n))) (hn : n ≤ 12) (hb_ : sb x (nI (2 ^ n - 1)) = false) : Met l yX7_extent wsX7_extent ({ frames := 3, cells := 0, slots := 0, locals := 61 }) (va_Pc [.ref h0, .int x] (fun U => va_P D vwCl [(h0, .inr (6, fs)), (ht, .inr (5, ft))] U.heap ∧ va_K D vwCl [] U)) (QcRead (-2)) 0 0 (fun _ => False) := by
  refine Met.ofW (cc := cX7_extent) (maxL := 2) (ret := (some .int)) (by decide) rfl ?_
  intro p e s m args below meth c s₁ B hml hv
  obtain ⟨rfl, hP, hK⟩ := hv
  have hx := B.exec
  have hb := B.bytes
  have hr := B.returns
  have hts := atoms_spec (ws := wsX7_extent) B.pre
  have hown : s.vm.findClass RX7 = some m.cls := findClass_of_methodNamed B.named
  have hlocks := B.notSynchronized
  have hl := lv_entry ([.ref h0, .int x]) (n := 2) (Nat.le_of_ble_eq_true rfl)
  rw [lg_entry_eq]
  generalize (lg_sl ([.ref h0, .int x]) ++ List.replicate (2 - (lg_sl ([.ref h0, .int x])).length) Slot.unset).toArray = ls at hl ⊢
  have hl : lv_has ls 2 [(0, .ref h0), (1, .int x)] := hl
  refine lv_aload_n hx hb dX7_extent_0 rfl (lv_at hl 0 rfl) ?_
  refine va_get (D := D) (ci := 6) (v := .ref ht) (C := RX7) (T := TX7) (N := 5) hx hb hts (by decide +kernel) hown hK hP 0 rfl rfl 0 (by decide) (hts (.fieldLink RX7 12 "ConceptTable" "table" "LConceptTable$Table;") (by decide +kernel)) (fun _ h9 => h9) c0 dX7_extent_1 ?_
  refine lv_iload_n hx hb dX7_extent_4 rfl (lv_at hl 1 rfl) ?_
  refine rd_V (As := [.int x]) (rest := []) ⟨hx, hb, hml, hown, hts⟩ (c_X6_isAttributeSet l D ht ft n x t1 (by assumption)) (cwV 1 hts gX7_extent_X6_isAttributeSet rfl rfl rfl (by decide +kernel) ⟨Nat.le_of_ble_eq_true rfl, Nat.le_of_ble_eq_true rfl⟩) (hP.sub (ws' := [(ht, .inr (5, ft))]) [1] rfl) (hK.sub (tys' := []) [] rfl) (va_recv hK hP (ci := 5) (q0 := 1) rfl rfl) rfl rfl hl.1 rfl (lv_room (Nat.le_of_ble_eq_true rfl)) dX7_extent_5 ⟨Nat.le_of_ble_eq_true rfl, Nat.le_of_ble_eq_true rfl⟩ ?_
  refine lv_if_eq (tgt := 22) hx hb dX7_extent_8 (by decide) (fun c_8 => ?_) (fun c_8 => ?_)
  · have c_8 := b2_0.mp c_8
    refine lv_bipush (v := -2) hx hb dX7_extent_22 (by decide) ?_
    have e_ret : (-2 : Int32) = (-2) := by rfl
    exact W.iret (v := (-2 : Int32)) hx hb hr (fun t ht hW => ⟨congrArg (fun z_ => Outcome.returned (some (Value.int z_))) e_ret, ht⟩) (fun q h => by cases h) dX7_extent_24
  · have c_8 := b2_n0.mp c_8
    exact Bool.noConfusion (hb_.symm.trans c_8)

set_option maxHeartbeats 4000000 in
set_option maxRecDepth 100000 in
theorem c_X7_extent_ok (l : Launch) (D : va_G) (h0 : Nat) (fs : List Value) (ht : Nat) (ft : List Value) (hro : Nat) (cI : ClassId) (r : Nat → Nat) (n : Nat) (o : Nat) (q : Nat) (c0 : fs[0]? = some (.ref ht)) (t0 : ft[0]? = some (.ref hro)) (t1 : ft[1]? = some (.int (nI n))) (t2 : ft[2]? = some (.int (nI o))) (hn : n ≤ 12) (ho : o ≤ 20) (hq : q < 2 ^ 31) (hb_ : sb (nI q) (nI (2 ^ n - 1)) = true) : Met l yX7_extent wsX7_extent ({ frames := 3, cells := 0, slots := 0, locals := 61 }) (va_Pc [.ref h0, .int (nI q)] (fun U => va_P D vwCl [(h0, .inr (6, fs)), (ht, .inr (5, ft)), (hro, .inl (cI, 20, .inl (fun i_ => nI (r i_))))] U.heap ∧ va_K D vwCl [(cI, .int)] U)) (QcRead (nI (ext r q o))) 0 0 (fun _ => False) := by
  refine Met.ofW (cc := cX7_extent) (maxL := 2) (ret := (some .int)) (by decide) rfl ?_
  intro p e s m args below meth c s₁ B hml hv
  obtain ⟨rfl, hP, hK⟩ := hv
  have hx := B.exec
  have hb := B.bytes
  have hr := B.returns
  have hts := atoms_spec (ws := wsX7_extent) B.pre
  have hown : s.vm.findClass RX7 = some m.cls := findClass_of_methodNamed B.named
  have hlocks := B.notSynchronized
  have hl := lv_entry ([.ref h0, .int (nI q)]) (n := 2) (Nat.le_of_ble_eq_true rfl)
  rw [lg_entry_eq]
  generalize (lg_sl ([.ref h0, .int (nI q)]) ++ List.replicate (2 - (lg_sl ([.ref h0, .int (nI q)])).length) Slot.unset).toArray = ls at hl ⊢
  have hl : lv_has ls 2 [(0, .ref h0), (1, .int (nI q))] := hl
  refine lv_aload_n hx hb dX7_extent_0 rfl (lv_at hl 0 rfl) ?_
  refine va_get (D := D) (ci := 6) (v := .ref ht) (C := RX7) (T := TX7) (N := 5) hx hb hts (by decide +kernel) hown hK hP 0 rfl rfl 0 (by decide) (hts (.fieldLink RX7 12 "ConceptTable" "table" "LConceptTable$Table;") (by decide +kernel)) (fun _ h9 => h9) c0 dX7_extent_1 ?_
  refine lv_iload_n hx hb dX7_extent_4 rfl (lv_at hl 1 rfl) ?_
  refine rd_V (As := [.int (nI q)]) (rest := []) ⟨hx, hb, hml, hown, hts⟩ (c_X6_isAttributeSet l D ht ft n (nI q) t1 (by assumption)) (cwV 1 hts gX7_extent_X6_isAttributeSet rfl rfl rfl (by decide +kernel) ⟨Nat.le_of_ble_eq_true rfl, Nat.le_of_ble_eq_true rfl⟩) (hP.sub (ws' := [(ht, .inr (5, ft))]) [1] rfl) (hK.sub (tys' := []) [] rfl) (va_recv hK hP (ci := 5) (q0 := 1) rfl rfl) rfl rfl hl.1 rfl (lv_room (Nat.le_of_ble_eq_true rfl)) dX7_extent_5 ⟨Nat.le_of_ble_eq_true rfl, Nat.le_of_ble_eq_true rfl⟩ ?_
  refine lv_if_eq (tgt := 22) hx hb dX7_extent_8 (by decide) (fun c_8 => ?_) (fun c_8 => ?_)
  · have c_8 := b2_0.mp c_8
    exact Bool.noConfusion (hb_.symm.trans c_8)
  · have c_8 := b2_n0.mp c_8
    refine lv_aload_n hx hb dX7_extent_11 rfl (lv_at hl 0 rfl) ?_
    refine va_get (D := D) (ci := 6) (v := .ref ht) (C := RX7) (T := TX7) (N := 5) hx hb hts (by decide +kernel) hown hK hP 0 rfl rfl 0 (by decide) (hts (.fieldLink RX7 12 "ConceptTable" "table" "LConceptTable$Table;") (by decide +kernel)) (fun _ h9 => h9) c0 dX7_extent_12 ?_
    refine lv_iload_n hx hb dX7_extent_15 rfl (lv_at hl 1 rfl) ?_
    refine rd_V (As := [.int (nI q)]) (rest := []) ⟨hx, hb, hml, hown, hts⟩ (c_X6_extentOf l D ht ft hro cI o r q t0 t2 (by assumption) (by assumption)) (cwV 1 hts gX7_extent_X6_extentOf rfl rfl rfl (by decide +kernel) ⟨Nat.le_of_ble_eq_true rfl, Nat.le_of_ble_eq_true rfl⟩) (hP.sub (ws' := [(ht, .inr (5, ft)), (hro, .inl (cI, 20, .inl (fun i_ => nI (r i_))))]) [1, 2] rfl) (hK.sub (tys' := [(cI, .int)]) [0] rfl) (va_recv hK hP (ci := 5) (q0 := 1) rfl rfl) rfl rfl hl.1 rfl (lv_room (Nat.le_of_ble_eq_true rfl)) dX7_extent_16 ⟨Nat.le_of_ble_eq_true rfl, Nat.le_of_ble_eq_true rfl⟩ ?_
    refine lv_goto (tgt := 24) hx hb dX7_extent_19 (by decide) ?_
    have e_ret : (nI (ext r q o)) = (nI (ext r q o)) := by rfl
    exact W.iret (v := (nI (ext r q o))) hx hb hr (fun t ht hW => ⟨congrArg (fun z_ => Outcome.returned (some (Value.int z_))) e_ret, ht⟩) (fun q h => by cases h) dX7_extent_24

set_option maxHeartbeats 4000000 in
set_option maxRecDepth 100000 in
theorem c_X7_closure_bad (l : Launch) (D : va_G) (h0 : Nat) (fs : List Value) (ht : Nat) (ft : List Value) (n : Nat) (x : Int32) (c0 : fs[0]? = some (.ref ht)) (t1 : ft[1]? = some (.int (nI n))) (hn : n ≤ 12) (hb_ : sb x (nI (2 ^ n - 1)) = false) : Met l yX7_closure wsX7_closure ({ frames := 3, cells := 0, slots := 0, locals := 61 }) (va_Pc [.ref h0, .int x] (fun U => va_P D vwCl [(h0, .inr (6, fs)), (ht, .inr (5, ft))] U.heap ∧ va_K D vwCl [] U)) (QcRead (-2)) 0 0 (fun _ => False) := by
  refine Met.ofW (cc := cX7_closure) (maxL := 2) (ret := (some .int)) (by decide) rfl ?_
  intro p e s m args below meth c s₁ B hml hv
  obtain ⟨rfl, hP, hK⟩ := hv
  have hx := B.exec
  have hb := B.bytes
  have hr := B.returns
  have hts := atoms_spec (ws := wsX7_closure) B.pre
  have hown : s.vm.findClass RX7 = some m.cls := findClass_of_methodNamed B.named
  have hlocks := B.notSynchronized
  have hl := lv_entry ([.ref h0, .int x]) (n := 2) (Nat.le_of_ble_eq_true rfl)
  rw [lg_entry_eq]
  generalize (lg_sl ([.ref h0, .int x]) ++ List.replicate (2 - (lg_sl ([.ref h0, .int x])).length) Slot.unset).toArray = ls at hl ⊢
  have hl : lv_has ls 2 [(0, .ref h0), (1, .int x)] := hl
  refine lv_aload_n hx hb dX7_closure_0 rfl (lv_at hl 0 rfl) ?_
  refine va_get (D := D) (ci := 6) (v := .ref ht) (C := RX7) (T := TX7) (N := 5) hx hb hts (by decide +kernel) hown hK hP 0 rfl rfl 0 (by decide) (hts (.fieldLink RX7 12 "ConceptTable" "table" "LConceptTable$Table;") (by decide +kernel)) (fun _ h9 => h9) c0 dX7_closure_1 ?_
  refine lv_iload_n hx hb dX7_closure_4 rfl (lv_at hl 1 rfl) ?_
  refine rd_V (As := [.int x]) (rest := []) ⟨hx, hb, hml, hown, hts⟩ (c_X6_isAttributeSet l D ht ft n x t1 (by assumption)) (cwV 1 hts gX7_closure_X6_isAttributeSet rfl rfl rfl (by decide +kernel) ⟨Nat.le_of_ble_eq_true rfl, Nat.le_of_ble_eq_true rfl⟩) (hP.sub (ws' := [(ht, .inr (5, ft))]) [1] rfl) (hK.sub (tys' := []) [] rfl) (va_recv hK hP (ci := 5) (q0 := 1) rfl rfl) rfl rfl hl.1 rfl (lv_room (Nat.le_of_ble_eq_true rfl)) dX7_closure_5 ⟨Nat.le_of_ble_eq_true rfl, Nat.le_of_ble_eq_true rfl⟩ ?_
  refine lv_if_eq (tgt := 22) hx hb dX7_closure_8 (by decide) (fun c_8 => ?_) (fun c_8 => ?_)
  · have c_8 := b2_0.mp c_8
    refine lv_bipush (v := -2) hx hb dX7_closure_22 (by decide) ?_
    have e_ret : (-2 : Int32) = (-2) := by rfl
    exact W.iret (v := (-2 : Int32)) hx hb hr (fun t ht hW => ⟨congrArg (fun z_ => Outcome.returned (some (Value.int z_))) e_ret, ht⟩) (fun q h => by cases h) dX7_closure_24
  · have c_8 := b2_n0.mp c_8
    exact Bool.noConfusion (hb_.symm.trans c_8)

set_option maxHeartbeats 4000000 in
set_option maxRecDepth 100000 in
theorem c_X7_closure_ok (l : Launch) (D : va_G) (h0 : Nat) (fs : List Value) (ht : Nat) (ft : List Value) (hro : Nat) (cI : ClassId) (r : Nat → Nat) (n : Nat) (o : Nat) (q : Nat) (c0 : fs[0]? = some (.ref ht)) (t0 : ft[0]? = some (.ref hro)) (t1 : ft[1]? = some (.int (nI n))) (t2 : ft[2]? = some (.int (nI o))) (hn : n ≤ 12) (ho : o ≤ 20) (hq : q < 2 ^ 31) (hb_ : sb (nI q) (nI (2 ^ n - 1)) = true) : Met l yX7_closure wsX7_closure ({ frames := 3, cells := 0, slots := 0, locals := 63 }) (va_Pc [.ref h0, .int (nI q)] (fun U => va_P D vwCl [(h0, .inr (6, fs)), (ht, .inr (5, ft)), (hro, .inl (cI, 20, .inl (fun i_ => nI (r i_))))] U.heap ∧ va_K D vwCl [(cI, .int)] U)) (QcRead (nI (clo r n o q))) 0 0 (fun _ => False) := by
  refine Met.ofW (cc := cX7_closure) (maxL := 2) (ret := (some .int)) (by decide) rfl ?_
  intro p e s m args below meth c s₁ B hml hv
  obtain ⟨rfl, hP, hK⟩ := hv
  have hx := B.exec
  have hb := B.bytes
  have hr := B.returns
  have hts := atoms_spec (ws := wsX7_closure) B.pre
  have hown : s.vm.findClass RX7 = some m.cls := findClass_of_methodNamed B.named
  have hlocks := B.notSynchronized
  have hl := lv_entry ([.ref h0, .int (nI q)]) (n := 2) (Nat.le_of_ble_eq_true rfl)
  rw [lg_entry_eq]
  generalize (lg_sl ([.ref h0, .int (nI q)]) ++ List.replicate (2 - (lg_sl ([.ref h0, .int (nI q)])).length) Slot.unset).toArray = ls at hl ⊢
  have hl : lv_has ls 2 [(0, .ref h0), (1, .int (nI q))] := hl
  refine lv_aload_n hx hb dX7_closure_0 rfl (lv_at hl 0 rfl) ?_
  refine va_get (D := D) (ci := 6) (v := .ref ht) (C := RX7) (T := TX7) (N := 5) hx hb hts (by decide +kernel) hown hK hP 0 rfl rfl 0 (by decide) (hts (.fieldLink RX7 12 "ConceptTable" "table" "LConceptTable$Table;") (by decide +kernel)) (fun _ h9 => h9) c0 dX7_closure_1 ?_
  refine lv_iload_n hx hb dX7_closure_4 rfl (lv_at hl 1 rfl) ?_
  refine rd_V (As := [.int (nI q)]) (rest := []) ⟨hx, hb, hml, hown, hts⟩ (c_X6_isAttributeSet l D ht ft n (nI q) t1 (by assumption)) (cwV 1 hts gX7_closure_X6_isAttributeSet rfl rfl rfl (by decide +kernel) ⟨Nat.le_of_ble_eq_true rfl, Nat.le_of_ble_eq_true rfl⟩) (hP.sub (ws' := [(ht, .inr (5, ft))]) [1] rfl) (hK.sub (tys' := []) [] rfl) (va_recv hK hP (ci := 5) (q0 := 1) rfl rfl) rfl rfl hl.1 rfl (lv_room (Nat.le_of_ble_eq_true rfl)) dX7_closure_5 ⟨Nat.le_of_ble_eq_true rfl, Nat.le_of_ble_eq_true rfl⟩ ?_
  refine lv_if_eq (tgt := 22) hx hb dX7_closure_8 (by decide) (fun c_8 => ?_) (fun c_8 => ?_)
  · have c_8 := b2_0.mp c_8
    exact Bool.noConfusion (hb_.symm.trans c_8)
  · have c_8 := b2_n0.mp c_8
    refine lv_aload_n hx hb dX7_closure_11 rfl (lv_at hl 0 rfl) ?_
    refine va_get (D := D) (ci := 6) (v := .ref ht) (C := RX7) (T := TX7) (N := 5) hx hb hts (by decide +kernel) hown hK hP 0 rfl rfl 0 (by decide) (hts (.fieldLink RX7 12 "ConceptTable" "table" "LConceptTable$Table;") (by decide +kernel)) (fun _ h9 => h9) c0 dX7_closure_12 ?_
    refine lv_iload_n hx hb dX7_closure_15 rfl (lv_at hl 1 rfl) ?_
    refine rd_V (As := [.int (nI q)]) (rest := []) ⟨hx, hb, hml, hown, hts⟩ (c_X6_closureOf l D ht ft hro cI n o r q t0 t1 t2 (by assumption) (by assumption) (by assumption)) (cwV 1 hts gX7_closure_X6_closureOf rfl rfl rfl (by decide +kernel) ⟨Nat.le_of_ble_eq_true rfl, Nat.le_of_ble_eq_true rfl⟩) (hP.sub (ws' := [(ht, .inr (5, ft)), (hro, .inl (cI, 20, .inl (fun i_ => nI (r i_))))]) [1, 2] rfl) (hK.sub (tys' := [(cI, .int)]) [0] rfl) (va_recv hK hP (ci := 5) (q0 := 1) rfl rfl) rfl rfl hl.1 rfl (lv_room (Nat.le_of_ble_eq_true rfl)) dX7_closure_16 ⟨Nat.le_of_ble_eq_true rfl, Nat.le_of_ble_eq_true rfl⟩ ?_
    refine lv_goto (tgt := 24) hx hb dX7_closure_19 (by decide) ?_
    have e_ret : (nI (clo r n o q)) = (nI (clo r n o q)) := by rfl
    exact W.iret (v := (nI (clo r n o q))) hx hb hr (fun t ht hW => ⟨congrArg (fun z_ => Outcome.returned (some (Value.int z_))) e_ret, ht⟩) (fun q h => by cases h) dX7_closure_24

set_option maxHeartbeats 4000000 in
set_option maxRecDepth 100000 in
theorem c_X7_next_bad (l : Launch) (D : va_G) (h0 : Nat) (fs : List Value) (ht : Nat) (ft : List Value) (n : Nat) (x : Int32) (c0 : fs[0]? = some (.ref ht)) (t1 : ft[1]? = some (.int (nI n))) (hn : n ≤ 12) (hb_ : sb x (nI (2 ^ n - 1)) = false) : Met l yX7_next wsX7_next ({ frames := 3, cells := 0, slots := 0, locals := 61 }) (va_Pc [.ref h0, .int x] (fun U => va_P D vwCl [(h0, .inr (6, fs)), (ht, .inr (5, ft))] U.heap ∧ va_K D vwCl [] U)) (QcRead (-2)) 0 0 (fun _ => False) := by
  refine Met.ofW (cc := cX7_next) (maxL := 2) (ret := (some .int)) (by decide) rfl ?_
  intro p e s m args below meth c s₁ B hml hv
  obtain ⟨rfl, hP, hK⟩ := hv
  have hx := B.exec
  have hb := B.bytes
  have hr := B.returns
  have hts := atoms_spec (ws := wsX7_next) B.pre
  have hown : s.vm.findClass RX7 = some m.cls := findClass_of_methodNamed B.named
  have hlocks := B.notSynchronized
  have hl := lv_entry ([.ref h0, .int x]) (n := 2) (Nat.le_of_ble_eq_true rfl)
  rw [lg_entry_eq]
  generalize (lg_sl ([.ref h0, .int x]) ++ List.replicate (2 - (lg_sl ([.ref h0, .int x])).length) Slot.unset).toArray = ls at hl ⊢
  have hl : lv_has ls 2 [(0, .ref h0), (1, .int x)] := hl
  refine lv_aload_n hx hb dX7_next_0 rfl (lv_at hl 0 rfl) ?_
  refine va_get (D := D) (ci := 6) (v := .ref ht) (C := RX7) (T := TX7) (N := 5) hx hb hts (by decide +kernel) hown hK hP 0 rfl rfl 0 (by decide) (hts (.fieldLink RX7 12 "ConceptTable" "table" "LConceptTable$Table;") (by decide +kernel)) (fun _ h9 => h9) c0 dX7_next_1 ?_
  refine lv_iload_n hx hb dX7_next_4 rfl (lv_at hl 1 rfl) ?_
  refine rd_V (As := [.int x]) (rest := []) ⟨hx, hb, hml, hown, hts⟩ (c_X6_isAttributeSet l D ht ft n x t1 (by assumption)) (cwV 1 hts gX7_next_X6_isAttributeSet rfl rfl rfl (by decide +kernel) ⟨Nat.le_of_ble_eq_true rfl, Nat.le_of_ble_eq_true rfl⟩) (hP.sub (ws' := [(ht, .inr (5, ft))]) [1] rfl) (hK.sub (tys' := []) [] rfl) (va_recv hK hP (ci := 5) (q0 := 1) rfl rfl) rfl rfl hl.1 rfl (lv_room (Nat.le_of_ble_eq_true rfl)) dX7_next_5 ⟨Nat.le_of_ble_eq_true rfl, Nat.le_of_ble_eq_true rfl⟩ ?_
  refine lv_if_eq (tgt := 22) hx hb dX7_next_8 (by decide) (fun c_8 => ?_) (fun c_8 => ?_)
  · have c_8 := b2_0.mp c_8
    refine lv_bipush (v := -2) hx hb dX7_next_22 (by decide) ?_
    have e_ret : (-2 : Int32) = (-2) := by rfl
    exact W.iret (v := (-2 : Int32)) hx hb hr (fun t ht hW => ⟨congrArg (fun z_ => Outcome.returned (some (Value.int z_))) e_ret, ht⟩) (fun q h => by cases h) dX7_next_24
  · have c_8 := b2_n0.mp c_8
    exact Bool.noConfusion (hb_.symm.trans c_8)

set_option maxHeartbeats 4000000 in
set_option maxRecDepth 100000 in
theorem c_X7_next_ok (l : Launch) (D : va_G) (h0 : Nat) (fs : List Value) (ht : Nat) (ft : List Value) (hro : Nat) (cI : ClassId) (r : Nat → Nat) (n : Nat) (o : Nat) (q : Nat) (c0 : fs[0]? = some (.ref ht)) (t0 : ft[0]? = some (.ref hro)) (t1 : ft[1]? = some (.int (nI n))) (t2 : ft[2]? = some (.int (nI o))) (hn : n ≤ 12) (ho : o ≤ 20) (hq : q < 2 ^ n) (hb_ : sb (nI q) (nI (2 ^ n - 1)) = true) : Met l yX7_next wsX7_next ({ frames := 4, cells := 0, slots := 0, locals := 88 }) (va_Pc [.ref h0, .int (nI q)] (fun U => va_P D vwCl [(h0, .inr (6, fs)), (ht, .inr (5, ft)), (hro, .inl (cI, 20, .inl (fun i_ => nI (r i_))))] U.heap ∧ va_K D vwCl [(cI, .int)] U)) (QcRead (cbF r n o n q)) 0 0 (fun _ => False) := by
  refine Met.ofW (cc := cX7_next) (maxL := 2) (ret := (some .int)) (by decide) rfl ?_
  intro p e s m args below meth c s₁ B hml hv
  obtain ⟨rfl, hP, hK⟩ := hv
  have hx := B.exec
  have hb := B.bytes
  have hr := B.returns
  have hts := atoms_spec (ws := wsX7_next) B.pre
  have hown : s.vm.findClass RX7 = some m.cls := findClass_of_methodNamed B.named
  have hlocks := B.notSynchronized
  have hl := lv_entry ([.ref h0, .int (nI q)]) (n := 2) (Nat.le_of_ble_eq_true rfl)
  rw [lg_entry_eq]
  generalize (lg_sl ([.ref h0, .int (nI q)]) ++ List.replicate (2 - (lg_sl ([.ref h0, .int (nI q)])).length) Slot.unset).toArray = ls at hl ⊢
  have hl : lv_has ls 2 [(0, .ref h0), (1, .int (nI q))] := hl
  refine lv_aload_n hx hb dX7_next_0 rfl (lv_at hl 0 rfl) ?_
  refine va_get (D := D) (ci := 6) (v := .ref ht) (C := RX7) (T := TX7) (N := 5) hx hb hts (by decide +kernel) hown hK hP 0 rfl rfl 0 (by decide) (hts (.fieldLink RX7 12 "ConceptTable" "table" "LConceptTable$Table;") (by decide +kernel)) (fun _ h9 => h9) c0 dX7_next_1 ?_
  refine lv_iload_n hx hb dX7_next_4 rfl (lv_at hl 1 rfl) ?_
  refine rd_V (As := [.int (nI q)]) (rest := []) ⟨hx, hb, hml, hown, hts⟩ (c_X6_isAttributeSet l D ht ft n (nI q) t1 (by assumption)) (cwV 1 hts gX7_next_X6_isAttributeSet rfl rfl rfl (by decide +kernel) ⟨Nat.le_of_ble_eq_true rfl, Nat.le_of_ble_eq_true rfl⟩) (hP.sub (ws' := [(ht, .inr (5, ft))]) [1] rfl) (hK.sub (tys' := []) [] rfl) (va_recv hK hP (ci := 5) (q0 := 1) rfl rfl) rfl rfl hl.1 rfl (lv_room (Nat.le_of_ble_eq_true rfl)) dX7_next_5 ⟨Nat.le_of_ble_eq_true rfl, Nat.le_of_ble_eq_true rfl⟩ ?_
  refine lv_if_eq (tgt := 22) hx hb dX7_next_8 (by decide) (fun c_8 => ?_) (fun c_8 => ?_)
  · have c_8 := b2_0.mp c_8
    exact Bool.noConfusion (hb_.symm.trans c_8)
  · have c_8 := b2_n0.mp c_8
    refine lv_aload_n hx hb dX7_next_11 rfl (lv_at hl 0 rfl) ?_
    refine va_get (D := D) (ci := 6) (v := .ref ht) (C := RX7) (T := TX7) (N := 5) hx hb hts (by decide +kernel) hown hK hP 0 rfl rfl 0 (by decide) (hts (.fieldLink RX7 12 "ConceptTable" "table" "LConceptTable$Table;") (by decide +kernel)) (fun _ h9 => h9) c0 dX7_next_12 ?_
    refine lv_iload_n hx hb dX7_next_15 rfl (lv_at hl 1 rfl) ?_
    refine rd_V (As := [.int (nI q)]) (rest := []) ⟨hx, hb, hml, hown, hts⟩ (c_X6_closedBehind l D ht ft hro cI n o r q t0 t1 t2 (by assumption) (by assumption) (by assumption)) (cwV 1 hts gX7_next_X6_closedBehind rfl rfl rfl (by decide +kernel) ⟨Nat.le_of_ble_eq_true rfl, Nat.le_of_ble_eq_true rfl⟩) (hP.sub (ws' := [(ht, .inr (5, ft)), (hro, .inl (cI, 20, .inl (fun i_ => nI (r i_))))]) [1, 2] rfl) (hK.sub (tys' := [(cI, .int)]) [0] rfl) (va_recv hK hP (ci := 5) (q0 := 1) rfl rfl) rfl rfl hl.1 rfl (lv_room (Nat.le_of_ble_eq_true rfl)) dX7_next_16 ⟨Nat.le_of_ble_eq_true rfl, Nat.le_of_ble_eq_true rfl⟩ ?_
    refine lv_goto (tgt := 24) hx hb dX7_next_19 (by decide) ?_
    have e_ret : (cbF r n o n q) = (cbF r n o n q) := by rfl
    exact W.iret (v := (cbF r n o n q)) hx hb hr (fun t ht hW => ⟨congrArg (fun z_ => Outcome.returned (some (Value.int z_))) e_ret, ht⟩) (fun q h => by cases h) dX7_next_24

set_option maxHeartbeats 4000000 in
set_option maxRecDepth 100000 in
theorem c_X7_concepts (l : Launch) (D : va_G) (h0 : Nat) (fs : List Value) (hf : Nat) (ff : List Value) (z : Nat) (c3 : fs[3]? = some (.ref hf)) (g3 : ff[3]? = some (.int (nI z))) : Met l yX7_concepts wsX7_concepts ({ frames := 1, cells := 0, slots := 0, locals := 20 }) (va_Pc [.ref h0] (fun U => va_P D vwCl [(h0, .inr (6, fs)), (hf, .inr (1, ff))] U.heap ∧ va_K D vwCl [] U)) (QcRead (nI z)) 0 0 (fun _ => False) := by
  refine Met.ofW (cc := cX7_concepts) (maxL := 1) (ret := (some .int)) (by decide) rfl ?_
  intro p e s m args below meth c s₁ B hml hv
  obtain ⟨rfl, hP, hK⟩ := hv
  have hx := B.exec
  have hb := B.bytes
  have hr := B.returns
  have hts := atoms_spec (ws := wsX7_concepts) B.pre
  have hown : s.vm.findClass RX7 = some m.cls := findClass_of_methodNamed B.named
  have hlocks := B.notSynchronized
  have hl := lv_entry ([.ref h0]) (n := 1) (Nat.le_of_ble_eq_true rfl)
  rw [lg_entry_eq]
  generalize (lg_sl ([.ref h0]) ++ List.replicate (1 - (lg_sl ([.ref h0])).length) Slot.unset).toArray = ls at hl ⊢
  have hl : lv_has ls 1 [(0, .ref h0)] := hl
  refine lv_aload_n hx hb dX7_concepts_0 rfl (lv_at hl 0 rfl) ?_
  refine va_get (D := D) (ci := 6) (v := .ref hf) (C := RX7) (T := TX7) (N := 5) hx hb hts (by decide +kernel) hown hK hP 0 rfl rfl 3 (by decide) (hts (.fieldLink RX7 33 "ConceptTable" "family" "LConceptTable$Family;") (by decide +kernel)) (fun _ h9 => h9) c3 dX7_concepts_1 ?_
  refine rd_V (As := []) (rest := []) ⟨hx, hb, hml, hown, hts⟩ (c_X1_size l D hf ff z g3) (cwV 0 hts gX7_concepts_X1_size rfl rfl rfl (by decide +kernel) ⟨Nat.le_of_ble_eq_true rfl, Nat.le_of_ble_eq_true rfl⟩) (hP.sub (ws' := [(hf, .inr (1, ff))]) [1] rfl) (hK.sub (tys' := []) [] rfl) (va_recv hK hP (ci := 1) (q0 := 1) rfl rfl) rfl rfl hl.1 rfl (lv_room (Nat.le_of_ble_eq_true rfl)) dX7_concepts_4 ⟨Nat.le_of_ble_eq_true rfl, Nat.le_of_ble_eq_true rfl⟩ ?_
  have e_ret : (nI z) = (nI z) := by rfl
  exact W.iret (v := (nI z)) hx hb hr (fun t ht hW => ⟨congrArg (fun z_ => Outcome.returned (some (Value.int z_))) e_ret, ht⟩) (fun q h => by cases h) dX7_concepts_7

set_option maxHeartbeats 4000000 in
set_option maxRecDepth 100000 in
theorem c_X7_question (l : Launch) (D : va_G) (h0 : Nat) (fs : List Value) (hiq : Nat) (fi : List Value) (ask : Int32) (c2 : fs[2]? = some (.ref hiq)) (i2 : fi[2]? = some (.int ask)) : Met l yX7_question wsX7_question ({ frames := 1, cells := 0, slots := 0, locals := 20 }) (va_Pc [.ref h0] (fun U => va_P D vwCl [(h0, .inr (6, fs)), (hiq, .inr (2, fi))] U.heap ∧ va_K D vwCl [] U)) (QcRead ask) 0 0 (fun _ => False) := by
  refine Met.ofW (cc := cX7_question) (maxL := 1) (ret := (some .int)) (by decide) rfl ?_
  intro p e s m args below meth c s₁ B hml hv
  obtain ⟨rfl, hP, hK⟩ := hv
  have hx := B.exec
  have hb := B.bytes
  have hr := B.returns
  have hts := atoms_spec (ws := wsX7_question) B.pre
  have hown : s.vm.findClass RX7 = some m.cls := findClass_of_methodNamed B.named
  have hlocks := B.notSynchronized
  have hl := lv_entry ([.ref h0]) (n := 1) (Nat.le_of_ble_eq_true rfl)
  rw [lg_entry_eq]
  generalize (lg_sl ([.ref h0]) ++ List.replicate (1 - (lg_sl ([.ref h0])).length) Slot.unset).toArray = ls at hl ⊢
  have hl : lv_has ls 1 [(0, .ref h0)] := hl
  refine lv_aload_n hx hb dX7_question_0 rfl (lv_at hl 0 rfl) ?_
  refine va_get (D := D) (ci := 6) (v := .ref hiq) (C := RX7) (T := TX7) (N := 5) hx hb hts (by decide +kernel) hown hK hP 0 rfl rfl 2 (by decide) (hts (.fieldLink RX7 26 "ConceptTable" "inquiry" "LConceptTable$Inquiry;") (by decide +kernel)) (fun _ h9 => h9) c2 dX7_question_1 ?_
  refine rd_V (As := []) (rest := []) ⟨hx, hb, hml, hown, hts⟩ (c_X2_asked l D hiq fi ask i2) (cwV 0 hts gX7_question_X2_asked rfl rfl rfl (by decide +kernel) ⟨Nat.le_of_ble_eq_true rfl, Nat.le_of_ble_eq_true rfl⟩) (hP.sub (ws' := [(hiq, .inr (2, fi))]) [1] rfl) (hK.sub (tys' := []) [] rfl) (va_recv hK hP (ci := 2) (q0 := 1) rfl rfl) rfl rfl hl.1 rfl (lv_room (Nat.le_of_ble_eq_true rfl)) dX7_question_4 ⟨Nat.le_of_ble_eq_true rfl, Nat.le_of_ble_eq_true rfl⟩ ?_
  have e_ret : (ask) = ask := by rfl
  exact W.iret (v := (ask)) hx hb hr (fun t ht hW => ⟨congrArg (fun z_ => Outcome.returned (some (Value.int z_))) e_ret, ht⟩) (fun q h => by cases h) dX7_question_7

set_option maxHeartbeats 4000000 in
set_option maxRecDepth 100000 in
theorem c_X7_holds_bad (l : Launch) (D : va_G) (h0 : Nat) (fs : List Value) (ht : Nat) (ft : List Value) (n : Nat) (x : Int32) (y : Int32) (c0 : fs[0]? = some (.ref ht)) (t1 : ft[1]? = some (.int (nI n))) (hn : n ≤ 12) (hb_ : (sb x (nI (2 ^ n - 1)) && sb y (nI (2 ^ n - 1))) = false) : Met l yX7_holds wsX7_holds ({ frames := 3, cells := 0, slots := 0, locals := 61 }) (va_Pc [.ref h0, .int x, .int y] (fun U => va_P D vwCl [(h0, .inr (6, fs)), (ht, .inr (5, ft))] U.heap ∧ va_K D vwCl [] U)) (QcRead (-2)) 0 0 (fun _ => False) := by
  refine Met.ofW (cc := cX7_holds) (maxL := 3) (ret := (some .int)) (by decide) rfl ?_
  intro p e s m args below meth c s₁ B hml hv
  obtain ⟨rfl, hP, hK⟩ := hv
  have hx := B.exec
  have hb := B.bytes
  have hr := B.returns
  have hts := atoms_spec (ws := wsX7_holds) B.pre
  have hown : s.vm.findClass RX7 = some m.cls := findClass_of_methodNamed B.named
  have hlocks := B.notSynchronized
  have hl := lv_entry ([.ref h0, .int x, .int y]) (n := 3) (Nat.le_of_ble_eq_true rfl)
  rw [lg_entry_eq]
  generalize (lg_sl ([.ref h0, .int x, .int y]) ++ List.replicate (3 - (lg_sl ([.ref h0, .int x, .int y])).length) Slot.unset).toArray = ls at hl ⊢
  have hl : lv_has ls 3 [(0, .ref h0), (1, .int x), (2, .int y)] := hl
  refine lv_aload_n hx hb dX7_holds_0 rfl (lv_at hl 0 rfl) ?_
  refine va_get (D := D) (ci := 6) (v := .ref ht) (C := RX7) (T := TX7) (N := 5) hx hb hts (by decide +kernel) hown hK hP 0 rfl rfl 0 (by decide) (hts (.fieldLink RX7 12 "ConceptTable" "table" "LConceptTable$Table;") (by decide +kernel)) (fun _ h9 => h9) c0 dX7_holds_1 ?_
  refine lv_iload_n hx hb dX7_holds_4 rfl (lv_at hl 1 rfl) ?_
  refine rd_V (As := [.int x]) (rest := []) ⟨hx, hb, hml, hown, hts⟩ (c_X6_isAttributeSet l D ht ft n x t1 (by assumption)) (cwV 1 hts gX7_holds_X6_isAttributeSet rfl rfl rfl (by decide +kernel) ⟨Nat.le_of_ble_eq_true rfl, Nat.le_of_ble_eq_true rfl⟩) (hP.sub (ws' := [(ht, .inr (5, ft))]) [1] rfl) (hK.sub (tys' := []) [] rfl) (va_recv hK hP (ci := 5) (q0 := 1) rfl rfl) rfl rfl hl.1 rfl (lv_room (Nat.le_of_ble_eq_true rfl)) dX7_holds_5 ⟨Nat.le_of_ble_eq_true rfl, Nat.le_of_ble_eq_true rfl⟩ ?_
  refine lv_if_eq (tgt := 22) hx hb dX7_holds_8 (by decide) (fun c_8 => ?_) (fun c_8 => ?_)
  · have c_8 := b2_0.mp c_8
    refine lv_bipush (v := -2) hx hb dX7_holds_22 (by decide) ?_
    have e_ret : (-2 : Int32) = (-2) := by rfl
    exact W.iret (v := (-2 : Int32)) hx hb hr (fun t ht hW => ⟨congrArg (fun z_ => Outcome.returned (some (Value.int z_))) e_ret, ht⟩) (fun q h => by cases h) dX7_holds_24
  · have c_8 := b2_n0.mp c_8
    refine lv_aload_n hx hb dX7_holds_11 rfl (lv_at hl 0 rfl) ?_
    refine va_get (D := D) (ci := 6) (v := .ref ht) (C := RX7) (T := TX7) (N := 5) hx hb hts (by decide +kernel) hown hK hP 0 rfl rfl 0 (by decide) (hts (.fieldLink RX7 12 "ConceptTable" "table" "LConceptTable$Table;") (by decide +kernel)) (fun _ h9 => h9) c0 dX7_holds_12 ?_
    refine lv_iload_n hx hb dX7_holds_15 rfl (lv_at hl 2 rfl) ?_
    refine rd_V (As := [.int y]) (rest := []) ⟨hx, hb, hml, hown, hts⟩ (c_X6_isAttributeSet l D ht ft n y t1 (by assumption)) (cwV 1 hts gX7_holds_X6_isAttributeSet rfl rfl rfl (by decide +kernel) ⟨Nat.le_of_ble_eq_true rfl, Nat.le_of_ble_eq_true rfl⟩) (hP.sub (ws' := [(ht, .inr (5, ft))]) [1] rfl) (hK.sub (tys' := []) [] rfl) (va_recv hK hP (ci := 5) (q0 := 1) rfl rfl) rfl rfl hl.1 rfl (lv_room (Nat.le_of_ble_eq_true rfl)) dX7_holds_16 ⟨Nat.le_of_ble_eq_true rfl, Nat.le_of_ble_eq_true rfl⟩ ?_
    refine lv_if_ne (tgt := 25) hx hb dX7_holds_19 (by decide) (fun c_19 => ?_) (fun c_19 => ?_)
    · have c_19 := b2_n0.mp c_19
      exact absurd hb_ (by rw [c_8, c_19]; decide)
    · have c_19 := b2_0.mp c_19
      refine lv_bipush (v := -2) hx hb dX7_holds_22 (by decide) ?_
      have e_ret : (-2 : Int32) = (-2) := by rfl
      exact W.iret (v := (-2 : Int32)) hx hb hr (fun t ht hW => ⟨congrArg (fun z_ => Outcome.returned (some (Value.int z_))) e_ret, ht⟩) (fun q h => by cases h) dX7_holds_24

set_option maxHeartbeats 4000000 in
set_option maxRecDepth 100000 in
theorem c_X7_holds_ok (l : Launch) (D : va_G) (h0 : Nat) (fs : List Value) (ht : Nat) (ft : List Value) (hro : Nat) (cI : ClassId) (r : Nat → Nat) (n : Nat) (o : Nat) (a : Nat) (b : Nat) (c0 : fs[0]? = some (.ref ht)) (t0 : ft[0]? = some (.ref hro)) (t1 : ft[1]? = some (.int (nI n))) (t2 : ft[2]? = some (.int (nI o))) (hn : n ≤ 12) (ho : o ≤ 20) (ha : a < 2 ^ 31) (hb9 : b < 2 ^ 31) (hb1 : sb (nI a) (nI (2 ^ n - 1)) = true) (hb2 : sb (nI b) (nI (2 ^ n - 1)) = true) : Met l yX7_holds wsX7_holds ({ frames := 3, cells := 0, slots := 0, locals := 63 }) (va_Pc [.ref h0, .int (nI a), .int (nI b)] (fun U => va_P D vwCl [(h0, .inr (6, fs)), (ht, .inr (5, ft)), (hro, .inl (cI, 20, .inl (fun i_ => nI (r i_))))] U.heap ∧ va_K D vwCl [(cI, .int)] U)) (QcRead (b2 (sN b (clo r n o a)))) 0 0 (fun _ => False) := by
  refine Met.ofW (cc := cX7_holds) (maxL := 3) (ret := (some .int)) (by decide) rfl ?_
  intro p e s m args below meth c s₁ B hml hv
  obtain ⟨rfl, hP, hK⟩ := hv
  have hx := B.exec
  have hb := B.bytes
  have hr := B.returns
  have hts := atoms_spec (ws := wsX7_holds) B.pre
  have hown : s.vm.findClass RX7 = some m.cls := findClass_of_methodNamed B.named
  have hlocks := B.notSynchronized
  have hl := lv_entry ([.ref h0, .int (nI a), .int (nI b)]) (n := 3) (Nat.le_of_ble_eq_true rfl)
  rw [lg_entry_eq]
  generalize (lg_sl ([.ref h0, .int (nI a), .int (nI b)]) ++ List.replicate (3 - (lg_sl ([.ref h0, .int (nI a), .int (nI b)])).length) Slot.unset).toArray = ls at hl ⊢
  have hl : lv_has ls 3 [(0, .ref h0), (1, .int (nI a)), (2, .int (nI b))] := hl
  refine lv_aload_n hx hb dX7_holds_0 rfl (lv_at hl 0 rfl) ?_
  refine va_get (D := D) (ci := 6) (v := .ref ht) (C := RX7) (T := TX7) (N := 5) hx hb hts (by decide +kernel) hown hK hP 0 rfl rfl 0 (by decide) (hts (.fieldLink RX7 12 "ConceptTable" "table" "LConceptTable$Table;") (by decide +kernel)) (fun _ h9 => h9) c0 dX7_holds_1 ?_
  refine lv_iload_n hx hb dX7_holds_4 rfl (lv_at hl 1 rfl) ?_
  refine rd_V (As := [.int (nI a)]) (rest := []) ⟨hx, hb, hml, hown, hts⟩ (c_X6_isAttributeSet l D ht ft n (nI a) t1 (by assumption)) (cwV 1 hts gX7_holds_X6_isAttributeSet rfl rfl rfl (by decide +kernel) ⟨Nat.le_of_ble_eq_true rfl, Nat.le_of_ble_eq_true rfl⟩) (hP.sub (ws' := [(ht, .inr (5, ft))]) [1] rfl) (hK.sub (tys' := []) [] rfl) (va_recv hK hP (ci := 5) (q0 := 1) rfl rfl) rfl rfl hl.1 rfl (lv_room (Nat.le_of_ble_eq_true rfl)) dX7_holds_5 ⟨Nat.le_of_ble_eq_true rfl, Nat.le_of_ble_eq_true rfl⟩ ?_
  refine lv_if_eq (tgt := 22) hx hb dX7_holds_8 (by decide) (fun c_8 => ?_) (fun c_8 => ?_)
  · have c_8 := b2_0.mp c_8
    exact Bool.noConfusion (hb1.symm.trans c_8)
  · have c_8 := b2_n0.mp c_8
    refine lv_aload_n hx hb dX7_holds_11 rfl (lv_at hl 0 rfl) ?_
    refine va_get (D := D) (ci := 6) (v := .ref ht) (C := RX7) (T := TX7) (N := 5) hx hb hts (by decide +kernel) hown hK hP 0 rfl rfl 0 (by decide) (hts (.fieldLink RX7 12 "ConceptTable" "table" "LConceptTable$Table;") (by decide +kernel)) (fun _ h9 => h9) c0 dX7_holds_12 ?_
    refine lv_iload_n hx hb dX7_holds_15 rfl (lv_at hl 2 rfl) ?_
    refine rd_V (As := [.int (nI b)]) (rest := []) ⟨hx, hb, hml, hown, hts⟩ (c_X6_isAttributeSet l D ht ft n (nI b) t1 (by assumption)) (cwV 1 hts gX7_holds_X6_isAttributeSet rfl rfl rfl (by decide +kernel) ⟨Nat.le_of_ble_eq_true rfl, Nat.le_of_ble_eq_true rfl⟩) (hP.sub (ws' := [(ht, .inr (5, ft))]) [1] rfl) (hK.sub (tys' := []) [] rfl) (va_recv hK hP (ci := 5) (q0 := 1) rfl rfl) rfl rfl hl.1 rfl (lv_room (Nat.le_of_ble_eq_true rfl)) dX7_holds_16 ⟨Nat.le_of_ble_eq_true rfl, Nat.le_of_ble_eq_true rfl⟩ ?_
    refine lv_if_ne (tgt := 25) hx hb dX7_holds_19 (by decide) (fun c_19 => ?_) (fun c_19 => ?_)
    · have c_19 := b2_n0.mp c_19
      refine lv_aload_n hx hb dX7_holds_25 rfl (lv_at hl 0 rfl) ?_
      refine va_get (D := D) (ci := 6) (v := .ref ht) (C := RX7) (T := TX7) (N := 5) hx hb hts (by decide +kernel) hown hK hP 0 rfl rfl 0 (by decide) (hts (.fieldLink RX7 12 "ConceptTable" "table" "LConceptTable$Table;") (by decide +kernel)) (fun _ h9 => h9) c0 dX7_holds_26 ?_
      refine lv_iload_n hx hb dX7_holds_29 rfl (lv_at hl 1 rfl) ?_
      refine rd_V (As := [.int (nI a)]) (rest := []) ⟨hx, hb, hml, hown, hts⟩ (c_X6_closureOf l D ht ft hro cI n o r a t0 t1 t2 (by assumption) (by assumption) (by assumption)) (cwV 1 hts gX7_holds_X6_closureOf rfl rfl rfl (by decide +kernel) ⟨Nat.le_of_ble_eq_true rfl, Nat.le_of_ble_eq_true rfl⟩) (hP.sub (ws' := [(ht, .inr (5, ft)), (hro, .inl (cI, 20, .inl (fun i_ => nI (r i_))))]) [1, 2] rfl) (hK.sub (tys' := [(cI, .int)]) [0] rfl) (va_recv hK hP (ci := 5) (q0 := 1) rfl rfl) rfl rfl hl.1 rfl (lv_room (Nat.le_of_ble_eq_true rfl)) dX7_holds_30 ⟨Nat.le_of_ble_eq_true rfl, Nat.le_of_ble_eq_true rfl⟩ ?_
      refine lv_iload_n hx hb dX7_holds_33 rfl (lv_at hl 2 rfl) ?_
      refine rd_S (As := [.int (nI (clo r n o a)), .int (nI b)]) (rest := []) ⟨hx, hb, hml, hown, hts⟩ (c_X5_hasAll_N l D (clo r n o a) b (by assumption)) (va_cwS 2 hts gX7_holds_X5_hasAll rfl rfl rfl (by decide +kernel) ⟨Nat.le_of_ble_eq_true rfl, Nat.le_of_ble_eq_true rfl⟩) (hP.sub (ws' := []) [] rfl) (hK.sub (tys' := []) [] rfl) rfl rfl hl.1 rfl (lv_room (Nat.le_of_ble_eq_true rfl)) dX7_holds_34 ⟨Nat.le_of_ble_eq_true rfl, Nat.le_of_ble_eq_true rfl⟩ ?_
      refine rd_S (As := [.int (b2 (sN b (clo r n o a)))]) (rest := []) ⟨hx, hb, hml, hown, hts⟩ (c_X7_asNumber l D (sN b (clo r n o a)) ) (va_cwS 1 hts gX7_holds_X7_asNumber rfl rfl rfl (by decide +kernel) ⟨Nat.le_of_ble_eq_true rfl, Nat.le_of_ble_eq_true rfl⟩) (hP.sub (ws' := []) [] rfl) (hK.sub (tys' := []) [] rfl) rfl rfl hl.1 rfl (lv_room (Nat.le_of_ble_eq_true rfl)) dX7_holds_37 ⟨Nat.le_of_ble_eq_true rfl, Nat.le_of_ble_eq_true rfl⟩ ?_
      have e_ret : (b2 (sN b (clo r n o a))) = (b2 (sN b (clo r n o a))) := by rfl
      exact W.iret (v := (b2 (sN b (clo r n o a)))) hx hb hr (fun t ht hW => ⟨congrArg (fun z_ => Outcome.returned (some (Value.int z_))) e_ret, ht⟩) (fun q h => by cases h) dX7_holds_40
    · have c_19 := b2_0.mp c_19
      exact Bool.noConfusion (hb2.symm.trans c_19)

set_option maxHeartbeats 4000000 in
set_option maxRecDepth 100000 in
theorem c_X7_needed_bad (l : Launch) (D : va_G) (h0 : Nat) (fs : List Value) (ht : Nat) (ft : List Value) (n : Nat) (x : Int32) (c0 : fs[0]? = some (.ref ht)) (t1 : ft[1]? = some (.int (nI n))) (hb_ : (decide (¬ x < 0) && decide (¬ nI n ≤ x)) = false) : Met l yX7_needed wsX7_needed ({ frames := 1, cells := 0, slots := 0, locals := 21 }) (va_Pc [.ref h0, .int x] (fun U => va_P D vwCl [(h0, .inr (6, fs)), (ht, .inr (5, ft))] U.heap ∧ va_K D vwCl [] U)) (QcRead (-2)) 0 0 (fun _ => False) := by
  refine Met.ofW (cc := cX7_needed) (maxL := 2) (ret := (some .int)) (by decide) rfl ?_
  intro p e s m args below meth c s₁ B hml hv
  obtain ⟨rfl, hP, hK⟩ := hv
  have hx := B.exec
  have hb := B.bytes
  have hr := B.returns
  have hts := atoms_spec (ws := wsX7_needed) B.pre
  have hown : s.vm.findClass RX7 = some m.cls := findClass_of_methodNamed B.named
  have hlocks := B.notSynchronized
  have hl := lv_entry ([.ref h0, .int x]) (n := 2) (Nat.le_of_ble_eq_true rfl)
  rw [lg_entry_eq]
  generalize (lg_sl ([.ref h0, .int x]) ++ List.replicate (2 - (lg_sl ([.ref h0, .int x])).length) Slot.unset).toArray = ls at hl ⊢
  have hl : lv_has ls 2 [(0, .ref h0), (1, .int x)] := hl
  refine lv_aload_n hx hb dX7_needed_0 rfl (lv_at hl 0 rfl) ?_
  refine va_get (D := D) (ci := 6) (v := .ref ht) (C := RX7) (T := TX7) (N := 5) hx hb hts (by decide +kernel) hown hK hP 0 rfl rfl 0 (by decide) (hts (.fieldLink RX7 12 "ConceptTable" "table" "LConceptTable$Table;") (by decide +kernel)) (fun _ h9 => h9) c0 dX7_needed_1 ?_
  refine lv_iload_n hx hb dX7_needed_4 rfl (lv_at hl 1 rfl) ?_
  refine rd_V (As := [.int x]) (rest := []) ⟨hx, hb, hml, hown, hts⟩ (c_X6_isAttribute l D ht ft n x t1) (cwV 1 hts gX7_needed_X6_isAttribute rfl rfl rfl (by decide +kernel) ⟨Nat.le_of_ble_eq_true rfl, Nat.le_of_ble_eq_true rfl⟩) (hP.sub (ws' := [(ht, .inr (5, ft))]) [1] rfl) (hK.sub (tys' := []) [] rfl) (va_recv hK hP (ci := 5) (q0 := 1) rfl rfl) rfl rfl hl.1 rfl (lv_room (Nat.le_of_ble_eq_true rfl)) dX7_needed_5 ⟨Nat.le_of_ble_eq_true rfl, Nat.le_of_ble_eq_true rfl⟩ ?_
  refine lv_if_eq (tgt := 25) hx hb dX7_needed_8 (by decide) (fun c_8 => ?_) (fun c_8 => ?_)
  · have c_8 := b2_0.mp c_8
    refine lv_bipush (v := -2) hx hb dX7_needed_25 (by decide) ?_
    have e_ret : (-2 : Int32) = (-2) := by rfl
    exact W.iret (v := (-2 : Int32)) hx hb hr (fun t ht hW => ⟨congrArg (fun z_ => Outcome.returned (some (Value.int z_))) e_ret, ht⟩) (fun q h => by cases h) dX7_needed_27
  · have c_8 := b2_n0.mp c_8
    exact Bool.noConfusion (hb_.symm.trans c_8)

set_option maxHeartbeats 4000000 in
set_option maxRecDepth 100000 in
theorem c_X7_needed_ok (l : Launch) (D : va_G) (h0 : Nat) (fs : List Value) (ht : Nat) (ft : List Value) (hro : Nat) (cI : ClassId) (r : Nat → Nat) (n : Nat) (o : Nat) (a : Nat) (c0 : fs[0]? = some (.ref ht)) (t0 : ft[0]? = some (.ref hro)) (t1 : ft[1]? = some (.int (nI n))) (t2 : ft[2]? = some (.int (nI o))) (hn : n ≤ 12) (ho : o ≤ 20) (ha : a < n) : Met l yX7_needed wsX7_needed ({ frames := 3, cells := 0, slots := 0, locals := 68 }) (va_Pc [.ref h0, .int (nI a)] (fun U => va_P D vwCl [(h0, .inr (6, fs)), (ht, .inr (5, ft)), (hro, .inl (cI, 20, .inl (fun i_ => nI (r i_))))] U.heap ∧ va_K D vwCl [(cI, .int)] U)) (QcRead (b2 (decide (¬ ext r (nda r o (ext r (2 ^ a) o) n) o = ext r (2 ^ a) o)))) 0 0 (fun _ => False) := by
  refine Met.ofW (cc := cX7_needed) (maxL := 2) (ret := (some .int)) (by decide) rfl ?_
  intro p e s m args below meth c s₁ B hml hv
  obtain ⟨rfl, hP, hK⟩ := hv
  have hx := B.exec
  have hb := B.bytes
  have hr := B.returns
  have hts := atoms_spec (ws := wsX7_needed) B.pre
  have hown : s.vm.findClass RX7 = some m.cls := findClass_of_methodNamed B.named
  have hlocks := B.notSynchronized
  have hl := lv_entry ([.ref h0, .int (nI a)]) (n := 2) (Nat.le_of_ble_eq_true rfl)
  rw [lg_entry_eq]
  generalize (lg_sl ([.ref h0, .int (nI a)]) ++ List.replicate (2 - (lg_sl ([.ref h0, .int (nI a)])).length) Slot.unset).toArray = ls at hl ⊢
  have hl : lv_has ls 2 [(0, .ref h0), (1, .int (nI a))] := hl
  refine lv_aload_n hx hb dX7_needed_0 rfl (lv_at hl 0 rfl) ?_
  refine va_get (D := D) (ci := 6) (v := .ref ht) (C := RX7) (T := TX7) (N := 5) hx hb hts (by decide +kernel) hown hK hP 0 rfl rfl 0 (by decide) (hts (.fieldLink RX7 12 "ConceptTable" "table" "LConceptTable$Table;") (by decide +kernel)) (fun _ h9 => h9) c0 dX7_needed_1 ?_
  refine lv_iload_n hx hb dX7_needed_4 rfl (lv_at hl 1 rfl) ?_
  refine rd_V (As := [.int (nI a)]) (rest := []) ⟨hx, hb, hml, hown, hts⟩ (c_X6_isAttribute l D ht ft n (nI a) t1) (cwV 1 hts gX7_needed_X6_isAttribute rfl rfl rfl (by decide +kernel) ⟨Nat.le_of_ble_eq_true rfl, Nat.le_of_ble_eq_true rfl⟩) (hP.sub (ws' := [(ht, .inr (5, ft))]) [1] rfl) (hK.sub (tys' := []) [] rfl) (va_recv hK hP (ci := 5) (q0 := 1) rfl rfl) rfl rfl hl.1 rfl (lv_room (Nat.le_of_ble_eq_true rfl)) dX7_needed_5 ⟨Nat.le_of_ble_eq_true rfl, Nat.le_of_ble_eq_true rfl⟩ ?_
  refine lv_if_eq (tgt := 25) hx hb dX7_needed_8 (by decide) (fun c_8 => ?_) (fun c_8 => ?_)
  · have c_8 := b2_0.mp c_8
    exact Bool.noConfusion (c_8.symm.trans (ib_t (by omega) ha))
  · have c_8 := b2_n0.mp c_8
    refine lv_aload_n hx hb dX7_needed_11 rfl (lv_at hl 0 rfl) ?_
    refine va_get (D := D) (ci := 6) (v := .ref ht) (C := RX7) (T := TX7) (N := 5) hx hb hts (by decide +kernel) hown hK hP 0 rfl rfl 0 (by decide) (hts (.fieldLink RX7 12 "ConceptTable" "table" "LConceptTable$Table;") (by decide +kernel)) (fun _ h9 => h9) c0 dX7_needed_12 ?_
    refine lv_iload_n hx hb dX7_needed_15 rfl (lv_at hl 1 rfl) ?_
    refine rd_V (As := [.int (nI a)]) (rest := []) ⟨hx, hb, hml, hown, hts⟩ (c_X6_needsAttribute l D ht ft hro cI n o r a t0 t1 t2 hn ho ha) (cwV 1 hts gX7_needed_X6_needsAttribute rfl rfl rfl (by decide +kernel) ⟨Nat.le_of_ble_eq_true rfl, Nat.le_of_ble_eq_true rfl⟩) (hP.sub (ws' := [(ht, .inr (5, ft)), (hro, .inl (cI, 20, .inl (fun i_ => nI (r i_))))]) [1, 2] rfl) (hK.sub (tys' := [(cI, .int)]) [0] rfl) (va_recv hK hP (ci := 5) (q0 := 1) rfl rfl) rfl rfl hl.1 rfl (lv_room (Nat.le_of_ble_eq_true rfl)) dX7_needed_16 ⟨Nat.le_of_ble_eq_true rfl, Nat.le_of_ble_eq_true rfl⟩ ?_
    refine rd_S (As := [.int (b2 (decide (¬ ext r (nda r o (ext r (2 ^ a) o) n) o = ext r (2 ^ a) o)))]) (rest := []) ⟨hx, hb, hml, hown, hts⟩ (c_X7_asNumber l D (decide (¬ ext r (nda r o (ext r (2 ^ a) o) n) o = ext r (2 ^ a) o)) ) (va_cwS 1 hts gX7_needed_X7_asNumber rfl rfl rfl (by decide +kernel) ⟨Nat.le_of_ble_eq_true rfl, Nat.le_of_ble_eq_true rfl⟩) (hP.sub (ws' := []) [] rfl) (hK.sub (tys' := []) [] rfl) rfl rfl hl.1 rfl (lv_room (Nat.le_of_ble_eq_true rfl)) dX7_needed_19 ⟨Nat.le_of_ble_eq_true rfl, Nat.le_of_ble_eq_true rfl⟩ ?_
    refine lv_goto (tgt := 27) hx hb dX7_needed_22 (by decide) ?_
    have e_ret : (b2 (decide (¬ ext r (nda r o (ext r (2 ^ a) o) n) o = ext r (2 ^ a) o))) = (b2 (decide (¬ ext r (nda r o (ext r (2 ^ a) o) n) o = ext r (2 ^ a) o))) := by rfl
    exact W.iret (v := (b2 (decide (¬ ext r (nda r o (ext r (2 ^ a) o) n) o = ext r (2 ^ a) o)))) hx hb hr (fun t ht hW => ⟨congrArg (fun z_ => Outcome.returned (some (Value.int z_))) e_ret, ht⟩) (fun q h => by cases h) dX7_needed_27

set_option maxHeartbeats 4000000 in
set_option maxRecDepth 100000 in
theorem c_X7_neededObject_bad (l : Launch) (D : va_G) (h0 : Nat) (fs : List Value) (ht : Nat) (ft : List Value) (o : Nat) (x : Int32) (c0 : fs[0]? = some (.ref ht)) (t2 : ft[2]? = some (.int (nI o))) (hb_ : (decide (¬ x < 0) && decide (¬ nI o ≤ x)) = false) : Met l yX7_neededObject wsX7_neededObject ({ frames := 1, cells := 0, slots := 0, locals := 21 }) (va_Pc [.ref h0, .int x] (fun U => va_P D vwCl [(h0, .inr (6, fs)), (ht, .inr (5, ft))] U.heap ∧ va_K D vwCl [] U)) (QcRead (-2)) 0 0 (fun _ => False) := by
  refine Met.ofW (cc := cX7_neededObject) (maxL := 2) (ret := (some .int)) (by decide) rfl ?_
  intro p e s m args below meth c s₁ B hml hv
  obtain ⟨rfl, hP, hK⟩ := hv
  have hx := B.exec
  have hb := B.bytes
  have hr := B.returns
  have hts := atoms_spec (ws := wsX7_neededObject) B.pre
  have hown : s.vm.findClass RX7 = some m.cls := findClass_of_methodNamed B.named
  have hlocks := B.notSynchronized
  have hl := lv_entry ([.ref h0, .int x]) (n := 2) (Nat.le_of_ble_eq_true rfl)
  rw [lg_entry_eq]
  generalize (lg_sl ([.ref h0, .int x]) ++ List.replicate (2 - (lg_sl ([.ref h0, .int x])).length) Slot.unset).toArray = ls at hl ⊢
  have hl : lv_has ls 2 [(0, .ref h0), (1, .int x)] := hl
  refine lv_aload_n hx hb dX7_neededObject_0 rfl (lv_at hl 0 rfl) ?_
  refine va_get (D := D) (ci := 6) (v := .ref ht) (C := RX7) (T := TX7) (N := 5) hx hb hts (by decide +kernel) hown hK hP 0 rfl rfl 0 (by decide) (hts (.fieldLink RX7 12 "ConceptTable" "table" "LConceptTable$Table;") (by decide +kernel)) (fun _ h9 => h9) c0 dX7_neededObject_1 ?_
  refine lv_iload_n hx hb dX7_neededObject_4 rfl (lv_at hl 1 rfl) ?_
  refine rd_V (As := [.int x]) (rest := []) ⟨hx, hb, hml, hown, hts⟩ (c_X6_isObject l D ht ft o x t2) (cwV 1 hts gX7_neededObject_X6_isObject rfl rfl rfl (by decide +kernel) ⟨Nat.le_of_ble_eq_true rfl, Nat.le_of_ble_eq_true rfl⟩) (hP.sub (ws' := [(ht, .inr (5, ft))]) [1] rfl) (hK.sub (tys' := []) [] rfl) (va_recv hK hP (ci := 5) (q0 := 1) rfl rfl) rfl rfl hl.1 rfl (lv_room (Nat.le_of_ble_eq_true rfl)) dX7_neededObject_5 ⟨Nat.le_of_ble_eq_true rfl, Nat.le_of_ble_eq_true rfl⟩ ?_
  refine lv_if_eq (tgt := 25) hx hb dX7_neededObject_8 (by decide) (fun c_8 => ?_) (fun c_8 => ?_)
  · have c_8 := b2_0.mp c_8
    refine lv_bipush (v := -2) hx hb dX7_neededObject_25 (by decide) ?_
    have e_ret : (-2 : Int32) = (-2) := by rfl
    exact W.iret (v := (-2 : Int32)) hx hb hr (fun t ht hW => ⟨congrArg (fun z_ => Outcome.returned (some (Value.int z_))) e_ret, ht⟩) (fun q h => by cases h) dX7_neededObject_27
  · have c_8 := b2_n0.mp c_8
    exact Bool.noConfusion (hb_.symm.trans c_8)

set_option maxHeartbeats 4000000 in
set_option maxRecDepth 100000 in
theorem c_X7_neededObject_ok (l : Launch) (D : va_G) (h0 : Nat) (fs : List Value) (ht : Nat) (ft : List Value) (hro : Nat) (cI : ClassId) (r : Nat → Nat) (n : Nat) (o : Nat) (a : Nat) (c0 : fs[0]? = some (.ref ht)) (t0 : ft[0]? = some (.ref hro)) (t1 : ft[1]? = some (.int (nI n))) (t2 : ft[2]? = some (.int (nI o))) (hn : n ≤ 12) (ho : o ≤ 20) (hr_ : ∀ i, r i < 4096) (ha : a < o) : Met l yX7_neededObject wsX7_neededObject ({ frames := 4, cells := 0, slots := 0, locals := 87 }) (va_Pc [.ref h0, .int (nI a)] (fun U => va_P D vwCl [(h0, .inr (6, fs)), (ht, .inr (5, ft)), (hro, .inl (cI, 20, .inl (fun i_ => nI (r i_))))] U.heap ∧ va_K D vwCl [(cI, .int)] U)) (QcRead (b2 (decide (¬ com r n (ndo r (r a) o) o = r a)))) 0 0 (fun _ => False) := by
  refine Met.ofW (cc := cX7_neededObject) (maxL := 2) (ret := (some .int)) (by decide) rfl ?_
  intro p e s m args below meth c s₁ B hml hv
  obtain ⟨rfl, hP, hK⟩ := hv
  have hx := B.exec
  have hb := B.bytes
  have hr := B.returns
  have hts := atoms_spec (ws := wsX7_neededObject) B.pre
  have hown : s.vm.findClass RX7 = some m.cls := findClass_of_methodNamed B.named
  have hlocks := B.notSynchronized
  have hl := lv_entry ([.ref h0, .int (nI a)]) (n := 2) (Nat.le_of_ble_eq_true rfl)
  rw [lg_entry_eq]
  generalize (lg_sl ([.ref h0, .int (nI a)]) ++ List.replicate (2 - (lg_sl ([.ref h0, .int (nI a)])).length) Slot.unset).toArray = ls at hl ⊢
  have hl : lv_has ls 2 [(0, .ref h0), (1, .int (nI a))] := hl
  refine lv_aload_n hx hb dX7_neededObject_0 rfl (lv_at hl 0 rfl) ?_
  refine va_get (D := D) (ci := 6) (v := .ref ht) (C := RX7) (T := TX7) (N := 5) hx hb hts (by decide +kernel) hown hK hP 0 rfl rfl 0 (by decide) (hts (.fieldLink RX7 12 "ConceptTable" "table" "LConceptTable$Table;") (by decide +kernel)) (fun _ h9 => h9) c0 dX7_neededObject_1 ?_
  refine lv_iload_n hx hb dX7_neededObject_4 rfl (lv_at hl 1 rfl) ?_
  refine rd_V (As := [.int (nI a)]) (rest := []) ⟨hx, hb, hml, hown, hts⟩ (c_X6_isObject l D ht ft o (nI a) t2) (cwV 1 hts gX7_neededObject_X6_isObject rfl rfl rfl (by decide +kernel) ⟨Nat.le_of_ble_eq_true rfl, Nat.le_of_ble_eq_true rfl⟩) (hP.sub (ws' := [(ht, .inr (5, ft))]) [1] rfl) (hK.sub (tys' := []) [] rfl) (va_recv hK hP (ci := 5) (q0 := 1) rfl rfl) rfl rfl hl.1 rfl (lv_room (Nat.le_of_ble_eq_true rfl)) dX7_neededObject_5 ⟨Nat.le_of_ble_eq_true rfl, Nat.le_of_ble_eq_true rfl⟩ ?_
  refine lv_if_eq (tgt := 25) hx hb dX7_neededObject_8 (by decide) (fun c_8 => ?_) (fun c_8 => ?_)
  · have c_8 := b2_0.mp c_8
    exact Bool.noConfusion (c_8.symm.trans (ib_t (by omega) ha))
  · have c_8 := b2_n0.mp c_8
    refine lv_aload_n hx hb dX7_neededObject_11 rfl (lv_at hl 0 rfl) ?_
    refine va_get (D := D) (ci := 6) (v := .ref ht) (C := RX7) (T := TX7) (N := 5) hx hb hts (by decide +kernel) hown hK hP 0 rfl rfl 0 (by decide) (hts (.fieldLink RX7 12 "ConceptTable" "table" "LConceptTable$Table;") (by decide +kernel)) (fun _ h9 => h9) c0 dX7_neededObject_12 ?_
    refine lv_iload_n hx hb dX7_neededObject_15 rfl (lv_at hl 1 rfl) ?_
    refine rd_V (As := [.int (nI a)]) (rest := []) ⟨hx, hb, hml, hown, hts⟩ (c_X6_needsObject l D ht ft hro cI n o r a t0 t1 t2 hn ho hr_ ha) (cwV 1 hts gX7_neededObject_X6_needsObject rfl rfl rfl (by decide +kernel) ⟨Nat.le_of_ble_eq_true rfl, Nat.le_of_ble_eq_true rfl⟩) (hP.sub (ws' := [(ht, .inr (5, ft)), (hro, .inl (cI, 20, .inl (fun i_ => nI (r i_))))]) [1, 2] rfl) (hK.sub (tys' := [(cI, .int)]) [0] rfl) (va_recv hK hP (ci := 5) (q0 := 1) rfl rfl) rfl rfl hl.1 rfl (lv_room (Nat.le_of_ble_eq_true rfl)) dX7_neededObject_16 ⟨Nat.le_of_ble_eq_true rfl, Nat.le_of_ble_eq_true rfl⟩ ?_
    refine rd_S (As := [.int (b2 (decide (¬ com r n (ndo r (r a) o) o = r a)))]) (rest := []) ⟨hx, hb, hml, hown, hts⟩ (c_X7_asNumber l D (decide (¬ com r n (ndo r (r a) o) o = r a)) ) (va_cwS 1 hts gX7_neededObject_X7_asNumber rfl rfl rfl (by decide +kernel) ⟨Nat.le_of_ble_eq_true rfl, Nat.le_of_ble_eq_true rfl⟩) (hP.sub (ws' := []) [] rfl) (hK.sub (tys' := []) [] rfl) rfl rfl hl.1 rfl (lv_room (Nat.le_of_ble_eq_true rfl)) dX7_neededObject_19 ⟨Nat.le_of_ble_eq_true rfl, Nat.le_of_ble_eq_true rfl⟩ ?_
    refine lv_goto (tgt := 27) hx hb dX7_neededObject_22 (by decide) ?_
    have e_ret : (b2 (decide (¬ com r n (ndo r (r a) o) o = r a))) = (b2 (decide (¬ com r n (ndo r (r a) o) o = r a))) := by rfl
    exact W.iret (v := (b2 (decide (¬ com r n (ndo r (r a) o) o = r a)))) hx hb hr (fun t ht hW => ⟨congrArg (fun z_ => Outcome.returned (some (Value.int z_))) e_ret, ht⟩) (fun q h => by cases h) dX7_neededObject_27

set_option maxHeartbeats 4000000 in
set_option maxRecDepth 100000 in
theorem c_X7_accepted_bad (l : Launch) (D : va_G) (h0 : Nat) (fs : List Value) (i : Int32) (w : Int32) (hb_ : (decide (¬ w < 0) && decide (¬ (1 : Int32) < w)) = false) : Met l yX7_accepted wsX7_accepted ({ frames := 0, cells := 0, slots := 0, locals := 0 }) (va_Pc [.ref h0, .int i, .int w] (fun U => va_P D vwCl [(h0, .inr (6, fs))] U.heap ∧ va_K D vwCl [] U)) (QcRead (-2)) 0 0 (fun _ => False) := by
  refine Met.ofW (cc := cX7_accepted) (maxL := 4) (ret := (some .int)) (by decide) rfl ?_
  intro p e s m args below meth c s₁ B hml hv
  obtain ⟨rfl, hP, hK⟩ := hv
  have hx := B.exec
  have hb := B.bytes
  have hr := B.returns
  have hts := atoms_spec (ws := wsX7_accepted) B.pre
  have hown : s.vm.findClass RX7 = some m.cls := findClass_of_methodNamed B.named
  have hlocks := B.notSynchronized
  have hl := lv_entry ([.ref h0, .int i, .int w]) (n := 4) (Nat.le_of_ble_eq_true rfl)
  rw [lg_entry_eq]
  generalize (lg_sl ([.ref h0, .int i, .int w]) ++ List.replicate (4 - (lg_sl ([.ref h0, .int i, .int w])).length) Slot.unset).toArray = ls at hl ⊢
  have hl : lv_has ls 4 [(0, .ref h0), (1, .int i), (2, .int w)] := hl
  refine lv_iload_n hx hb dX7_accepted_0 rfl (lv_at hl 2 rfl) ?_
  refine lv_if_lt (tgt := 9) hx hb dX7_accepted_1 (by decide) (fun c_1 => ?_) (fun c_1 => ?_)
  · refine lv_bipush (v := -2) hx hb dX7_accepted_9 (by decide) ?_
    have e_ret : (-2 : Int32) = (-2) := by rfl
    exact W.iret (v := (-2 : Int32)) hx hb hr (fun t ht hW => ⟨congrArg (fun z_ => Outcome.returned (some (Value.int z_))) e_ret, ht⟩) (fun q h => by cases h) dX7_accepted_11
  · refine lv_iload_n hx hb dX7_accepted_4 rfl (lv_at hl 2 rfl) ?_
    refine lv_iconst (v := 1) hx hb dX7_accepted_5 (by decide) ?_
    refine lv_icmp_le (tgt := 12) hx hb dX7_accepted_6 (by decide) (fun c_6 => ?_) (fun c_6 => ?_)
    · exact absurd hb_ (by rw [decide_eq_true c_1, decide_eq_true (Int32.not_lt.mpr c_6)]; decide)
    · refine lv_bipush (v := -2) hx hb dX7_accepted_9 (by decide) ?_
      have e_ret : (-2 : Int32) = (-2) := by rfl
      exact W.iret (v := (-2 : Int32)) hx hb hr (fun t ht hW => ⟨congrArg (fun z_ => Outcome.returned (some (Value.int z_))) e_ret, ht⟩) (fun q h => by cases h) dX7_accepted_11

set_option maxHeartbeats 4000000 in
set_option maxRecDepth 100000 in
theorem c_X7_accepted_0 (l : Launch) (D : va_G) (h0 : Nat) (fs : List Value) (hiq : Nat) (fi : List Value) (hag : Nat) (fr : List Value) (az : Nat) (hai : Nat) (hac : Nat) (cI : ClassId) (NA : Nat) (aif : Nat → Nat) (ath : Nat → Nat) (i : Int32) (c2 : fs[2]? = some (.ref hiq)) (i0 : fi[0]? = some (.ref hag)) (r0 : fr[0]? = some (.ref hai)) (r1 : fr[1]? = some (.ref hac)) (r2 : fr[2]? = some (.int (nI az))) (haz : az ≤ NA) (hNA : NA ≤ 4096) : Met l yX7_accepted wsX7_accepted ({ frames := 1, cells := 0, slots := 0, locals := 21 }) (va_Pc [.ref h0, .int i, .int (0 : Int32)] (fun U => va_P D vwCl [(h0, .inr (6, fs)), (hiq, .inr (2, fi)), (hag, .inr (4, fr)), (hai, .inl (cI, NA, .inl (fun i_ => nI (aif i_)))), (hac, .inl (cI, NA, .inl (fun i_ => nI (ath i_))))] U.heap ∧ va_K D vwCl [(cI, .int)] U)) (QcRead (if (decide (¬ i < 0) && decide (¬ nI az ≤ i)) = true then nI (aif i.toNatClampNeg) else -1)) 0 0 (fun _ => False) := by
  refine Met.ofW (cc := cX7_accepted) (maxL := 4) (ret := (some .int)) (by decide) rfl ?_
  intro p e s m args below meth c s₁ B hml hv
  obtain ⟨rfl, hP, hK⟩ := hv
  have hx := B.exec
  have hb := B.bytes
  have hr := B.returns
  have hts := atoms_spec (ws := wsX7_accepted) B.pre
  have hown : s.vm.findClass RX7 = some m.cls := findClass_of_methodNamed B.named
  have hlocks := B.notSynchronized
  have hl := lv_entry ([.ref h0, .int i, .int (0 : Int32)]) (n := 4) (Nat.le_of_ble_eq_true rfl)
  rw [lg_entry_eq]
  generalize (lg_sl ([.ref h0, .int i, .int (0 : Int32)]) ++ List.replicate (4 - (lg_sl ([.ref h0, .int i, .int (0 : Int32)])).length) Slot.unset).toArray = ls at hl ⊢
  have hl : lv_has ls 4 [(0, .ref h0), (1, .int i), (2, .int (0 : Int32))] := hl
  refine lv_iload_n hx hb dX7_accepted_0 rfl (lv_at hl 2 rfl) ?_
  refine lv_if_lt (tgt := 9) hx hb dX7_accepted_1 (by decide) (fun c_1 => ?_) (fun c_1 => ?_)
  · exact absurd c_1 (by decide)
  · refine lv_iload_n hx hb dX7_accepted_4 rfl (lv_at hl 2 rfl) ?_
    refine lv_iconst (v := 1) hx hb dX7_accepted_5 (by decide) ?_
    refine lv_icmp_le (tgt := 12) hx hb dX7_accepted_6 (by decide) (fun c_6 => ?_) (fun c_6 => ?_)
    · refine lv_aload_n hx hb dX7_accepted_12 rfl (lv_at hl 0 rfl) ?_
      refine va_get (D := D) (ci := 6) (v := .ref hiq) (C := RX7) (T := TX7) (N := 5) hx hb hts (by decide +kernel) hown hK hP 0 rfl rfl 2 (by decide) (hts (.fieldLink RX7 26 "ConceptTable" "inquiry" "LConceptTable$Inquiry;") (by decide +kernel)) (fun _ h9 => h9) c2 dX7_accepted_13 ?_
      refine rd_VR (As := []) (rest := []) ⟨hx, hb, hml, hown, hts⟩ (c_X2_agreed l D hiq fi hag i0) (cwV 0 hts gX7_accepted_X2_agreed rfl rfl rfl (by decide +kernel) ⟨Nat.le_of_ble_eq_true rfl, Nat.le_of_ble_eq_true rfl⟩) (hP.sub (ws' := [(hiq, .inr (2, fi))]) [1] rfl) (hK.sub (tys' := []) [] rfl) (va_recv hK hP (ci := 2) (q0 := 1) rfl rfl) rfl rfl hl.1 rfl (lv_room (Nat.le_of_ble_eq_true rfl)) dX7_accepted_16 ⟨Nat.le_of_ble_eq_true rfl, Nat.le_of_ble_eq_true rfl⟩ ?_
      refine lv_astore_n (lv' := [(3, .ref hag), (0, .ref h0), (1, .int i), (2, .int (0 : Int32))]) hx hb dX7_accepted_19 rfl hl (by decide) rfl (fun ls hl => ?_)
      refine lv_iload_n hx hb dX7_accepted_20 rfl (lv_at hl 3 rfl) ?_
      refine lv_if_ne (tgt := 32) hx hb dX7_accepted_21 (by decide) (fun c_21 => ?_) (fun c_21 => ?_)
      · exact absurd c_21 (by decide)
      · refine lv_aload_n hx hb dX7_accepted_24 rfl (lv_at hl 0 rfl) ?_
        refine lv_iload_n hx hb dX7_accepted_25 rfl (lv_at hl 2 rfl) ?_
        refine rd_V (As := [.int i]) (rest := []) ⟨hx, hb, hml, hown, hts⟩ (c_X4_premise l D hag fr hai cI NA az aif i r0 r2 (by assumption) (by assumption)) (cwV 1 hts gX7_accepted_X4_premise rfl rfl rfl (by decide +kernel) ⟨Nat.le_of_ble_eq_true rfl, Nat.le_of_ble_eq_true rfl⟩) (hP.sub (ws' := [(hag, .inr (4, fr)), (hai, .inl (cI, NA, .inl (fun i_ => nI (aif i_))))]) [2, 3] rfl) (hK.sub (tys' := [(cI, .int)]) [0] rfl) (va_recv hK hP (ci := 4) (q0 := 2) rfl rfl) rfl rfl hl.1 rfl (lv_room (Nat.le_of_ble_eq_true rfl)) dX7_accepted_26 ⟨Nat.le_of_ble_eq_true rfl, Nat.le_of_ble_eq_true rfl⟩ ?_
        refine lv_goto (tgt := 37) hx hb dX7_accepted_29 (by decide) ?_
        have e_ret : (if (decide (¬ i < 0) && decide (¬ nI az ≤ i)) = true then nI (aif i.toNatClampNeg) else -1) = (if (decide (¬ i < 0) && decide (¬ nI az ≤ i)) = true then nI (aif i.toNatClampNeg) else -1) := by rfl
        exact W.iret (v := (if (decide (¬ i < 0) && decide (¬ nI az ≤ i)) = true then nI (aif i.toNatClampNeg) else -1)) hx hb hr (fun t ht hW => ⟨congrArg (fun z_ => Outcome.returned (some (Value.int z_))) e_ret, ht⟩) (fun q h => by cases h) dX7_accepted_37
    · exact absurd c_6 (by decide)

set_option maxHeartbeats 4000000 in
set_option maxRecDepth 100000 in
theorem c_X7_accepted_1 (l : Launch) (D : va_G) (h0 : Nat) (fs : List Value) (hiq : Nat) (fi : List Value) (hag : Nat) (fr : List Value) (az : Nat) (hai : Nat) (hac : Nat) (cI : ClassId) (NA : Nat) (aif : Nat → Nat) (ath : Nat → Nat) (i : Int32) (c2 : fs[2]? = some (.ref hiq)) (i0 : fi[0]? = some (.ref hag)) (r0 : fr[0]? = some (.ref hai)) (r1 : fr[1]? = some (.ref hac)) (r2 : fr[2]? = some (.int (nI az))) (haz : az ≤ NA) (hNA : NA ≤ 4096) : Met l yX7_accepted wsX7_accepted ({ frames := 1, cells := 0, slots := 0, locals := 21 }) (va_Pc [.ref h0, .int i, .int (1 : Int32)] (fun U => va_P D vwCl [(h0, .inr (6, fs)), (hiq, .inr (2, fi)), (hag, .inr (4, fr)), (hai, .inl (cI, NA, .inl (fun i_ => nI (aif i_)))), (hac, .inl (cI, NA, .inl (fun i_ => nI (ath i_))))] U.heap ∧ va_K D vwCl [(cI, .int)] U)) (QcRead (if (decide (¬ i < 0) && decide (¬ nI az ≤ i)) = true then nI (ath i.toNatClampNeg) else -1)) 0 0 (fun _ => False) := by
  refine Met.ofW (cc := cX7_accepted) (maxL := 4) (ret := (some .int)) (by decide) rfl ?_
  intro p e s m args below meth c s₁ B hml hv
  obtain ⟨rfl, hP, hK⟩ := hv
  have hx := B.exec
  have hb := B.bytes
  have hr := B.returns
  have hts := atoms_spec (ws := wsX7_accepted) B.pre
  have hown : s.vm.findClass RX7 = some m.cls := findClass_of_methodNamed B.named
  have hlocks := B.notSynchronized
  have hl := lv_entry ([.ref h0, .int i, .int (1 : Int32)]) (n := 4) (Nat.le_of_ble_eq_true rfl)
  rw [lg_entry_eq]
  generalize (lg_sl ([.ref h0, .int i, .int (1 : Int32)]) ++ List.replicate (4 - (lg_sl ([.ref h0, .int i, .int (1 : Int32)])).length) Slot.unset).toArray = ls at hl ⊢
  have hl : lv_has ls 4 [(0, .ref h0), (1, .int i), (2, .int (1 : Int32))] := hl
  refine lv_iload_n hx hb dX7_accepted_0 rfl (lv_at hl 2 rfl) ?_
  refine lv_if_lt (tgt := 9) hx hb dX7_accepted_1 (by decide) (fun c_1 => ?_) (fun c_1 => ?_)
  · exact absurd c_1 (by decide)
  · refine lv_iload_n hx hb dX7_accepted_4 rfl (lv_at hl 2 rfl) ?_
    refine lv_iconst (v := 1) hx hb dX7_accepted_5 (by decide) ?_
    refine lv_icmp_le (tgt := 12) hx hb dX7_accepted_6 (by decide) (fun c_6 => ?_) (fun c_6 => ?_)
    · refine lv_aload_n hx hb dX7_accepted_12 rfl (lv_at hl 0 rfl) ?_
      refine va_get (D := D) (ci := 6) (v := .ref hiq) (C := RX7) (T := TX7) (N := 5) hx hb hts (by decide +kernel) hown hK hP 0 rfl rfl 2 (by decide) (hts (.fieldLink RX7 26 "ConceptTable" "inquiry" "LConceptTable$Inquiry;") (by decide +kernel)) (fun _ h9 => h9) c2 dX7_accepted_13 ?_
      refine rd_VR (As := []) (rest := []) ⟨hx, hb, hml, hown, hts⟩ (c_X2_agreed l D hiq fi hag i0) (cwV 0 hts gX7_accepted_X2_agreed rfl rfl rfl (by decide +kernel) ⟨Nat.le_of_ble_eq_true rfl, Nat.le_of_ble_eq_true rfl⟩) (hP.sub (ws' := [(hiq, .inr (2, fi))]) [1] rfl) (hK.sub (tys' := []) [] rfl) (va_recv hK hP (ci := 2) (q0 := 1) rfl rfl) rfl rfl hl.1 rfl (lv_room (Nat.le_of_ble_eq_true rfl)) dX7_accepted_16 ⟨Nat.le_of_ble_eq_true rfl, Nat.le_of_ble_eq_true rfl⟩ ?_
      refine lv_astore_n (lv' := [(3, .ref hag), (0, .ref h0), (1, .int i), (2, .int (1 : Int32))]) hx hb dX7_accepted_19 rfl hl (by decide) rfl (fun ls hl => ?_)
      refine lv_iload_n hx hb dX7_accepted_20 rfl (lv_at hl 3 rfl) ?_
      refine lv_if_ne (tgt := 32) hx hb dX7_accepted_21 (by decide) (fun c_21 => ?_) (fun c_21 => ?_)
      · refine lv_aload_n hx hb dX7_accepted_32 rfl (lv_at hl 0 rfl) ?_
        refine lv_iload_n hx hb dX7_accepted_33 rfl (lv_at hl 2 rfl) ?_
        refine rd_V (As := [.int i]) (rest := []) ⟨hx, hb, hml, hown, hts⟩ (c_X4_conclusion l D hag fr hac cI NA az ath i r1 r2 (by assumption) (by assumption)) (cwV 1 hts gX7_accepted_X4_conclusion rfl rfl rfl (by decide +kernel) ⟨Nat.le_of_ble_eq_true rfl, Nat.le_of_ble_eq_true rfl⟩) (hP.sub (ws' := [(hag, .inr (4, fr)), (hac, .inl (cI, NA, .inl (fun i_ => nI (ath i_))))]) [2, 4] rfl) (hK.sub (tys' := [(cI, .int)]) [0] rfl) (va_recv hK hP (ci := 4) (q0 := 2) rfl rfl) rfl rfl hl.1 rfl (lv_room (Nat.le_of_ble_eq_true rfl)) dX7_accepted_34 ⟨Nat.le_of_ble_eq_true rfl, Nat.le_of_ble_eq_true rfl⟩ ?_
        have e_ret : (if (decide (¬ i < 0) && decide (¬ nI az ≤ i)) = true then nI (ath i.toNatClampNeg) else -1) = (if (decide (¬ i < 0) && decide (¬ nI az ≤ i)) = true then nI (ath i.toNatClampNeg) else -1) := by rfl
        exact W.iret (v := (if (decide (¬ i < 0) && decide (¬ nI az ≤ i)) = true then nI (ath i.toNatClampNeg) else -1)) hx hb hr (fun t ht hW => ⟨congrArg (fun z_ => Outcome.returned (some (Value.int z_))) e_ret, ht⟩) (fun q h => by cases h) dX7_accepted_37
      · exact absurd c_21 (by decide)
    · exact absurd c_6 (by decide)

set_option maxHeartbeats 4000000 in
set_option maxRecDepth 100000 in
theorem c_X7_count_0 (l : Launch) (D : va_G) (h0 : Nat) (fs : List Value) (ht : Nat) (ft : List Value) (n : Nat) (c0 : fs[0]? = some (.ref ht)) (t1 : ft[1]? = some (.int (nI n))) : Met l yX7_count wsX7_count ({ frames := 1, cells := 0, slots := 0, locals := 20 }) (va_Pc [.ref h0, .int (0 : Int32)] (fun U => va_P D vwCl [(h0, .inr (6, fs)), (ht, .inr (5, ft))] U.heap ∧ va_K D vwCl [] U)) (QcRead (nI n)) 0 0 (fun _ => False) := by
  refine Met.ofW (cc := cX7_count) (maxL := 2) (ret := (some .int)) (by decide) rfl ?_
  intro p e s m args below meth c s₁ B hml hv
  obtain ⟨rfl, hP, hK⟩ := hv
  have hx := B.exec
  have hb := B.bytes
  have hr := B.returns
  have hts := atoms_spec (ws := wsX7_count) B.pre
  have hown : s.vm.findClass RX7 = some m.cls := findClass_of_methodNamed B.named
  have hlocks := B.notSynchronized
  have hl := lv_entry ([.ref h0, .int (0 : Int32)]) (n := 2) (Nat.le_of_ble_eq_true rfl)
  rw [lg_entry_eq]
  generalize (lg_sl ([.ref h0, .int (0 : Int32)]) ++ List.replicate (2 - (lg_sl ([.ref h0, .int (0 : Int32)])).length) Slot.unset).toArray = ls at hl ⊢
  have hl : lv_has ls 2 [(0, .ref h0), (1, .int (0 : Int32))] := hl
  refine lv_iload_n hx hb dX7_count_0 rfl (lv_at hl 1 rfl) ?_
  refine lv_tableIn (tgt := 36) hx hb dX7_count_1 (by decide) (by decide) (off := 35) rfl (by decide) ?_
  refine lv_aload_n hx hb dX7_count_36 rfl (lv_at hl 0 rfl) ?_
  refine va_get (D := D) (ci := 6) (v := .ref ht) (C := RX7) (T := TX7) (N := 5) hx hb hts (by decide +kernel) hown hK hP 0 rfl rfl 0 (by decide) (hts (.fieldLink RX7 12 "ConceptTable" "table" "LConceptTable$Table;") (by decide +kernel)) (fun _ h9 => h9) c0 dX7_count_37 ?_
  refine rd_V (As := []) (rest := []) ⟨hx, hb, hml, hown, hts⟩ (c_X6_attributes l D ht ft n t1) (cwV 0 hts gX7_count_X6_attributes rfl rfl rfl (by decide +kernel) ⟨Nat.le_of_ble_eq_true rfl, Nat.le_of_ble_eq_true rfl⟩) (hP.sub (ws' := [(ht, .inr (5, ft))]) [1] rfl) (hK.sub (tys' := []) [] rfl) (va_recv hK hP (ci := 5) (q0 := 1) rfl rfl) rfl rfl hl.1 rfl (lv_room (Nat.le_of_ble_eq_true rfl)) dX7_count_40 ⟨Nat.le_of_ble_eq_true rfl, Nat.le_of_ble_eq_true rfl⟩ ?_
  have e_ret : (nI n) = (nI n) := by rfl
  exact W.iret (v := (nI n)) hx hb hr (fun t ht hW => ⟨congrArg (fun z_ => Outcome.returned (some (Value.int z_))) e_ret, ht⟩) (fun q h => by cases h) dX7_count_43

set_option maxHeartbeats 4000000 in
set_option maxRecDepth 100000 in
theorem c_X7_count_1 (l : Launch) (D : va_G) (h0 : Nat) (fs : List Value) (ht : Nat) (ft : List Value) (o : Nat) (c0 : fs[0]? = some (.ref ht)) (t2 : ft[2]? = some (.int (nI o))) : Met l yX7_count wsX7_count ({ frames := 1, cells := 0, slots := 0, locals := 20 }) (va_Pc [.ref h0, .int (1 : Int32)] (fun U => va_P D vwCl [(h0, .inr (6, fs)), (ht, .inr (5, ft))] U.heap ∧ va_K D vwCl [] U)) (QcRead (nI o)) 0 0 (fun _ => False) := by
  refine Met.ofW (cc := cX7_count) (maxL := 2) (ret := (some .int)) (by decide) rfl ?_
  intro p e s m args below meth c s₁ B hml hv
  obtain ⟨rfl, hP, hK⟩ := hv
  have hx := B.exec
  have hb := B.bytes
  have hr := B.returns
  have hts := atoms_spec (ws := wsX7_count) B.pre
  have hown : s.vm.findClass RX7 = some m.cls := findClass_of_methodNamed B.named
  have hlocks := B.notSynchronized
  have hl := lv_entry ([.ref h0, .int (1 : Int32)]) (n := 2) (Nat.le_of_ble_eq_true rfl)
  rw [lg_entry_eq]
  generalize (lg_sl ([.ref h0, .int (1 : Int32)]) ++ List.replicate (2 - (lg_sl ([.ref h0, .int (1 : Int32)])).length) Slot.unset).toArray = ls at hl ⊢
  have hl : lv_has ls 2 [(0, .ref h0), (1, .int (1 : Int32))] := hl
  refine lv_iload_n hx hb dX7_count_0 rfl (lv_at hl 1 rfl) ?_
  refine lv_tableIn (tgt := 44) hx hb dX7_count_1 (by decide) (by decide) (off := 43) rfl (by decide) ?_
  refine lv_aload_n hx hb dX7_count_44 rfl (lv_at hl 0 rfl) ?_
  refine va_get (D := D) (ci := 6) (v := .ref ht) (C := RX7) (T := TX7) (N := 5) hx hb hts (by decide +kernel) hown hK hP 0 rfl rfl 0 (by decide) (hts (.fieldLink RX7 12 "ConceptTable" "table" "LConceptTable$Table;") (by decide +kernel)) (fun _ h9 => h9) c0 dX7_count_45 ?_
  refine rd_V (As := []) (rest := []) ⟨hx, hb, hml, hown, hts⟩ (c_X6_size l D ht ft o t2) (cwV 0 hts gX7_count_X6_size rfl rfl rfl (by decide +kernel) ⟨Nat.le_of_ble_eq_true rfl, Nat.le_of_ble_eq_true rfl⟩) (hP.sub (ws' := [(ht, .inr (5, ft))]) [1] rfl) (hK.sub (tys' := []) [] rfl) (va_recv hK hP (ci := 5) (q0 := 1) rfl rfl) rfl rfl hl.1 rfl (lv_room (Nat.le_of_ble_eq_true rfl)) dX7_count_48 ⟨Nat.le_of_ble_eq_true rfl, Nat.le_of_ble_eq_true rfl⟩ ?_
  have e_ret : (nI o) = (nI o) := by rfl
  exact W.iret (v := (nI o)) hx hb hr (fun t ht hW => ⟨congrArg (fun z_ => Outcome.returned (some (Value.int z_))) e_ret, ht⟩) (fun q h => by cases h) dX7_count_51

set_option maxHeartbeats 4000000 in
set_option maxRecDepth 100000 in
theorem c_X7_count_2 (l : Launch) (D : va_G) (h0 : Nat) (fs : List Value) (hiq : Nat) (fi : List Value) (hag : Nat) (fr : List Value) (az : Nat) (c2 : fs[2]? = some (.ref hiq)) (i0 : fi[0]? = some (.ref hag)) (r2 : fr[2]? = some (.int (nI az))) : Met l yX7_count wsX7_count ({ frames := 1, cells := 0, slots := 0, locals := 20 }) (va_Pc [.ref h0, .int (2 : Int32)] (fun U => va_P D vwCl [(h0, .inr (6, fs)), (hiq, .inr (2, fi)), (hag, .inr (4, fr))] U.heap ∧ va_K D vwCl [] U)) (QcRead (nI az)) 0 0 (fun _ => False) := by
  refine Met.ofW (cc := cX7_count) (maxL := 2) (ret := (some .int)) (by decide) rfl ?_
  intro p e s m args below meth c s₁ B hml hv
  obtain ⟨rfl, hP, hK⟩ := hv
  have hx := B.exec
  have hb := B.bytes
  have hr := B.returns
  have hts := atoms_spec (ws := wsX7_count) B.pre
  have hown : s.vm.findClass RX7 = some m.cls := findClass_of_methodNamed B.named
  have hlocks := B.notSynchronized
  have hl := lv_entry ([.ref h0, .int (2 : Int32)]) (n := 2) (Nat.le_of_ble_eq_true rfl)
  rw [lg_entry_eq]
  generalize (lg_sl ([.ref h0, .int (2 : Int32)]) ++ List.replicate (2 - (lg_sl ([.ref h0, .int (2 : Int32)])).length) Slot.unset).toArray = ls at hl ⊢
  have hl : lv_has ls 2 [(0, .ref h0), (1, .int (2 : Int32))] := hl
  refine lv_iload_n hx hb dX7_count_0 rfl (lv_at hl 1 rfl) ?_
  refine lv_tableIn (tgt := 52) hx hb dX7_count_1 (by decide) (by decide) (off := 51) rfl (by decide) ?_
  refine lv_aload_n hx hb dX7_count_52 rfl (lv_at hl 0 rfl) ?_
  refine va_get (D := D) (ci := 6) (v := .ref hiq) (C := RX7) (T := TX7) (N := 5) hx hb hts (by decide +kernel) hown hK hP 0 rfl rfl 2 (by decide) (hts (.fieldLink RX7 26 "ConceptTable" "inquiry" "LConceptTable$Inquiry;") (by decide +kernel)) (fun _ h9 => h9) c2 dX7_count_53 ?_
  refine rd_VR (As := []) (rest := []) ⟨hx, hb, hml, hown, hts⟩ (c_X2_agreed l D hiq fi hag i0) (cwV 0 hts gX7_count_X2_agreed rfl rfl rfl (by decide +kernel) ⟨Nat.le_of_ble_eq_true rfl, Nat.le_of_ble_eq_true rfl⟩) (hP.sub (ws' := [(hiq, .inr (2, fi))]) [1] rfl) (hK.sub (tys' := []) [] rfl) (va_recv hK hP (ci := 2) (q0 := 1) rfl rfl) rfl rfl hl.1 rfl (lv_room (Nat.le_of_ble_eq_true rfl)) dX7_count_56 ⟨Nat.le_of_ble_eq_true rfl, Nat.le_of_ble_eq_true rfl⟩ ?_
  refine rd_V (As := []) (rest := []) ⟨hx, hb, hml, hown, hts⟩ (c_X4_size l D hag fr az r2) (cwV 0 hts gX7_count_X4_size rfl rfl rfl (by decide +kernel) ⟨Nat.le_of_ble_eq_true rfl, Nat.le_of_ble_eq_true rfl⟩) (hP.sub (ws' := [(hag, .inr (4, fr))]) [2] rfl) (hK.sub (tys' := []) [] rfl) (va_recv hK hP (ci := 4) (q0 := 2) rfl rfl) rfl rfl hl.1 rfl (lv_room (Nat.le_of_ble_eq_true rfl)) dX7_count_59 ⟨Nat.le_of_ble_eq_true rfl, Nat.le_of_ble_eq_true rfl⟩ ?_
  have e_ret : (nI az) = (nI az) := by rfl
  exact W.iret (v := (nI az)) hx hb hr (fun t ht hW => ⟨congrArg (fun z_ => Outcome.returned (some (Value.int z_))) e_ret, ht⟩) (fun q h => by cases h) dX7_count_62

set_option maxHeartbeats 4000000 in
set_option maxRecDepth 100000 in
theorem c_X7_count_3 (l : Launch) (D : va_G) (h0 : Nat) (fs : List Value) (hiq : Nat) (fi : List Value) (op : Bool) (c2 : fs[2]? = some (.ref hiq)) (i1 : fi[1]? = some (.int (b2 op))) : Met l yX7_count wsX7_count ({ frames := 1, cells := 0, slots := 0, locals := 20 }) (va_Pc [.ref h0, .int (3 : Int32)] (fun U => va_P D vwCl [(h0, .inr (6, fs)), (hiq, .inr (2, fi))] U.heap ∧ va_K D vwCl [] U)) (QcRead (b2 op)) 0 0 (fun _ => False) := by
  refine Met.ofW (cc := cX7_count) (maxL := 2) (ret := (some .int)) (by decide) rfl ?_
  intro p e s m args below meth c s₁ B hml hv
  obtain ⟨rfl, hP, hK⟩ := hv
  have hx := B.exec
  have hb := B.bytes
  have hr := B.returns
  have hts := atoms_spec (ws := wsX7_count) B.pre
  have hown : s.vm.findClass RX7 = some m.cls := findClass_of_methodNamed B.named
  have hlocks := B.notSynchronized
  have hl := lv_entry ([.ref h0, .int (3 : Int32)]) (n := 2) (Nat.le_of_ble_eq_true rfl)
  rw [lg_entry_eq]
  generalize (lg_sl ([.ref h0, .int (3 : Int32)]) ++ List.replicate (2 - (lg_sl ([.ref h0, .int (3 : Int32)])).length) Slot.unset).toArray = ls at hl ⊢
  have hl : lv_has ls 2 [(0, .ref h0), (1, .int (3 : Int32))] := hl
  refine lv_iload_n hx hb dX7_count_0 rfl (lv_at hl 1 rfl) ?_
  refine lv_tableIn (tgt := 63) hx hb dX7_count_1 (by decide) (by decide) (off := 62) rfl (by decide) ?_
  refine lv_aload_n hx hb dX7_count_63 rfl (lv_at hl 0 rfl) ?_
  refine va_get (D := D) (ci := 6) (v := .ref hiq) (C := RX7) (T := TX7) (N := 5) hx hb hts (by decide +kernel) hown hK hP 0 rfl rfl 2 (by decide) (hts (.fieldLink RX7 26 "ConceptTable" "inquiry" "LConceptTable$Inquiry;") (by decide +kernel)) (fun _ h9 => h9) c2 dX7_count_64 ?_
  refine rd_V (As := []) (rest := []) ⟨hx, hb, hml, hown, hts⟩ (c_X2_isOpen l D hiq fi op i1) (cwV 0 hts gX7_count_X2_isOpen rfl rfl rfl (by decide +kernel) ⟨Nat.le_of_ble_eq_true rfl, Nat.le_of_ble_eq_true rfl⟩) (hP.sub (ws' := [(hiq, .inr (2, fi))]) [1] rfl) (hK.sub (tys' := []) [] rfl) (va_recv hK hP (ci := 2) (q0 := 1) rfl rfl) rfl rfl hl.1 rfl (lv_room (Nat.le_of_ble_eq_true rfl)) dX7_count_67 ⟨Nat.le_of_ble_eq_true rfl, Nat.le_of_ble_eq_true rfl⟩ ?_
  refine rd_S (As := [.int (b2 op)]) (rest := []) ⟨hx, hb, hml, hown, hts⟩ (c_X7_asNumber l D op ) (va_cwS 1 hts gX7_count_X7_asNumber rfl rfl rfl (by decide +kernel) ⟨Nat.le_of_ble_eq_true rfl, Nat.le_of_ble_eq_true rfl⟩) (hP.sub (ws' := []) [] rfl) (hK.sub (tys' := []) [] rfl) rfl rfl hl.1 rfl (lv_room (Nat.le_of_ble_eq_true rfl)) dX7_count_70 ⟨Nat.le_of_ble_eq_true rfl, Nat.le_of_ble_eq_true rfl⟩ ?_
  have e_ret : (b2 op) = (b2 op) := by rfl
  exact W.iret (v := (b2 op)) hx hb hr (fun t ht hW => ⟨congrArg (fun z_ => Outcome.returned (some (Value.int z_))) e_ret, ht⟩) (fun q h => by cases h) dX7_count_73

set_option maxHeartbeats 4000000 in
set_option maxRecDepth 100000 in
theorem c_X7_count_bad (l : Launch) (D : va_G) (h0 : Nat) (fs : List Value) (w : Int32) (hb_ : w.toInt < 0 ∨ 4 < w.toInt) : Met l yX7_count wsX7_count ({ frames := 0, cells := 0, slots := 0, locals := 0 }) (va_Pc [.ref h0, .int w] (fun U => va_P D vwCl [(h0, .inr (6, fs))] U.heap ∧ va_K D vwCl [] U)) (QcRead (-2)) 0 0 (fun _ => False) := by
  refine Met.ofW (cc := cX7_count) (maxL := 2) (ret := (some .int)) (by decide) rfl ?_
  intro p e s m args below meth c s₁ B hml hv
  obtain ⟨rfl, hP, hK⟩ := hv
  have hx := B.exec
  have hb := B.bytes
  have hr := B.returns
  have hts := atoms_spec (ws := wsX7_count) B.pre
  have hown : s.vm.findClass RX7 = some m.cls := findClass_of_methodNamed B.named
  have hlocks := B.notSynchronized
  have hl := lv_entry ([.ref h0, .int w]) (n := 2) (Nat.le_of_ble_eq_true rfl)
  rw [lg_entry_eq]
  generalize (lg_sl ([.ref h0, .int w]) ++ List.replicate (2 - (lg_sl ([.ref h0, .int w])).length) Slot.unset).toArray = ls at hl ⊢
  have hl : lv_has ls 2 [(0, .ref h0), (1, .int w)] := hl
  refine lv_iload_n hx hb dX7_count_0 rfl (lv_at hl 1 rfl) ?_
  refine lv_tableOut (tgt := 100) hx hb dX7_count_1 hb_ (by decide) ?_
  refine lv_bipush (v := -2) hx hb dX7_count_100 (by decide) ?_
  have e_ret : (-2 : Int32) = (-2) := by rfl
  exact W.iret (v := (-2 : Int32)) hx hb hr (fun t ht hW => ⟨congrArg (fun z_ => Outcome.returned (some (Value.int z_))) e_ret, ht⟩) (fun q h => by cases h) dX7_count_102

set_option maxHeartbeats 4000000 in
set_option maxRecDepth 100000 in
theorem c_X7_frequent (l : Launch) (D : va_G) (h0 : Nat) (fs : List Value) (ht : Nat) (ft : List Value) (hro : Nat) (cI : ClassId) (r : Nat → Nat) (n : Nat) (o : Nat) (hf : Nat) (ff : List Value) (hme : Nat) (N : Nat) (mem : Nat → Nat) (z : Nat) (x : Int32) (c0 : fs[0]? = some (.ref ht)) (c3 : fs[3]? = some (.ref hf)) (t0 : ft[0]? = some (.ref hro)) (t2 : ft[2]? = some (.int (nI o))) (g0 : ff[0]? = some (.ref hme)) (g3 : ff[3]? = some (.int (nI z))) (ho : o ≤ 20) (hz : z ≤ N) (hN2 : N ≤ 4096) (hmm : ∀ j, j < z → mem j < 4096) : Met l yX7_frequent wsX7_frequent ({ frames := 2, cells := 0, slots := 0, locals := 44 }) (va_Pc [.ref h0, .int x] (fun U => va_P D vwCl [(h0, .inr (6, fs)), (ht, .inr (5, ft)), (hro, .inl (cI, 20, .inl (fun i_ => nI (r i_)))), (hf, .inr (1, ff)), (hme, .inl (cI, N, .inl (fun i_ => nI (mem i_))))] U.heap ∧ va_K D vwCl [(cI, .int)] U)) (QcRead (nI (frq r o mem x z))) 0 0 (fun _ => False) := by
  refine Met.ofW (cc := cX7_frequent) (maxL := 4) (ret := (some .int)) (by decide) rfl ?_
  intro p e s m args below meth c s₁ B hml hv
  obtain ⟨rfl, hP, hK⟩ := hv
  have hx := B.exec
  have hb := B.bytes
  have hr := B.returns
  have hts := atoms_spec (ws := wsX7_frequent) B.pre
  have hown : s.vm.findClass RX7 = some m.cls := findClass_of_methodNamed B.named
  have hlocks := B.notSynchronized
  have hl := lv_entry ([.ref h0, .int x]) (n := 4) (Nat.le_of_ble_eq_true rfl)
  rw [lg_entry_eq]
  generalize (lg_sl ([.ref h0, .int x]) ++ List.replicate (4 - (lg_sl ([.ref h0, .int x])).length) Slot.unset).toArray = ls at hl ⊢
  have hl : lv_has ls 4 [(0, .ref h0), (1, .int x)] := hl
  refine lv_iconst (v := 0) hx hb dX7_frequent_0 (by decide) ?_
  refine lv_istore_n (lv' := [(2, .int (0 : Int32)), (0, .ref h0), (1, .int x)]) hx hb dX7_frequent_1 rfl hl (by decide) rfl (fun ls hl => ?_)
  refine lv_iconst (v := 0) hx hb dX7_frequent_2 (by decide) ?_
  refine lv_istore_n (lv' := [(3, .int (0 : Int32)), (2, .int (0 : Int32)), (0, .ref h0), (1, .int x)]) hx hb dX7_frequent_3 rfl hl (by decide) rfl (fun ls hl => ?_)
  have lp_4 : ∀ (n_ : Nat) (k : Nat), z - k < n_ → (k ≤ z) → ∀ (x3 : Int32), x3 = nI k → ∀ (x2 : Int32), x2 = nI (frq r o mem x k) → ∀ (ls : Array Slot), lv_has ls 4 [(3, .int x3), (2, .int x2), (0, .ref h0), (1, .int x)] → W p l e (headSpec wsX7_frequent ({ frames := 2, cells := 0, slots := 0, locals := 44 })).room s m ([.ref h0, .int x] : List Value).toArray below meth c s.heap [] 0 0 (MQ below (QcRead (nI (frq r o mem x z))) ([.ref h0, .int x] : List Value).toArray s 0 0 (fun _ => False)) (F0 m 4 ls []) := by
    intro n_
    induction n_ with
    | zero => intro k h0_; exact absurd h0_ (Nat.not_lt_zero _)
    | succ n_ ih_4 =>
      intro k hm_4 hk x3 e_x3 x2 e_x2 ls hl
      subst e_x3
      subst e_x2
      refine lv_iload_n hx hb dX7_frequent_4 rfl (lv_at hl 0 rfl) ?_
      refine lv_aload_n hx hb dX7_frequent_5 rfl (lv_at hl 2 rfl) ?_
      refine va_get (D := D) (ci := 6) (v := .ref hf) (C := RX7) (T := TX7) (N := 5) hx hb hts (by decide +kernel) hown hK hP 0 rfl rfl 3 (by decide) (hts (.fieldLink RX7 33 "ConceptTable" "family" "LConceptTable$Family;") (by decide +kernel)) (fun _ h9 => h9) c3 dX7_frequent_6 ?_
      refine rd_V (As := []) (rest := [.int (nI k)]) ⟨hx, hb, hml, hown, hts⟩ (c_X1_size l D hf ff z g3) (cwV 0 hts gX7_frequent_X1_size rfl rfl rfl (by decide +kernel) ⟨Nat.le_of_ble_eq_true rfl, Nat.le_of_ble_eq_true rfl⟩) (hP.sub (ws' := [(hf, .inr (1, ff))]) [3] rfl) (hK.sub (tys' := []) [] rfl) (va_recv hK hP (ci := 1) (q0 := 3) rfl rfl) rfl rfl hl.1 rfl (lv_room (Nat.le_of_ble_eq_true rfl)) dX7_frequent_9 ⟨Nat.le_of_ble_eq_true rfl, Nat.le_of_ble_eq_true rfl⟩ ?_
      refine lv_icmp_ge (tgt := 46) hx hb dX7_frequent_12 (by decide) (fun c_12 => ?_) (fun c_12 => ?_)
      · have c_12 : z ≤ k := (nI_leI (a := z) (b := k) (by omega) (by omega)).mp c_12
        refine lv_iload_n hx hb dX7_frequent_46 rfl (lv_at hl 1 rfl) ?_
        have e_ret : (nI (frq r o mem x k)) = (nI (frq r o mem x z)) := by rw [show k = z by omega]
        exact W.iret (v := (nI (frq r o mem x k))) hx hb hr (fun t ht hW => ⟨congrArg (fun z_ => Outcome.returned (some (Value.int z_))) e_ret, ht⟩) (fun q h => by cases h) dX7_frequent_47
      · have c_12 : k < z := Nat.lt_of_not_le (fun h_ => c_12 ((nI_leI (a := z) (b := k) (by omega) (by omega)).mpr h_))
        refine lv_aload_n hx hb dX7_frequent_15 rfl (lv_at hl 2 rfl) ?_
        refine va_get (D := D) (ci := 6) (v := .ref ht) (C := RX7) (T := TX7) (N := 5) hx hb hts (by decide +kernel) hown hK hP 0 rfl rfl 0 (by decide) (hts (.fieldLink RX7 12 "ConceptTable" "table" "LConceptTable$Table;") (by decide +kernel)) (fun _ h9 => h9) c0 dX7_frequent_16 ?_
        refine lv_aload_n hx hb dX7_frequent_19 rfl (lv_at hl 2 rfl) ?_
        refine va_get (D := D) (ci := 6) (v := .ref hf) (C := RX7) (T := TX7) (N := 5) hx hb hts (by decide +kernel) hown hK hP 0 rfl rfl 3 (by decide) (hts (.fieldLink RX7 33 "ConceptTable" "family" "LConceptTable$Family;") (by decide +kernel)) (fun _ h9 => h9) c3 dX7_frequent_20 ?_
        refine lv_iload_n hx hb dX7_frequent_23 rfl (lv_at hl 0 rfl) ?_
        refine rd_V (As := [.int (nI k)]) (rest := [.ref ht]) ⟨hx, hb, hml, hown, hts⟩ (c_X1_member l D hf ff hme cI N z mem (nI k) g0 g3 hz hN2) (cwV 1 hts gX7_frequent_X1_member rfl rfl rfl (by decide +kernel) ⟨Nat.le_of_ble_eq_true rfl, Nat.le_of_ble_eq_true rfl⟩) (hP.sub (ws' := [(hf, .inr (1, ff)), (hme, .inl (cI, N, .inl (fun i_ => nI (mem i_))))]) [3, 4] rfl) (hK.sub (tys' := [(cI, .int)]) [0] rfl) (va_recv hK hP (ci := 1) (q0 := 3) rfl rfl) rfl rfl hl.1 rfl (lv_room (Nat.le_of_ble_eq_true rfl)) dX7_frequent_24 ⟨Nat.le_of_ble_eq_true rfl, Nat.le_of_ble_eq_true rfl⟩ ?_
        refine lv_re (y := (nI (mem k))) (by rw [if_pos (ib_t (by omega) (by omega)), nI_clamp (by omega)]) ?_
        refine rd_V (As := [.int (nI (mem k))]) (rest := []) ⟨hx, hb, hml, hown, hts⟩ (c_X6_extentOf l D ht ft hro cI o r (mem k) t0 t2 ho (by have := hmm k (by omega); omega)) (cwV 1 hts gX7_frequent_X6_extentOf rfl rfl rfl (by decide +kernel) ⟨Nat.le_of_ble_eq_true rfl, Nat.le_of_ble_eq_true rfl⟩) (hP.sub (ws' := [(ht, .inr (5, ft)), (hro, .inl (cI, 20, .inl (fun i_ => nI (r i_))))]) [1, 2] rfl) (hK.sub (tys' := [(cI, .int)]) [0] rfl) (va_recv hK hP (ci := 5) (q0 := 1) rfl rfl) rfl rfl hl.1 rfl (lv_room (Nat.le_of_ble_eq_true rfl)) dX7_frequent_27 ⟨Nat.le_of_ble_eq_true rfl, Nat.le_of_ble_eq_true rfl⟩ ?_
        refine rd_S (As := [.int (nI (ext r (mem k) o))]) (rest := []) ⟨hx, hb, hml, hown, hts⟩ (c_J6_bitCount_0f7a4 l D (ext r (mem k) o) (Nat.lt_of_lt_of_le (ext_lt r _ o) (p2_le20 ho))) (va_cwS 1 hts gX7_frequent_J6_bitCount_0f7a4 rfl rfl rfl (by decide +kernel) ⟨Nat.le_of_ble_eq_true rfl, Nat.le_of_ble_eq_true rfl⟩) (hP.sub (ws' := []) [] rfl) (hK.sub (tys' := []) [] rfl) rfl rfl hl.1 rfl (lv_room (Nat.le_of_ble_eq_true rfl)) dX7_frequent_30 ⟨Nat.le_of_ble_eq_true rfl, Nat.le_of_ble_eq_true rfl⟩ ?_
        refine lv_iload_n hx hb dX7_frequent_33 rfl (lv_at hl 3 rfl) ?_
        refine lv_icmp_lt (tgt := 40) hx hb dX7_frequent_34 (by decide) (fun c_34 => ?_) (fun c_34 => ?_)
        · refine lv_iinc (v := (nI (k + 1))) (lv' := [(3, .int (nI (k + 1))), (2, .int (nI (frq r o mem x k))), (0, .ref h0), (1, .int x)]) hx hb dX7_frequent_40 hl (k := 0) rfl (nI_add _ 1) (by decide) rfl (fun ls hl => ?_)
          refine lv_goto (tgt := 4) hx hb dX7_frequent_43 (by decide) ?_
          exact ih_4 (k + 1) (by omega) (by omega) _ rfl _ (by rw [frq, if_pos c_34]) _ (lv_sub hl [0, 1, 2, 3] rfl)
        · refine lv_iinc (v := (nI (frq r o mem x k + 1))) (lv' := [(2, .int (nI (frq r o mem x k + 1))), (3, .int (nI k)), (0, .ref h0), (1, .int x)]) hx hb dX7_frequent_37 hl (k := 1) rfl (nI_add _ 1) (by decide) rfl (fun ls hl => ?_)
          refine lv_iinc (v := (nI (k + 1))) (lv' := [(3, .int (nI (k + 1))), (2, .int (nI (frq r o mem x k + 1))), (0, .ref h0), (1, .int x)]) hx hb dX7_frequent_40 hl (k := 1) rfl (nI_add _ 1) (by decide) rfl (fun ls hl => ?_)
          refine lv_goto (tgt := 4) hx hb dX7_frequent_43 (by decide) ?_
          exact ih_4 (k + 1) (by omega) (by omega) _ rfl _ (by rw [frq, if_neg c_34]) _ (lv_sub hl [0, 1, 2, 3] rfl)
  exact lp_4 _ 0 (Nat.lt_succ_self _) (Nat.zero_le _) _ rfl _ rfl _ (lv_sub hl [0, 1, 2, 3] rfl)
