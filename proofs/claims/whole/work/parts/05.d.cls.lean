set_option maxHeartbeats 4000000 in
set_option maxRecDepth 100000 in
theorem c_X4_leastKeeping (l : Launch) (D : va_G) (h0 : Nat) (fs : List Value) (h2 : Nat) (h3 : Nat) (cI : ClassId) (N : Nat) (z : Nat) (pr : Nat → Nat) (cn : Nat → Nat) (q : Nat) (m_ : Nat) (n : Nat) (f0 : fs[0]? = some (.ref h2)) (f1 : fs[1]? = some (.ref h3)) (f2 : fs[2]? = some (.int (nI z))) (hn : n ≤ 12) (hz : z ≤ N) (hN : N ≤ 4096) (hm : m_ < 2 ^ 31) (hq : q < 2 ^ n) (hp : ∀ j, j < z → pr j < 2 ^ n) (hc : ∀ j, j < z → cn j < 2 ^ n) : Met l yX4_leastKeeping wsX4_leastKeeping ({ frames := 2, cells := 0, slots := 0, locals := 45 }) (va_Pc [.ref h0, .int (nI q), .int (nI m_)] (fun U => va_P D vwCl [(h0, .inr (4, fs)), (h2, .inl (cI, N, .inl (fun i_ => nI (pr i_)))), (h3, .inl (cI, N, .inl (fun i_ => nI (cn i_))))] U.heap ∧ va_K D vwCl [(cI, .int)] U)) (QcRead (nI (lkF pr cn (min m_ z) 13 q))) 0 0 (fun _ => False) := by
  refine Met.ofW (cc := cX4_leastKeeping) (maxL := 6) (ret := (some .int)) (by decide) rfl ?_
  intro p e s m args below meth c s₁ B hml hv
  obtain ⟨rfl, hP, hK⟩ := hv
  have hx := B.exec
  have hb := B.bytes
  have hr := B.returns
  have hts := atoms_spec (ws := wsX4_leastKeeping) B.pre
  have hown : s.vm.findClass RX4 = some m.cls := findClass_of_methodNamed B.named
  have hlocks := B.notSynchronized
  have hl := lv_entry ([.ref h0, .int (nI q), .int (nI m_)]) (n := 6) (Nat.le_of_ble_eq_true rfl)
  rw [lg_entry_eq]
  generalize (lg_sl ([.ref h0, .int (nI q), .int (nI m_)]) ++ List.replicate (6 - (lg_sl ([.ref h0, .int (nI q), .int (nI m_)])).length) Slot.unset).toArray = ls at hl ⊢
  have hl : lv_has ls 6 [(0, .ref h0), (1, .int (nI q)), (2, .int (nI m_))] := hl
  have h2n := p2_le hn
  refine lv_iload_n hx hb dX4_leastKeeping_0 rfl (lv_at hl 1 rfl) ?_
  refine lv_istore_n (lv' := [(3, .int (nI q)), (0, .ref h0), (1, .int (nI q)), (2, .int (nI m_))]) hx hb dX4_leastKeeping_1 rfl hl (by decide) rfl (fun ls hl => ?_)
  refine lv_iconst (v := 0) hx hb dX4_leastKeeping_2 (by decide) ?_
  refine lv_istore (lv' := [(4, .int (0 : Int32)), (3, .int (nI q)), (0, .ref h0), (1, .int (nI q)), (2, .int (nI m_))]) hx hb dX4_leastKeeping_3 hl (by decide) rfl (fun ls hl => ?_)
  have lp_5 : ∀ (n_ : Nat) (k : Nat) (g1 : Nat), 13 - k < n_ → (k ≤ 13) → (g1 < 2 ^ n) → (lkF pr cn (min m_ z) (13 - k) g1 = lkF pr cn (min m_ z) 13 q) → ∀ (x4 : Int32), x4 = nI k → ∀ (x3 : Int32), x3 = nI g1 → ∀ (ls : Array Slot), lv_has ls 6 [(4, .int x4), (3, .int x3), (0, .ref h0), (1, .int (nI q)), (2, .int (nI m_))] → W p l e (headSpec wsX4_leastKeeping ({ frames := 2, cells := 0, slots := 0, locals := 45 })).room s m ([.ref h0, .int (nI q), .int (nI m_)] : List Value).toArray below meth c s.heap [] 0 0 (MQ below (QcRead (nI (lkF pr cn (min m_ z) 13 q))) ([.ref h0, .int (nI q), .int (nI m_)] : List Value).toArray s 0 0 (fun _ => False)) (F0 m 5 ls []) := by
    intro n_
    induction n_ with
    | zero => intro k g1 h0_; exact absurd h0_ (Nat.not_lt_zero _)
    | succ n_ ih_5 =>
      intro k g1 hm_5 hk hg hres x4 e_x4 x3 e_x3 ls hl
      subst e_x4
      subst e_x3
      refine lv_iload hx hb dX4_leastKeeping_5 (lv_at hl 0 rfl) ?_
      refine lv_bipush (v := 12) hx hb dX4_leastKeeping_7 (by decide) ?_
      refine lv_icmp_gt (tgt := 44) hx hb dX4_leastKeeping_9 (by decide) (fun c_9 => ?_) (fun c_9 => ?_)
      · have c_9 : 12 < k := (nI_ltI (a := 12) (b := k) (by omega) (by omega)).mp c_9
        refine lv_iload_n hx hb dX4_leastKeeping_44 rfl (lv_at hl 1 rfl) ?_
        have e_ret : (nI g1) = (nI (lkF pr cn (min m_ z) 13 q)) := by rw [← hres, show 13 - k = 0 by omega]; rfl
        exact W.iret (v := (nI g1)) hx hb hr (fun t ht hW => ⟨congrArg (fun z_ => Outcome.returned (some (Value.int z_))) e_ret, ht⟩) (fun q h => by cases h) dX4_leastKeeping_45
      · have c_9 : k ≤ 12 := Nat.le_of_not_lt (fun h_ => c_9 ((nI_ltI (a := 12) (b := k) (by omega) (by omega)).mpr h_))
        have hal : apF pr cn (min m_ z) g1 < 2 ^ n := apF_lt hg _ (fun j hj => hc j (by omega))
        have hf_ : 13 - k = (13 - (k + 1)) + 1 := by omega
        refine lv_iload_n hx hb dX4_leastKeeping_12 rfl (lv_at hl 1 rfl) ?_
        refine lv_istore (lv' := [(5, .int (nI g1)), (4, .int (nI k)), (3, .int (nI g1)), (0, .ref h0), (1, .int (nI q)), (2, .int (nI m_))]) hx hb dX4_leastKeeping_13 hl (by decide) rfl (fun ls hl => ?_)
        refine lv_aload_n hx hb dX4_leastKeeping_15 rfl (lv_at hl 3 rfl) ?_
        refine lv_iload_n hx hb dX4_leastKeeping_16 rfl (lv_at hl 2 rfl) ?_
        refine lv_iload_n hx hb dX4_leastKeeping_17 rfl (lv_at hl 5 rfl) ?_
        refine lv_aload_n hx hb dX4_leastKeeping_18 rfl (lv_at hl 3 rfl) ?_
        refine va_get (D := D) (ci := 4) (v := .int (nI z)) (C := RX4) (T := TX4) (N := 3) hx hb hts (by decide +kernel) hown hK hP 0 rfl rfl 2 (by decide) (hts (.fieldLink RX4 24 "ConceptTable$Rules" "size" "I") (by decide +kernel)) (fun _ h9 => h9) f2 dX4_leastKeeping_19 ?_
        refine va_mmin hx hb (by rw [hml]; exact hl.1.symm) hown (hts (.methodLink RX4 34 Lib.Math.min.name) (by decide +kernel)) (hts (.static Lib.Math.min.name) (by decide +kernel)) (hts (.initialized "java/lang/Math") (by decide +kernel)) (hts (.code Lib.Math.min.name Lib.Math.min.code 2 (some .int)) (by decide +kernel)) (Nat.le_of_ble_eq_true rfl) (Nat.le_of_ble_eq_true rfl) (Nat.le_of_ble_eq_true rfl) (Nat.le_of_ble_eq_true rfl) dX4_leastKeeping_22 ?_
        refine lv_re (y := (nI (min m_ z))) (mn_nI hm (by omega)) ?_
        refine rd_V (As := [.int (nI g1), .int (nI (min m_ z))]) (rest := []) ⟨hx, hb, hml, hown, hts⟩ (c_X4_applyOnce l D h0 fs h2 h3 cI N pr cn g1 (min m_ z) f0 f1 (by omega) hN (fun j hj => by have := hp j (by omega); omega)) (cwV 2 hts gX4_leastKeeping_X4_applyOnce rfl rfl rfl (by decide +kernel) ⟨Nat.le_of_ble_eq_true rfl, Nat.le_of_ble_eq_true rfl⟩) (hP.sub (ws' := [(h0, .inr (4, fs)), (h2, .inl (cI, N, .inl (fun i_ => nI (pr i_)))), (h3, .inl (cI, N, .inl (fun i_ => nI (cn i_))))]) [0, 1, 2] rfl) (hK.sub (tys' := [(cI, .int)]) [0] rfl) (va_recv hK hP (ci := 4) (q0 := 0) rfl rfl) rfl rfl hl.1 rfl (lv_room (Nat.le_of_ble_eq_true rfl)) dX4_leastKeeping_25 ⟨Nat.le_of_ble_eq_true rfl, Nat.le_of_ble_eq_true rfl⟩ ?_
        refine lv_istore_n (lv' := [(3, .int (nI (apF pr cn (min m_ z) g1))), (5, .int (nI g1)), (4, .int (nI k)), (0, .ref h0), (1, .int (nI q)), (2, .int (nI m_))]) hx hb dX4_leastKeeping_28 rfl hl (by decide) rfl (fun ls hl => ?_)
        refine lv_iload_n hx hb dX4_leastKeeping_29 rfl (lv_at hl 0 rfl) ?_
        refine lv_iload hx hb dX4_leastKeeping_30 (lv_at hl 1 rfl) ?_
        refine lv_icmp_ne (tgt := 38) hx hb dX4_leastKeeping_32 (by decide) (fun c_32 => ?_) (fun c_32 => ?_)
        · have c_32 : ¬ (apF pr cn (min m_ z) g1) = g1 := fun h_ => c_32 ((nI_eq (a := (apF pr cn (min m_ z) g1)) (b := g1) (by omega) (by omega)).mpr h_)
          refine lv_iinc (v := (nI (k + 1))) (lv' := [(4, .int (nI (k + 1))), (3, .int (nI (apF pr cn (min m_ z) g1))), (5, .int (nI g1)), (0, .ref h0), (1, .int (nI q)), (2, .int (nI m_))]) hx hb dX4_leastKeeping_38 hl (k := 2) rfl (nI_add _ 1) (by decide) rfl (fun ls hl => ?_)
          refine lv_goto (tgt := 5) hx hb dX4_leastKeeping_41 (by decide) ?_
          exact ih_5 (k + 1) (apF pr cn (min m_ z) g1) (by omega) (by omega) hal (by rw [← hres, hf_, lkF, if_neg c_32]) _ rfl _ rfl _ (lv_sub hl [0, 1, 3, 4, 5] rfl)
        · have c_32 : (apF pr cn (min m_ z) g1) = g1 := (nI_eq (a := (apF pr cn (min m_ z) g1)) (b := g1) (by omega) (by omega)).mp c_32
          refine lv_goto (tgt := 44) hx hb dX4_leastKeeping_35 (by decide) ?_
          refine lv_iload_n hx hb dX4_leastKeeping_44 rfl (lv_at hl 0 rfl) ?_
          have e_ret : (nI (apF pr cn (min m_ z) g1)) = (nI (lkF pr cn (min m_ z) 13 q)) := by rw [← hres, hf_, lkF, if_pos c_32, c_32]
          exact W.iret (v := (nI (apF pr cn (min m_ z) g1))) hx hb hr (fun t ht hW => ⟨congrArg (fun z_ => Outcome.returned (some (Value.int z_))) e_ret, ht⟩) (fun q h => by cases h) dX4_leastKeeping_45
  exact lp_5 _ 0 q (Nat.lt_succ_self _) (Nat.zero_le _) hq rfl _ rfl _ rfl _ (lv_sub hl [0, 1, 2, 3, 4] rfl)

set_option maxHeartbeats 4000000 in
set_option maxRecDepth 100000 in
theorem c_X0_rules (l : Launch) (D : va_G) (h0 : Nat) (fs : List Value) (h4 : Nat) (f0 : fs[0]? = some (.ref h4)) : Met l yX0_rules wsX0_rules ({ frames := 0, cells := 0, slots := 0, locals := 0 }) (va_Pc [.ref h0] (fun U => va_P D vwCl [(h0, .inr (0, fs))] U.heap ∧ va_K D vwCl [] U)) (k2_QcV (.ref h4)) 0 0 (fun _ => False) := by
  refine Met.ofW (cc := cX0_rules) (maxL := 1) (ret := (some (.object "ConceptTable$Rules"))) (by decide) rfl ?_
  intro p e s m args below meth c s₁ B hml hv
  obtain ⟨rfl, hP, hK⟩ := hv
  have hx := B.exec
  have hb := B.bytes
  have hr := B.returns
  have hts := atoms_spec (ws := wsX0_rules) B.pre
  have hown : s.vm.findClass RX0 = some m.cls := findClass_of_methodNamed B.named
  have hlocks := B.notSynchronized
  have hl := lv_entry ([.ref h0]) (n := 1) (Nat.le_of_ble_eq_true rfl)
  rw [lg_entry_eq]
  generalize (lg_sl ([.ref h0]) ++ List.replicate (1 - (lg_sl ([.ref h0])).length) Slot.unset).toArray = ls at hl ⊢
  have hl : lv_has ls 1 [(0, .ref h0)] := hl
  refine lv_aload_n hx hb dX0_rules_0 rfl (lv_at hl 0 rfl) ?_
  refine va_get (D := D) (ci := 0) (v := .ref h4) (C := RX0) (T := TX0) (N := 3) hx hb hts (by decide +kernel) hown hK hP 0 rfl rfl 0 (by decide) (hts (.fieldLink RX0 14 "ConceptTable$Base" "rules" "LConceptTable$Rules;") (by decide +kernel)) (fun _ h9 => h9) f0 dX0_rules_1 ?_
  exact W.aret (v := .ref h4) hx hb hr (Or.inl ⟨_, rfl⟩) (Or.inr ⟨_, rfl⟩) (fun t ht hW => ⟨rfl, ht⟩) (fun q h => by cases h) dX0_rules_4

set_option maxHeartbeats 4000000 in
set_option maxRecDepth 100000 in
theorem c_X0_forget (l : Launch) (D : va_G) (sz : Nat) (h0 : Nat) (h4 : Nat) (h5 : Nat) (bt : Bool)  : Met l yX0_forget wsX0_forget ({ frames := 0, cells := 0, slots := 0, locals := 0 }) (va_Pc [.ref h0] (fun U => U.heap.size = sz ∧ va_P D vwCl [(h0, .inr (0, [.ref h4, .ref h5, .int (b2 bt)]))] U.heap ∧ va_K D vwCl [] U ∧ va_D (fun _ => True) [(h0, .inr (0, [.ref h4, .ref h5, .int (b2 bt)]))])) (muQ none D vwCl [(h0, .inr (0, [.ref h4, .ref h5, .int (b2 false)]))] (va_A [(h0, .inr (0, [.ref h4, .ref h5, .int (b2 bt)]))] sz)) 0 0 (va_A [(h0, .inr (0, [.ref h4, .ref h5, .int (b2 bt)]))] sz) := by
  refine Met.ofW (cc := cX0_forget) (maxL := 1) (ret := none) (by decide) rfl ?_
  intro p e s m args below meth c s₁ B hml hv
  obtain ⟨rfl, hsz, hP, hK, hD0⟩ := hv
  have hx := B.exec
  have hb := B.bytes
  have hr := B.returns
  have hts := atoms_spec (ws := wsX0_forget) B.pre
  have hown : s.vm.findClass RX0 = some m.cls := findClass_of_methodNamed B.named
  have hlocks := B.notSynchronized
  subst hsz
  have hD := hD0.self (sz := s.heap.size)
  generalize hAe : va_A [(h0, .inr (0, [.ref h4, .ref h5, .int (b2 bt)]))] s.heap.size = A at hD ⊢
  have hA : ∀ q : Nat, s.heap.size ≤ q → A q := fun q h => by rw [← hAe]; exact Or.inr h
  have hS : va_S A s.heap s.heap [] := va_S.rf
  have hl := lv_entry ([.ref h0]) (n := 1) (Nat.le_of_ble_eq_true rfl)
  rw [lg_entry_eq]
  generalize (lg_sl ([.ref h0]) ++ List.replicate (1 - (lg_sl ([.ref h0])).length) Slot.unset).toArray = ls at hl ⊢
  have hl : lv_has ls 1 [(0, .ref h0)] := hl
  refine lv_aload_n hx hb dX0_forget_0 rfl (lv_at hl 0 rfl) ?_
  refine lv_iconst (v := 0) hx hb dX0_forget_1 (by decide) ?_
  refine va_put (D := D) (ci := 0) (v := .int (0 : Int32)) (ty := .boolean) (C := RX0) (T := TX0) (N := 3) hx hb hts (by decide +kernel) tyX0 tyX0_ok nmX0 hown hK hP hD hS 0 rfl rfl 2 (by decide) (hts (.fieldLink RX0 24 "ConceptTable$Base" "built" "Z") (by decide +kernel)) (fun _ h9 => h9) rfl (by decide +kernel) rfl rfl (Nat.le_of_ble_eq_true rfl) dX0_forget_2 (fun H locs hP hD hS => ?_)
  have hP : va_P D vwCl [(h0, .inr (0, [.ref h4, .ref h5, .int (0 : Int32)]))] H := hP
  have hD : va_D A [(h0, .inr (0, [.ref h4, .ref h5, .int (0 : Int32)]))] := hD
  have hP := hP.sub (ws' := [(h0, .inr (0, [.ref h4, .ref h5, .int (0 : Int32)]))]) [0] rfl
  have hD := hD.sub (ws' := [(h0, .inr (0, [.ref h4, .ref h5, .int (0 : Int32)]))]) [0] (by decide) rfl
  have hP : va_P D vwCl [(h0, .inr (0, [.ref h4, .ref h5, .int (b2 false)]))] H := by exact hP
  have hD : va_D A [(h0, .inr (0, [.ref h4, .ref h5, .int (b2 false)]))] := by exact hD
  exact W.vret hx hb hr (fun t ht hW => ⟨⟨rfl, by rw [ht]; exact hP, hD⟩, hS.F ht⟩) hS.2.2 dX0_forget_5

set_option maxHeartbeats 4000000 in
set_option maxRecDepth 100000 in
theorem c_X0_joinedOf (l : Launch) (D : va_G) (h0 : Nat) (fs : List Value) (h5 : Nat) (cI : ClassId) (N : Nat) (jo : Nat → Nat) (q : Nat) (f1 : fs[1]? = some (.ref h5)) (hq : q < N) (hN2 : N ≤ 4096) : Met l yX0_joinedOf wsX0_joinedOf ({ frames := 1, cells := 0, slots := 0, locals := 21 }) (va_Pc [.ref h0, .int (nI q)] (fun U => va_P D vwCl [(h0, .inr (0, fs)), (h5, .inl (cI, N, .inl (fun i_ => nI (jo i_))))] U.heap ∧ va_K D vwCl [(cI, .int)] U)) (QcRead (nI (jo q))) 0 0 (fun _ => False) := by
  refine Met.ofW (cc := cX0_joinedOf) (maxL := 2) (ret := (some .int)) (by decide) rfl ?_
  intro p e s m args below meth c s₁ B hml hv
  obtain ⟨rfl, hP, hK⟩ := hv
  have hx := B.exec
  have hb := B.bytes
  have hr := B.returns
  have hts := atoms_spec (ws := wsX0_joinedOf) B.pre
  have hown : s.vm.findClass RX0 = some m.cls := findClass_of_methodNamed B.named
  have hlocks := B.notSynchronized
  have hl := lv_entry ([.ref h0, .int (nI q)]) (n := 2) (Nat.le_of_ble_eq_true rfl)
  rw [lg_entry_eq]
  generalize (lg_sl ([.ref h0, .int (nI q)]) ++ List.replicate (2 - (lg_sl ([.ref h0, .int (nI q)])).length) Slot.unset).toArray = ls at hl ⊢
  have hl : lv_has ls 2 [(0, .ref h0), (1, .int (nI q))] := hl
  refine lv_aload_n hx hb dX0_joinedOf_0 rfl (lv_at hl 0 rfl) ?_
  refine va_get (D := D) (ci := 0) (v := .ref h5) (C := RX0) (T := TX0) (N := 3) hx hb hts (by decide +kernel) hown hK hP 0 rfl rfl 1 (by decide) (hts (.fieldLink RX0 20 "ConceptTable$Base" "joined" "[I") (by decide +kernel)) (fun _ h9 => h9) f1 dX0_joinedOf_1 ?_
  refine lv_iload_n hx hb dX0_joinedOf_4 rfl (lv_at hl 1 rfl) ?_
  refine rd_S (As := [.ref h5, .int (nI q)]) (rest := []) ⟨hx, hb, hml, hown, hts⟩ (c_X5_isIndexIn l D h5 cI N (fun i_ => nI (jo i_)) q (by assumption) (by assumption)) (va_cwS 2 hts gX0_joinedOf_X5_isIndexIn rfl rfl rfl (by decide +kernel) ⟨Nat.le_of_ble_eq_true rfl, Nat.le_of_ble_eq_true rfl⟩) (hP.sub (ws' := [(h5, .inl (cI, N, .inl (fun i_ => nI (jo i_))))]) [1] rfl) (hK.sub (tys' := [(cI, .int)]) [0] rfl) rfl rfl hl.1 rfl (lv_room (Nat.le_of_ble_eq_true rfl)) dX0_joinedOf_5 ⟨Nat.le_of_ble_eq_true rfl, Nat.le_of_ble_eq_true rfl⟩ ?_
  refine lv_if_eq (tgt := 20) hx hb dX0_joinedOf_8 (by decide) (fun c_8 => ?_) (fun c_8 => ?_)
  · have c_8 := b2_0.mp c_8
    exact Bool.noConfusion c_8
  · have c_8 := b2_n0.mp c_8
    refine lv_aload_n hx hb dX0_joinedOf_11 rfl (lv_at hl 0 rfl) ?_
    refine va_get (D := D) (ci := 0) (v := .ref h5) (C := RX0) (T := TX0) (N := 3) hx hb hts (by decide +kernel) hown hK hP 0 rfl rfl 1 (by decide) (hts (.fieldLink RX0 20 "ConceptTable$Base" "joined" "[I") (by decide +kernel)) (fun _ h9 => h9) f1 dX0_joinedOf_12 ?_
    refine lv_iload_n hx hb dX0_joinedOf_15 rfl (lv_at hl 1 rfl) ?_
    refine va_iald hx hb hK hP 1 0 rfl rfl (vp_in_nI (by omega) (by omega)) dX0_joinedOf_16 ?_
    refine lv_re (y := (nI (jo q))) (by rw [nI_clamp (by omega)]) ?_
    refine lv_goto (tgt := 21) hx hb dX0_joinedOf_17 (by decide) ?_
    have e_ret : (nI (jo q)) = (nI (jo q)) := by rfl
    exact W.iret (v := (nI (jo q))) hx hb hr (fun t ht hW => ⟨congrArg (fun z_ => Outcome.returned (some (Value.int z_))) e_ret, ht⟩) (fun q h => by cases h) dX0_joinedOf_21

set_option maxHeartbeats 4000000 in
set_option maxRecDepth 100000 in
theorem c_X0_setJoined (l : Launch) (D : va_G) (sz : Nat) (h0 : Nat) (fs : List Value) (h5 : Nat) (cI : ClassId) (N : Nat) (jo : Nat → Nat) (q : Nat) (v : Nat) (f1 : fs[1]? = some (.ref h5)) (hq : q < N) (hN2 : N ≤ 4096) : Met l yX0_setJoined wsX0_setJoined ({ frames := 1, cells := 0, slots := 0, locals := 21 }) (va_Pc [.ref h0, .int (nI q), .int (nI v)] (fun U => U.heap.size = sz ∧ va_P D vwCl [(h0, .inr (0, fs)), (h5, .inl (cI, N, .inl (fun i_ => nI (jo i_))))] U.heap ∧ va_K D vwCl [(cI, .int)] U ∧ va_D (fun _ => True) [(h0, .inr (0, fs)), (h5, .inl (cI, N, .inl (fun i_ => nI (jo i_))))])) (muQ none D vwCl [(h0, .inr (0, fs)), (h5, .inl (cI, N, .inl (fun i_ => nI ((va_up jo q v) i_))))] (va_A [(h0, .inr (0, fs)), (h5, .inl (cI, N, .inl (fun i_ => nI (jo i_))))] sz)) 0 0 (va_A [(h0, .inr (0, fs)), (h5, .inl (cI, N, .inl (fun i_ => nI (jo i_))))] sz) := by
  refine Met.ofW (cc := cX0_setJoined) (maxL := 3) (ret := none) (by decide) rfl ?_
  intro p e s m args below meth c s₁ B hml hv
  obtain ⟨rfl, hsz, hP, hK, hD0⟩ := hv
  have hx := B.exec
  have hb := B.bytes
  have hr := B.returns
  have hts := atoms_spec (ws := wsX0_setJoined) B.pre
  have hown : s.vm.findClass RX0 = some m.cls := findClass_of_methodNamed B.named
  have hlocks := B.notSynchronized
  subst hsz
  have hD := hD0.self (sz := s.heap.size)
  generalize hAe : va_A [(h0, .inr (0, fs)), (h5, .inl (cI, N, .inl (fun i_ => nI (jo i_))))] s.heap.size = A at hD ⊢
  have hA : ∀ q : Nat, s.heap.size ≤ q → A q := fun q h => by rw [← hAe]; exact Or.inr h
  have hS : va_S A s.heap s.heap [] := va_S.rf
  have hl := lv_entry ([.ref h0, .int (nI q), .int (nI v)]) (n := 3) (Nat.le_of_ble_eq_true rfl)
  rw [lg_entry_eq]
  generalize (lg_sl ([.ref h0, .int (nI q), .int (nI v)]) ++ List.replicate (3 - (lg_sl ([.ref h0, .int (nI q), .int (nI v)])).length) Slot.unset).toArray = ls at hl ⊢
  have hl : lv_has ls 3 [(0, .ref h0), (1, .int (nI q)), (2, .int (nI v))] := hl
  refine lv_aload_n hx hb dX0_setJoined_0 rfl (lv_at hl 0 rfl) ?_
  refine va_get (D := D) (ci := 0) (v := .ref h5) (C := RX0) (T := TX0) (N := 3) hx hb hts (by decide +kernel) hown hK hP 0 rfl rfl 1 (by decide) (hts (.fieldLink RX0 20 "ConceptTable$Base" "joined" "[I") (by decide +kernel)) (fun _ h9 => h9) f1 dX0_setJoined_1 ?_
  refine lv_iload_n hx hb dX0_setJoined_4 rfl (lv_at hl 1 rfl) ?_
  refine rd_S (As := [.ref h5, .int (nI q)]) (rest := []) ⟨hx, hb, hml, hown, hts⟩ (c_X5_isIndexIn l D h5 cI N (fun i_ => nI (jo i_)) q (by assumption) (by assumption)) (va_cwS 2 hts gX0_setJoined_X5_isIndexIn rfl rfl rfl (by decide +kernel) ⟨Nat.le_of_ble_eq_true rfl, Nat.le_of_ble_eq_true rfl⟩) (hP.sub (ws' := [(h5, .inl (cI, N, .inl (fun i_ => nI (jo i_))))]) [1] rfl) (hK.sub (tys' := [(cI, .int)]) [0] rfl) rfl rfl hl.1 rfl (lv_room (Nat.le_of_ble_eq_true rfl)) dX0_setJoined_5 ⟨Nat.le_of_ble_eq_true rfl, Nat.le_of_ble_eq_true rfl⟩ ?_
  refine lv_if_eq (tgt := 18) hx hb dX0_setJoined_8 (by decide) (fun c_8 => ?_) (fun c_8 => ?_)
  · have c_8 := b2_0.mp c_8
    exact Bool.noConfusion c_8
  · have c_8 := b2_n0.mp c_8
    refine lv_aload_n hx hb dX0_setJoined_11 rfl (lv_at hl 0 rfl) ?_
    refine va_get (D := D) (ci := 0) (v := .ref h5) (C := RX0) (T := TX0) (N := 3) hx hb hts (by decide +kernel) hown hK hP 0 rfl rfl 1 (by decide) (hts (.fieldLink RX0 20 "ConceptTable$Base" "joined" "[I") (by decide +kernel)) (fun _ h9 => h9) f1 dX0_setJoined_12 ?_
    refine lv_iload_n hx hb dX0_setJoined_15 rfl (lv_at hl 1 rfl) ?_
    refine lv_iload_n hx hb dX0_setJoined_16 rfl (lv_at hl 2 rfl) ?_
    refine va_iast hx hb hK hP hD hS 1 0 rfl rfl (vp_in_nI (by omega) (by omega)) dX0_setJoined_17 (fun H locs hP hD hS => ?_)
    have e_up : (upd (fun i_ => nI (jo i_)) ((nI q)).toNatClampNeg (nI v)) = (fun i_ => nI ((va_up jo q v) i_)) := by rw [show ((nI q)).toNatClampNeg = q from nI_clamp (by omega)]; exact up_nI jo q v
    have hP : va_P D vwCl [(h0, .inr (0, fs)), (h5, .inl (cI, N, .inl (fun i_ => nI ((va_up jo q v) i_))))] H := by rw [← e_up]; exact hP
    have hD : va_D A [(h0, .inr (0, fs)), (h5, .inl (cI, N, .inl (fun i_ => nI ((va_up jo q v) i_))))] := by rw [← e_up]; exact hD
    clear e_up
    have hP := hP.sub (ws' := [(h0, .inr (0, fs)), (h5, .inl (cI, N, .inl (fun i_ => nI ((va_up jo q v) i_))))]) [0, 1] rfl
    have hD := hD.sub (ws' := [(h0, .inr (0, fs)), (h5, .inl (cI, N, .inl (fun i_ => nI ((va_up jo q v) i_))))]) [0, 1] (by decide) rfl
    have hP : va_P D vwCl [(h0, .inr (0, fs)), (h5, .inl (cI, N, .inl (fun i_ => nI ((va_up jo q v) i_))))] H := by exact hP
    have hD : va_D A [(h0, .inr (0, fs)), (h5, .inl (cI, N, .inl (fun i_ => nI ((va_up jo q v) i_))))] := by exact hD
    exact W.vret hx hb hr (fun t ht hW => ⟨⟨rfl, by rw [ht]; exact hP, hD⟩, hS.F ht⟩) hS.2.2 dX0_setJoined_18

set_option maxHeartbeats 4000000 in
set_option maxRecDepth 100000 in
theorem c_X0_joinedOfParts (l : Launch) (D : va_G) (h0 : Nat) (fs : List Value) (h5 : Nat) (cI : ClassId) (N : Nat) (jo : Nat → Nat) (q : Nat) (n : Nat) (f1 : fs[1]? = some (.ref h5)) (hn : n ≤ 12) (hN : 2 ^ n ≤ N) (hN2 : N ≤ 4096) (hq : q < 2 ^ n) : Met l yX0_joinedOfParts wsX0_joinedOfParts ({ frames := 2, cells := 0, slots := 0, locals := 42 }) (va_Pc [.ref h0, .int (nI q), .int (nI n)] (fun U => va_P D vwCl [(h0, .inr (0, fs)), (h5, .inl (cI, N, .inl (fun i_ => nI (jo i_))))] U.heap ∧ va_K D vwCl [(cI, .int)] U)) (QcRead (nI (jpF jo q n))) 0 0 (fun _ => False) := by
  refine Met.ofW (cc := cX0_joinedOfParts) (maxL := 6) (ret := (some .int)) (by decide) rfl ?_
  intro p e s m args below meth c s₁ B hml hv
  obtain ⟨rfl, hP, hK⟩ := hv
  have hx := B.exec
  have hb := B.bytes
  have hr := B.returns
  have hts := atoms_spec (ws := wsX0_joinedOfParts) B.pre
  have hown : s.vm.findClass RX0 = some m.cls := findClass_of_methodNamed B.named
  have hlocks := B.notSynchronized
  have hl := lv_entry ([.ref h0, .int (nI q), .int (nI n)]) (n := 6) (Nat.le_of_ble_eq_true rfl)
  rw [lg_entry_eq]
  generalize (lg_sl ([.ref h0, .int (nI q), .int (nI n)]) ++ List.replicate (6 - (lg_sl ([.ref h0, .int (nI q), .int (nI n)])).length) Slot.unset).toArray = ls at hl ⊢
  have hl : lv_has ls 6 [(0, .ref h0), (1, .int (nI q)), (2, .int (nI n))] := hl
  refine lv_iconst (v := 0) hx hb dX0_joinedOfParts_0 (by decide) ?_
  refine lv_istore_n (lv' := [(3, .int (0 : Int32)), (0, .ref h0), (1, .int (nI q)), (2, .int (nI n))]) hx hb dX0_joinedOfParts_1 rfl hl (by decide) rfl (fun ls hl => ?_)
  refine lv_iconst (v := 0) hx hb dX0_joinedOfParts_2 (by decide) ?_
  refine lv_istore (lv' := [(4, .int (0 : Int32)), (3, .int (0 : Int32)), (0, .ref h0), (1, .int (nI q)), (2, .int (nI n))]) hx hb dX0_joinedOfParts_3 hl (by decide) rfl (fun ls hl => ?_)
  have lp_5 : ∀ (n_ : Nat) (k : Nat), n - k < n_ → (k ≤ n) → ∀ (x4 : Int32), x4 = nI k → ∀ (x3 : Int32), x3 = nI (jpF jo q k) → ∀ (ls : Array Slot), lv_has ls 6 [(4, .int x4), (3, .int x3), (0, .ref h0), (1, .int (nI q)), (2, .int (nI n))] → W p l e (headSpec wsX0_joinedOfParts ({ frames := 2, cells := 0, slots := 0, locals := 42 })).room s m ([.ref h0, .int (nI q), .int (nI n)] : List Value).toArray below meth c s.heap [] 0 0 (MQ below (QcRead (nI (jpF jo q n))) ([.ref h0, .int (nI q), .int (nI n)] : List Value).toArray s 0 0 (fun _ => False)) (F0 m 5 ls []) := by
    intro n_
    induction n_ with
    | zero => intro k h0_; exact absurd h0_ (Nat.not_lt_zero _)
    | succ n_ ih_5 =>
      intro k hm_5 hk x4 e_x4 x3 e_x3 ls hl
      subst e_x4
      subst e_x3
      refine lv_iload hx hb dX0_joinedOfParts_5 (lv_at hl 0 rfl) ?_
      refine lv_iload_n hx hb dX0_joinedOfParts_7 rfl (lv_at hl 4 rfl) ?_
      refine lv_icmp_ge (tgt := 41) hx hb dX0_joinedOfParts_8 (by decide) (fun c_8 => ?_) (fun c_8 => ?_)
      · have c_8 : n ≤ k := (nI_leI (a := n) (b := k) (by omega) (by omega)).mp c_8
        refine lv_iload_n hx hb dX0_joinedOfParts_41 rfl (lv_at hl 1 rfl) ?_
        have e_ret : (nI (jpF jo q k)) = (nI (jpF jo q n)) := by rw [show k = n by omega]
        exact W.iret (v := (nI (jpF jo q k))) hx hb hr (fun t ht hW => ⟨congrArg (fun z_ => Outcome.returned (some (Value.int z_))) e_ret, ht⟩) (fun q h => by cases h) dX0_joinedOfParts_42
      · have c_8 : k < n := Nat.lt_of_not_le (fun h_ => c_8 ((nI_leI (a := n) (b := k) (by omega) (by omega)).mpr h_))
        have hxl := xor_pow_lt hq (show k < n by omega)
        refine lv_iconst (v := 1) hx hb dX0_joinedOfParts_11 (by decide) ?_
        refine lv_iload hx hb dX0_joinedOfParts_12 (lv_at hl 0 rfl) ?_
        refine lv_ishl hx hb dX0_joinedOfParts_14 ?_
        refine lv_re (y := (nI (2 ^ k))) (nx_sh1 (k := k) (by omega)) ?_
        refine lv_istore (lv' := [(5, .int (nI (2 ^ k))), (4, .int (nI k)), (3, .int (nI (jpF jo q k))), (0, .ref h0), (1, .int (nI q)), (2, .int (nI n))]) hx hb dX0_joinedOfParts_15 hl (by decide) rfl (fun ls hl => ?_)
        refine lv_iload_n hx hb dX0_joinedOfParts_17 rfl (lv_at hl 4 rfl) ?_
        refine lv_iload hx hb dX0_joinedOfParts_18 (lv_at hl 0 rfl) ?_
        refine lv_iand hx hb dX0_joinedOfParts_20 ?_
        refine lv_re (y := (nI (q &&& (2 ^ k)))) (nx_and q (2 ^ k)) ?_
        refine lv_if_eq (tgt := 35) hx hb dX0_joinedOfParts_21 (by decide) (fun c_21 => ?_) (fun c_21 => ?_)
        · have c_21 : (q &&& (2 ^ k)) = 0 := (nI_eq (a := (q &&& (2 ^ k))) (b := 0) (Nat.lt_of_le_of_lt Nat.and_le_left (by omega)) (by decide)).mp c_21
          refine lv_iinc (v := (nI (k + 1))) (lv' := [(4, .int (nI (k + 1))), (5, .int (nI (2 ^ k))), (3, .int (nI (jpF jo q k))), (0, .ref h0), (1, .int (nI q)), (2, .int (nI n))]) hx hb dX0_joinedOfParts_35 hl (k := 1) rfl (nI_add _ 1) (by decide) rfl (fun ls hl => ?_)
          refine lv_goto (tgt := 5) hx hb dX0_joinedOfParts_38 (by decide) ?_
          exact ih_5 (k + 1) (by omega) (by omega) _ rfl _ (by rw [jpF, if_neg (by rw [and_pow.mp c_21]; decide)]) _ (lv_sub hl [0, 2, 3, 4, 5] rfl)
        · have c_21 : ¬ (q &&& (2 ^ k)) = 0 := fun h_ => c_21 ((nI_eq (a := (q &&& (2 ^ k))) (b := 0) (Nat.lt_of_le_of_lt Nat.and_le_left (by omega)) (by decide)).mpr h_)
          refine lv_iload_n hx hb dX0_joinedOfParts_24 rfl (lv_at hl 2 rfl) ?_
          refine lv_aload_n hx hb dX0_joinedOfParts_25 rfl (lv_at hl 3 rfl) ?_
          refine lv_iload_n hx hb dX0_joinedOfParts_26 rfl (lv_at hl 4 rfl) ?_
          refine lv_iload hx hb dX0_joinedOfParts_27 (lv_at hl 0 rfl) ?_
          refine lv_ixor hx hb dX0_joinedOfParts_29 ?_
          refine lv_re (y := (nI (q ^^^ (2 ^ k)))) (nx_xor q (2 ^ k)) ?_
          refine rd_V (As := [.int (nI (q ^^^ (2 ^ k)))]) (rest := [.int (nI (jpF jo q k))]) ⟨hx, hb, hml, hown, hts⟩ (c_X0_joinedOf l D h0 fs h5 cI N jo (q ^^^ (2 ^ k)) f1 (by omega) hN2) (cwV 1 hts gX0_joinedOfParts_X0_joinedOf rfl rfl rfl (by decide +kernel) ⟨Nat.le_of_ble_eq_true rfl, Nat.le_of_ble_eq_true rfl⟩) (hP.sub (ws' := [(h0, .inr (0, fs)), (h5, .inl (cI, N, .inl (fun i_ => nI (jo i_))))]) [0, 1] rfl) (hK.sub (tys' := [(cI, .int)]) [0] rfl) (va_recv hK hP (ci := 0) (q0 := 0) rfl rfl) rfl rfl hl.1 rfl (lv_room (Nat.le_of_ble_eq_true rfl)) dX0_joinedOfParts_30 ⟨Nat.le_of_ble_eq_true rfl, Nat.le_of_ble_eq_true rfl⟩ ?_
          refine lv_ior hx hb dX0_joinedOfParts_33 ?_
          refine lv_re (y := (nI ((jpF jo q k) ||| (jo (q ^^^ (2 ^ k)))))) (nx_or (jpF jo q k) (jo (q ^^^ (2 ^ k)))) ?_
          refine lv_istore_n (lv' := [(3, .int (nI ((jpF jo q k) ||| (jo (q ^^^ (2 ^ k)))))), (5, .int (nI (2 ^ k))), (4, .int (nI k)), (0, .ref h0), (1, .int (nI q)), (2, .int (nI n))]) hx hb dX0_joinedOfParts_34 rfl hl (by decide) rfl (fun ls hl => ?_)
          refine lv_iinc (v := (nI (k + 1))) (lv' := [(4, .int (nI (k + 1))), (3, .int (nI ((jpF jo q k) ||| (jo (q ^^^ (2 ^ k)))))), (5, .int (nI (2 ^ k))), (0, .ref h0), (1, .int (nI q)), (2, .int (nI n))]) hx hb dX0_joinedOfParts_35 hl (k := 2) rfl (nI_add _ 1) (by decide) rfl (fun ls hl => ?_)
          refine lv_goto (tgt := 5) hx hb dX0_joinedOfParts_38 (by decide) ?_
          exact ih_5 (k + 1) (by omega) (by omega) _ rfl _ (by rw [jpF, if_pos (and_pow_t c_21)]) _ (lv_sub hl [0, 1, 3, 4, 5] rfl)
  exact lp_5 _ 0 (Nat.lt_succ_self _) (Nat.zero_le _) _ rfl _ rfl _ (lv_sub hl [0, 1, 2, 3, 4] rfl)

set_option maxHeartbeats 4000000 in
set_option maxRecDepth 100000 in
theorem c_X0_build (l : Launch) (D : va_G) (sz : Nat) (h0 : Nat) (h2 : Nat) (h3 : Nat) (h4 : Nat) (h5 : Nat) (bt : Bool) (z : Nat) (cI : ClassId) (N : Nat) (pr : Nat → Nat) (cn : Nat → Nat) (jo : Nat → Nat) (ht : Nat) (ft : List Value) (hro : Nat) (n : Nat) (o : Nat) (r : Nat → Nat) (hf : Nat) (ff : List Value) (hle : Nat) (M : Nat) (g : Nat → Option Nat) (isp : Nat → Bool) (JO : Nat → Nat) (t0 : ft[0]? = some (.ref hro)) (t1 : ft[1]? = some (.int (nI n))) (t2 : ft[2]? = some (.int (nI o))) (g1 : ff[1]? = some (.ref hle)) (hn : n ≤ 12) (ho : o ≤ 20) (hN : 2 ^ n ≤ N) (hN2 : N ≤ 4096) (hM : 2 ^ n ≤ M) (hM2 : M ≤ 4096) (hgb : ∀ j v, g j = some v → v ≤ 4096) (hgc : ∀ q, q < 2 ^ n → (gB g q = true ↔ clo r n o q = q)) (hisp : ∀ q, q < 2 ^ n → isp q = (decide (¬ clo r n o q = q) && sN (jpF JO q n) q)) (hJO : ∀ q, q < 2 ^ n → JO q = if isp q = true then jpF JO q n ||| clo r n o q else jpF JO q n) (hJb : ∀ q, JO q < 2 ^ n) (hbt : bt = true → z = (BLp isp n (2 ^ n)).length ∧ lstAt pr (BLp isp n (2 ^ n)) ∧ ∀ j, j < z → cn j = clo r n o (pr j)) : Met l yX0_build wsX0_build ({ frames := 3, cells := 0, slots := 0, locals := 67 }) (va_Pc [.ref h0, .ref ht, .ref hf] (fun U => U.heap.size = sz ∧ va_P D vwCl [(h0, .inr (0, [.ref h4, .ref h5, .int (b2 bt)])), (h4, .inr (4, [.ref h2, .ref h3, .int (nI z)])), (h2, .inl (cI, N, .inl (fun i_ => nI (pr i_)))), (h3, .inl (cI, N, .inl (fun i_ => nI (cn i_)))), (h5, .inl (cI, N, .inl (fun i_ => nI (jo i_)))), (ht, .inr (5, ft)), (hro, .inl (cI, 20, .inl (fun i_ => nI (r i_)))), (hf, .inr (1, ff)), (hle, .inl (cI, M, .inl (fun i_ => lvO (g i_))))] U.heap ∧ va_K D vwCl [(cI, .int)] U ∧ va_D (fun _ => True) [(h0, .inr (0, [.ref h4, .ref h5, .int (b2 bt)])), (h4, .inr (4, [.ref h2, .ref h3, .int (nI z)])), (h2, .inl (cI, N, .inl (fun i_ => nI (pr i_)))), (h3, .inl (cI, N, .inl (fun i_ => nI (cn i_)))), (h5, .inl (cI, N, .inl (fun i_ => nI (jo i_)))), (ht, .inr (5, ft)), (hro, .inl (cI, 20, .inl (fun i_ => nI (r i_)))), (hf, .inr (1, ff)), (hle, .inl (cI, M, .inl (fun i_ => lvO (g i_))))])) (mxQ (fun u_ : Nat × (Nat → Nat) × (Nat → Nat) × (Nat → Nat) => match u_ with | (z', pr', cn', jo') => none) (fun u_ : Nat × (Nat → Nat) × (Nat → Nat) × (Nat → Nat) => match u_ with | (z', pr', cn', jo') => (z' = (BLp isp n (2 ^ n)).length ∧ lstAt pr' (BLp isp n (2 ^ n)) ∧ ∀ j, j < z' → cn' j = clo r n o (pr' j))) (fun u_ : Nat × (Nat → Nat) × (Nat → Nat) × (Nat → Nat) => match u_ with | (z', pr', cn', jo') => [(h0, .inr (0, [.ref h4, .ref h5, .int (b2 true)])), (h4, .inr (4, [.ref h2, .ref h3, .int (nI z')])), (h2, .inl (cI, N, .inl (fun i_ => nI (pr' i_)))), (h3, .inl (cI, N, .inl (fun i_ => nI (cn' i_)))), (h5, .inl (cI, N, .inl (fun i_ => nI (jo' i_)))), (ht, .inr (5, ft)), (hro, .inl (cI, 20, .inl (fun i_ => nI (r i_)))), (hf, .inr (1, ff)), (hle, .inl (cI, M, .inl (fun i_ => lvO (g i_))))]) D vwCl (va_A [(h0, .inr (0, [.ref h4, .ref h5, .int (b2 bt)])), (h4, .inr (4, [.ref h2, .ref h3, .int (nI z)])), (h2, .inl (cI, N, .inl (fun i_ => nI (pr i_)))), (h3, .inl (cI, N, .inl (fun i_ => nI (cn i_)))), (h5, .inl (cI, N, .inl (fun i_ => nI (jo i_)))), (ht, .inr (5, ft)), (hro, .inl (cI, 20, .inl (fun i_ => nI (r i_)))), (hf, .inr (1, ff)), (hle, .inl (cI, M, .inl (fun i_ => lvO (g i_))))] sz)) 0 0 (va_A [(h0, .inr (0, [.ref h4, .ref h5, .int (b2 bt)])), (h4, .inr (4, [.ref h2, .ref h3, .int (nI z)])), (h2, .inl (cI, N, .inl (fun i_ => nI (pr i_)))), (h3, .inl (cI, N, .inl (fun i_ => nI (cn i_)))), (h5, .inl (cI, N, .inl (fun i_ => nI (jo i_)))), (ht, .inr (5, ft)), (hro, .inl (cI, 20, .inl (fun i_ => nI (r i_)))), (hf, .inr (1, ff)), (hle, .inl (cI, M, .inl (fun i_ => lvO (g i_))))] sz) := by
  refine Met.ofW (cc := cX0_build) (maxL := 8) (ret := none) (by decide) rfl ?_
  intro p e s m args below meth c s₁ B hml hv
  obtain ⟨rfl, hsz, hP, hK, hD0⟩ := hv
  have hx := B.exec
  have hb := B.bytes
  have hr := B.returns
  have hts := atoms_spec (ws := wsX0_build) B.pre
  have hown : s.vm.findClass RX0 = some m.cls := findClass_of_methodNamed B.named
  have hlocks := B.notSynchronized
  subst hsz
  have hD := hD0.self (sz := s.heap.size)
  generalize hAe : va_A [(h0, .inr (0, [.ref h4, .ref h5, .int (b2 bt)])), (h4, .inr (4, [.ref h2, .ref h3, .int (nI z)])), (h2, .inl (cI, N, .inl (fun i_ => nI (pr i_)))), (h3, .inl (cI, N, .inl (fun i_ => nI (cn i_)))), (h5, .inl (cI, N, .inl (fun i_ => nI (jo i_)))), (ht, .inr (5, ft)), (hro, .inl (cI, 20, .inl (fun i_ => nI (r i_)))), (hf, .inr (1, ff)), (hle, .inl (cI, M, .inl (fun i_ => lvO (g i_))))] s.heap.size = A at hD ⊢
  have hA : ∀ q : Nat, s.heap.size ≤ q → A q := fun q h => by rw [← hAe]; exact Or.inr h
  have hS : va_S A s.heap s.heap [] := va_S.rf
  have hl := lv_entry ([.ref h0, .ref ht, .ref hf]) (n := 8) (Nat.le_of_ble_eq_true rfl)
  rw [lg_entry_eq]
  generalize (lg_sl ([.ref h0, .ref ht, .ref hf]) ++ List.replicate (8 - (lg_sl ([.ref h0, .ref ht, .ref hf])).length) Slot.unset).toArray = ls at hl ⊢
  have hl : lv_has ls 8 [(0, .ref h0), (1, .ref ht), (2, .ref hf)] := hl
  have h2n := p2_le hn
  have hq1 := p2_pos n
  refine lv_aload_n hx hb dX0_build_0 rfl (lv_at hl 0 rfl) ?_
  refine va_get (D := D) (ci := 0) (v := .int (b2 bt)) (C := RX0) (T := TX0) (N := 3) hx hb hts (by decide +kernel) hown hK hP 0 rfl rfl 2 (by decide) (hts (.fieldLink RX0 24 "ConceptTable$Base" "built" "Z") (by decide +kernel)) (fun _ h9 => h9) rfl dX0_build_1 ?_
  refine lv_if_eq (tgt := 8) hx hb dX0_build_4 (by decide) (fun c_4 => ?_) (fun c_4 => ?_)
  · have c_4 := b2_0.mp c_4
    refine lv_aload_n hx hb dX0_build_8 rfl (lv_at hl 0 rfl) ?_
    refine va_get (D := D) (ci := 0) (v := .ref h4) (C := RX0) (T := TX0) (N := 3) hx hb hts (by decide +kernel) hown hK hP 0 rfl rfl 0 (by decide) (hts (.fieldLink RX0 14 "ConceptTable$Base" "rules" "LConceptTable$Rules;") (by decide +kernel)) (fun _ h9 => h9) rfl dX0_build_9 ?_
    have hPc := hP.sub (ws' := [(h4, .inr (4, [.ref h2, .ref h3, .int (nI z)]))]) [1] rfl
    have hDc := hD.sub (ws' := [(h4, .inr (4, [.ref h2, .ref h3, .int (nI z)]))]) [1] (by decide) rfl
    have hKc := hK.sub (tys' := []) [] rfl
    have hFc := va_free (wc := [(h4, .inr (4, [.ref h2, .ref h3, .int (nI z)]))]) hD hS hA [1] rfl
    refine mu_call (va_runV (As := []) (rest := []) ⟨hx, hb, hml, hown, hts⟩ (c_X4_clear l D s.heap.size h4 h2 h3 z ) (cwV 0 hts gX0_build_X4_clear rfl rfl rfl (by decide +kernel) ⟨Nat.le_of_ble_eq_true rfl, Nat.le_of_ble_eq_true rfl⟩) ⟨mu_bl, va_recv hKc hPc (ci := 4) (q0 := 0) rfl rfl, fun U hU hW => ⟨rfl, by rw [hU], by rw [hU]; exact hPc, va_K.moved hW.alike hKc, hDc.weaken (fun _ _ _ _ => trivial)⟩⟩ rfl rfl hl.1 rfl (lv_room (Nat.le_of_ble_eq_true rfl)) dX0_build_12 ⟨Nat.le_of_ble_eq_true rfl, Nat.le_of_ble_eq_true rfl⟩) hS (fun q _ h => hFc q h) hFc (fun H1 locs hP1 hD1 hk1 hS => ?_)
    obtain ⟨hP, hD⟩ := va_join (wr := [(h0, .inr (0, [.ref h4, .ref h5, .int (b2 bt)])), (h2, .inl (cI, N, .inl (fun i_ => nI (pr i_)))), (h3, .inl (cI, N, .inl (fun i_ => nI (cn i_)))), (h5, .inl (cI, N, .inl (fun i_ => nI (jo i_)))), (ht, .inr (5, ft)), (hro, .inl (cI, 20, .inl (fun i_ => nI (r i_)))), (hf, .inr (1, ff)), (hle, .inl (cI, M, .inl (fun i_ => lvO (g i_))))]) (w1 := [(h4, .inr (4, [.ref h2, .ref h3, .int (nI 0)]))]) hP hD [1] [0, 2, 3, 4, 5, 6, 7, 8] rfl rfl (by decide) (by decide) hk1 hFc hP1 hD1
    generalize H1 = H at hP hS ⊢
    have hP : va_P D vwCl [(h0, .inr (0, [.ref h4, .ref h5, .int (b2 bt)])), (h2, .inl (cI, N, .inl (fun i_ => nI (pr i_)))), (h3, .inl (cI, N, .inl (fun i_ => nI (cn i_)))), (h5, .inl (cI, N, .inl (fun i_ => nI (jo i_)))), (ht, .inr (5, ft)), (hro, .inl (cI, 20, .inl (fun i_ => nI (r i_)))), (hf, .inr (1, ff)), (hle, .inl (cI, M, .inl (fun i_ => lvO (g i_)))), (h4, .inr (4, [.ref h2, .ref h3, .int (nI 0)]))] H := hP
    have hD : va_D A [(h0, .inr (0, [.ref h4, .ref h5, .int (b2 bt)])), (h2, .inl (cI, N, .inl (fun i_ => nI (pr i_)))), (h3, .inl (cI, N, .inl (fun i_ => nI (cn i_)))), (h5, .inl (cI, N, .inl (fun i_ => nI (jo i_)))), (ht, .inr (5, ft)), (hro, .inl (cI, 20, .inl (fun i_ => nI (r i_)))), (hf, .inr (1, ff)), (hle, .inl (cI, M, .inl (fun i_ => lvO (g i_)))), (h4, .inr (4, [.ref h2, .ref h3, .int (nI 0)]))] := hD
    refine lv_aload_n hx hb dX0_build_15 rfl (lv_at hl 1 rfl) ?_
    refine rd_V (As := []) (rest := []) ⟨hx, hb, hml, hown, hts⟩ (c_X6_attributes l D ht ft n t1) (cwV 0 hts gX0_build_X6_attributes rfl rfl rfl (by decide +kernel) ⟨Nat.le_of_ble_eq_true rfl, Nat.le_of_ble_eq_true rfl⟩) (hP.sub (ws' := [(ht, .inr (5, ft))]) [4] rfl) (hK.sub (tys' := []) [] rfl) (va_recv hK hP (ci := 5) (q0 := 4) rfl rfl) rfl rfl hl.1 rfl (lv_room (Nat.le_of_ble_eq_true rfl)) dX0_build_16 ⟨Nat.le_of_ble_eq_true rfl, Nat.le_of_ble_eq_true rfl⟩ ?_
    refine lv_istore_n (lv' := [(3, .int (nI n)), (0, .ref h0), (1, .ref ht), (2, .ref hf)]) hx hb dX0_build_19 rfl hl (by decide) rfl (fun ls hl => ?_)
    refine lv_iconst (v := 0) hx hb dX0_build_20 (by decide) ?_
    refine lv_istore (lv' := [(4, .int (0 : Int32)), (3, .int (nI n)), (0, .ref h0), (1, .ref ht), (2, .ref hf)]) hx hb dX0_build_21 hl (by decide) rfl (fun ls hl => ?_)
    refine lv_iconst (v := 0) hx hb dX0_build_23 (by decide) ?_
    refine lv_istore (lv' := [(5, .int (0 : Int32)), (4, .int (0 : Int32)), (3, .int (nI n)), (0, .ref h0), (1, .ref ht), (2, .ref hf)]) hx hb dX0_build_24 hl (by decide) rfl (fun ls hl => ?_)
    have lp_26 : ∀ (n_ : Nat) (k : Nat) (z1 : Nat) (pr1 : Nat → Nat) (cn1 : Nat → Nat) (jo1 : Nat → Nat) (sv : Int32), 2 ^ n - k < n_ → (k ≤ 2 ^ n) → (z1 = (BLp isp n k).length) → (lstAt pr1 (BLp isp n k)) → (∀ j, j < z1 → cn1 j = clo r n o (pr1 j)) → (∀ j, j < k → jo1 (tur n j n) = JO (tur n j n)) → (sv = if k < 2 ^ n then nI (tur n k n) else -1) → ∀ (x5 : Int32), x5 = nI k → ∀ (f_h4_2 : Int32), f_h4_2 = nI z1 → ∀ (H : Heap) (locs : List Loc), va_P D vwCl [(h0, .inr (0, [.ref h4, .ref h5, .int (b2 bt)])), (h2, .inl (cI, N, .inl (fun i_ => nI (pr1 i_)))), (h3, .inl (cI, N, .inl (fun i_ => nI (cn1 i_)))), (h5, .inl (cI, N, .inl (fun i_ => nI (jo1 i_)))), (ht, .inr (5, ft)), (hro, .inl (cI, 20, .inl (fun i_ => nI (r i_)))), (hf, .inr (1, ff)), (hle, .inl (cI, M, .inl (fun i_ => lvO (g i_)))), (h4, .inr (4, [.ref h2, .ref h3, .int f_h4_2]))] H → va_D A [(h0, .inr (0, [.ref h4, .ref h5, .int (b2 bt)])), (h2, .inl (cI, N, .inl (fun i_ => nI (pr1 i_)))), (h3, .inl (cI, N, .inl (fun i_ => nI (cn1 i_)))), (h5, .inl (cI, N, .inl (fun i_ => nI (jo1 i_)))), (ht, .inr (5, ft)), (hro, .inl (cI, 20, .inl (fun i_ => nI (r i_)))), (hf, .inr (1, ff)), (hle, .inl (cI, M, .inl (fun i_ => lvO (g i_)))), (h4, .inr (4, [.ref h2, .ref h3, .int f_h4_2]))] → va_S A s.heap H locs → ∀ (ls : Array Slot), lv_has ls 8 [(5, .int x5), (4, .int sv), (3, .int (nI n)), (0, .ref h0), (1, .ref ht), (2, .ref hf)] → W p l e (headSpec wsX0_build ({ frames := 3, cells := 0, slots := 0, locals := 67 })).room s m ([.ref h0, .ref ht, .ref hf] : List Value).toArray below meth c H locs 0 0 (MQ below (mxQ (fun u_ : Nat × (Nat → Nat) × (Nat → Nat) × (Nat → Nat) => match u_ with | (z', pr', cn', jo') => none) (fun u_ : Nat × (Nat → Nat) × (Nat → Nat) × (Nat → Nat) => match u_ with | (z', pr', cn', jo') => (z' = (BLp isp n (2 ^ n)).length ∧ lstAt pr' (BLp isp n (2 ^ n)) ∧ ∀ j, j < z' → cn' j = clo r n o (pr' j))) (fun u_ : Nat × (Nat → Nat) × (Nat → Nat) × (Nat → Nat) => match u_ with | (z', pr', cn', jo') => [(h0, .inr (0, [.ref h4, .ref h5, .int (b2 true)])), (h4, .inr (4, [.ref h2, .ref h3, .int (nI z')])), (h2, .inl (cI, N, .inl (fun i_ => nI (pr' i_)))), (h3, .inl (cI, N, .inl (fun i_ => nI (cn' i_)))), (h5, .inl (cI, N, .inl (fun i_ => nI (jo' i_)))), (ht, .inr (5, ft)), (hro, .inl (cI, 20, .inl (fun i_ => nI (r i_)))), (hf, .inr (1, ff)), (hle, .inl (cI, M, .inl (fun i_ => lvO (g i_))))]) D vwCl A) ([.ref h0, .ref ht, .ref hf] : List Value).toArray s 0 0 A) (F0 m 26 ls []) := by
      intro n_
      induction n_ with
      | zero => intro k z1 pr1 cn1 jo1 sv h0_; exact absurd h0_ (Nat.not_lt_zero _)
      | succ n_ ih_26 =>
        intro k z1 pr1 cn1 jo1 sv hm_26 hk hz1 hp1 hc1 hjo hsv x5 e_x5 f_h4_2 e_f_h4_2 H locs hP hD hS ls hl
        subst e_x5
        subst e_f_h4_2
        refine lv_iload hx hb dX0_build_26 (lv_at hl 0 rfl) ?_
        refine lv_iconst (v := 1) hx hb dX0_build_28 (by decide) ?_
        refine lv_iload_n hx hb dX0_build_29 rfl (lv_at hl 2 rfl) ?_
        refine lv_ishl hx hb dX0_build_30 ?_
        refine lv_re (y := (nI (2 ^ n))) (nx_sh1 (k := n) (by omega)) ?_
        refine lv_icmp_ge (tgt := 116) hx hb dX0_build_31 (by decide) (fun c_31 => ?_) (fun c_31 => ?_)
        · have c_31 : (2 ^ n) ≤ k := (nI_leI (a := (2 ^ n)) (b := k) (by omega) (by omega)).mp c_31
          refine lv_aload_n hx hb dX0_build_116 rfl (lv_at hl 3 rfl) ?_
          refine lv_iconst (v := 1) hx hb dX0_build_117 (by decide) ?_
          refine va_put (D := D) (ci := 0) (v := .int (1 : Int32)) (ty := .boolean) (C := RX0) (T := TX0) (N := 3) hx hb hts (by decide +kernel) tyX0 tyX0_ok nmX0 hown hK hP hD hS 0 rfl rfl 2 (by decide) (hts (.fieldLink RX0 24 "ConceptTable$Base" "built" "Z") (by decide +kernel)) (fun _ h9 => h9) rfl (by decide +kernel) rfl rfl (Nat.le_of_ble_eq_true rfl) dX0_build_118 (fun H locs hP hD hS => ?_)
          have hP : va_P D vwCl [(h0, .inr (0, [.ref h4, .ref h5, .int (1 : Int32)])), (h2, .inl (cI, N, .inl (fun i_ => nI (pr1 i_)))), (h3, .inl (cI, N, .inl (fun i_ => nI (cn1 i_)))), (h5, .inl (cI, N, .inl (fun i_ => nI (jo1 i_)))), (ht, .inr (5, ft)), (hro, .inl (cI, 20, .inl (fun i_ => nI (r i_)))), (hf, .inr (1, ff)), (hle, .inl (cI, M, .inl (fun i_ => lvO (g i_)))), (h4, .inr (4, [.ref h2, .ref h3, .int (nI z1)]))] H := hP
          have hD : va_D A [(h0, .inr (0, [.ref h4, .ref h5, .int (1 : Int32)])), (h2, .inl (cI, N, .inl (fun i_ => nI (pr1 i_)))), (h3, .inl (cI, N, .inl (fun i_ => nI (cn1 i_)))), (h5, .inl (cI, N, .inl (fun i_ => nI (jo1 i_)))), (ht, .inr (5, ft)), (hro, .inl (cI, 20, .inl (fun i_ => nI (r i_)))), (hf, .inr (1, ff)), (hle, .inl (cI, M, .inl (fun i_ => lvO (g i_)))), (h4, .inr (4, [.ref h2, .ref h3, .int (nI z1)]))] := hD
          have hP := hP.sub (ws' := [(h0, .inr (0, [.ref h4, .ref h5, .int (1 : Int32)])), (h4, .inr (4, [.ref h2, .ref h3, .int (nI z1)])), (h2, .inl (cI, N, .inl (fun i_ => nI (pr1 i_)))), (h3, .inl (cI, N, .inl (fun i_ => nI (cn1 i_)))), (h5, .inl (cI, N, .inl (fun i_ => nI (jo1 i_)))), (ht, .inr (5, ft)), (hro, .inl (cI, 20, .inl (fun i_ => nI (r i_)))), (hf, .inr (1, ff)), (hle, .inl (cI, M, .inl (fun i_ => lvO (g i_))))]) [0, 8, 1, 2, 3, 4, 5, 6, 7] rfl
          have hD := hD.sub (ws' := [(h0, .inr (0, [.ref h4, .ref h5, .int (1 : Int32)])), (h4, .inr (4, [.ref h2, .ref h3, .int (nI z1)])), (h2, .inl (cI, N, .inl (fun i_ => nI (pr1 i_)))), (h3, .inl (cI, N, .inl (fun i_ => nI (cn1 i_)))), (h5, .inl (cI, N, .inl (fun i_ => nI (jo1 i_)))), (ht, .inr (5, ft)), (hro, .inl (cI, 20, .inl (fun i_ => nI (r i_)))), (hf, .inr (1, ff)), (hle, .inl (cI, M, .inl (fun i_ => lvO (g i_))))]) [0, 8, 1, 2, 3, 4, 5, 6, 7] (by decide) rfl
          exact W.vret hx hb hr (fun t ht hW => ⟨⟨(z1, pr1, cn1, jo1), rfl, (by rw [show (2 : Nat) ^ n = k by omega]; exact ⟨hz1, hp1, hc1⟩), by rw [ht]; exact hP, hD⟩, hS.F ht⟩) hS.2.2 dX0_build_121
        · have c_31 : k < (2 ^ n) := Nat.lt_of_not_le (fun h_ => c_31 ((nI_leI (a := (2 ^ n)) (b := k) (by omega) (by omega)).mpr h_))
          have hkl : k < 2 ^ n := by omega
          have ht_ := tur_lt n k n
          have hsv_ : sv = nI (tur n k n) := by rw [hsv, if_pos hkl]
          have hple := BLp_len isp n k
          have hjp := jo_part hkl hjo
          have hcl_ := clo_lt r n o (tur n k n)
          have hjl_ : jpF jo1 (tur n k n) n < 2 ^ n := by rw [hjp]; exact jpF_lt hJb n
          refine lv_iload hx hb dX0_build_34 (lv_at hl 1 rfl) ?_
          refine lv_iconst (v := -1) hx hb dX0_build_36 (by decide) ?_
          refine lv_icmp_eq (tgt := 116) hx hb dX0_build_37 (by decide) (fun c_37 => ?_) (fun c_37 => ?_)
          · exact absurd (hsv_.symm.trans c_37) (nI_ne1 (by omega))
          · refine lv_aload_n hx hb dX0_build_40 rfl (lv_at hl 3 rfl) ?_
            refine lv_iload hx hb dX0_build_41 (lv_at hl 1 rfl) ?_
            refine lv_re (y := (nI (tur n k n))) hsv_ ?_
            refine lv_iload_n hx hb dX0_build_43 rfl (lv_at hl 2 rfl) ?_
            refine rd_V (As := [.int (nI (tur n k n)), .int (nI n)]) (rest := []) ⟨hx, hb, hml, hown, hts⟩ (c_X0_joinedOfParts l D h0 ([.ref h4, .ref h5, .int (b2 bt)]) h5 cI N jo1 (tur n k n) n rfl hn hN hN2 ht_) (cwV 2 hts gX0_build_X0_joinedOfParts rfl rfl rfl (by decide +kernel) ⟨Nat.le_of_ble_eq_true rfl, Nat.le_of_ble_eq_true rfl⟩) (hP.sub (ws' := [(h0, .inr (0, [.ref h4, .ref h5, .int (b2 bt)])), (h5, .inl (cI, N, .inl (fun i_ => nI (jo1 i_))))]) [0, 3] rfl) (hK.sub (tys' := [(cI, .int)]) [0] rfl) (va_recv hK hP (ci := 0) (q0 := 0) rfl rfl) rfl rfl hl.1 rfl (lv_room (Nat.le_of_ble_eq_true rfl)) dX0_build_44 ⟨Nat.le_of_ble_eq_true rfl, Nat.le_of_ble_eq_true rfl⟩ ?_
            refine lv_istore (lv' := [(6, .int (nI (jpF jo1 (tur n k n) n))), (5, .int (nI k)), (4, .int sv), (3, .int (nI n)), (0, .ref h0), (1, .ref ht), (2, .ref hf)]) hx hb dX0_build_47 hl (by decide) rfl (fun ls hl => ?_)
            refine lv_aload_n hx hb dX0_build_49 rfl (lv_at hl 6 rfl) ?_
            refine lv_iload hx hb dX0_build_50 (lv_at hl 2 rfl) ?_
            refine lv_re (y := (nI (tur n k n))) hsv_ ?_
            refine rd_V (As := [.int (nI (tur n k n))]) (rest := []) ⟨hx, hb, hml, hown, hts⟩ (c_X1_isClosed l D hf ff hle cI M g (tur n k n) g1 (by omega) hM2 hgb) (cwV 1 hts gX0_build_X1_isClosed rfl rfl rfl (by decide +kernel) ⟨Nat.le_of_ble_eq_true rfl, Nat.le_of_ble_eq_true rfl⟩) (hP.sub (ws' := [(hf, .inr (1, ff)), (hle, .inl (cI, M, .inl (fun i_ => lvO (g i_))))]) [6, 7] rfl) (hK.sub (tys' := [(cI, .int)]) [0] rfl) (va_recv hK hP (ci := 1) (q0 := 6) rfl rfl) rfl rfl hl.1 rfl (lv_room (Nat.le_of_ble_eq_true rfl)) dX0_build_52 ⟨Nat.le_of_ble_eq_true rfl, Nat.le_of_ble_eq_true rfl⟩ ?_
            refine lv_if_ne (tgt := 94) hx hb dX0_build_55 (by decide) (fun c_55 => ?_) (fun c_55 => ?_)
            · have c_55 := b2_n0.mp c_55
              refine lv_aload_n hx hb dX0_build_94 rfl (lv_at hl 4 rfl) ?_
              refine lv_iload hx hb dX0_build_95 (lv_at hl 2 rfl) ?_
              refine lv_re (y := (nI (tur n k n))) hsv_ ?_
              refine lv_iload hx hb dX0_build_97 (lv_at hl 0 rfl) ?_
              have hPc := hP.sub (ws' := [(h0, .inr (0, [.ref h4, .ref h5, .int (b2 bt)])), (h5, .inl (cI, N, .inl (fun i_ => nI (jo1 i_))))]) [0, 3] rfl
              have hDc := hD.sub (ws' := [(h0, .inr (0, [.ref h4, .ref h5, .int (b2 bt)])), (h5, .inl (cI, N, .inl (fun i_ => nI (jo1 i_))))]) [0, 3] (by decide) rfl
              have hKc := hK.sub (tys' := [(cI, .int)]) [0] rfl
              have hFc := va_free (wc := [(h0, .inr (0, [.ref h4, .ref h5, .int (b2 bt)])), (h5, .inl (cI, N, .inl (fun i_ => nI (jo1 i_))))]) hD hS hA [0, 3] rfl
              refine mu_call (va_runV (As := [.int (nI (tur n k n)), .int (nI (jpF jo1 (tur n k n) n))]) (rest := []) ⟨hx, hb, hml, hown, hts⟩ (c_X0_setJoined l D H.size h0 ([.ref h4, .ref h5, .int (b2 bt)]) h5 cI N jo1 (tur n k n) (jpF jo1 (tur n k n) n) rfl (by omega) hN2) (cwV 2 hts gX0_build_X0_setJoined rfl rfl rfl (by decide +kernel) ⟨Nat.le_of_ble_eq_true rfl, Nat.le_of_ble_eq_true rfl⟩) ⟨mu_bl, va_recv hKc hPc (ci := 0) (q0 := 0) rfl rfl, fun U hU hW => ⟨rfl, by rw [hU], by rw [hU]; exact hPc, va_K.moved hW.alike hKc, hDc.weaken (fun _ _ _ _ => trivial)⟩⟩ rfl rfl hl.1 rfl (lv_room (Nat.le_of_ble_eq_true rfl)) dX0_build_99 ⟨Nat.le_of_ble_eq_true rfl, Nat.le_of_ble_eq_true rfl⟩) hS (fun q _ h => hFc q h) hFc (fun H1 locs hP1 hD1 hk1 hS => ?_)
              obtain ⟨hP, hD⟩ := va_join (wr := [(h2, .inl (cI, N, .inl (fun i_ => nI (pr1 i_)))), (h3, .inl (cI, N, .inl (fun i_ => nI (cn1 i_)))), (ht, .inr (5, ft)), (hro, .inl (cI, 20, .inl (fun i_ => nI (r i_)))), (hf, .inr (1, ff)), (hle, .inl (cI, M, .inl (fun i_ => lvO (g i_)))), (h4, .inr (4, [.ref h2, .ref h3, .int (nI z1)]))]) (w1 := [(h0, .inr (0, [.ref h4, .ref h5, .int (b2 bt)])), (h5, .inl (cI, N, .inl (fun i_ => nI ((va_up jo1 (tur n k n) (jpF jo1 (tur n k n) n)) i_))))]) hP hD [0, 3] [1, 2, 4, 5, 6, 7, 8] rfl rfl (by decide) (by decide) hk1 hFc hP1 hD1
              generalize H1 = H at hP hS ⊢
              have hP : va_P D vwCl [(h2, .inl (cI, N, .inl (fun i_ => nI (pr1 i_)))), (h3, .inl (cI, N, .inl (fun i_ => nI (cn1 i_)))), (ht, .inr (5, ft)), (hro, .inl (cI, 20, .inl (fun i_ => nI (r i_)))), (hf, .inr (1, ff)), (hle, .inl (cI, M, .inl (fun i_ => lvO (g i_)))), (h4, .inr (4, [.ref h2, .ref h3, .int (nI z1)])), (h0, .inr (0, [.ref h4, .ref h5, .int (b2 bt)])), (h5, .inl (cI, N, .inl (fun i_ => nI ((va_up jo1 (tur n k n) (jpF jo1 (tur n k n) n)) i_))))] H := hP
              have hD : va_D A [(h2, .inl (cI, N, .inl (fun i_ => nI (pr1 i_)))), (h3, .inl (cI, N, .inl (fun i_ => nI (cn1 i_)))), (ht, .inr (5, ft)), (hro, .inl (cI, 20, .inl (fun i_ => nI (r i_)))), (hf, .inr (1, ff)), (hle, .inl (cI, M, .inl (fun i_ => lvO (g i_)))), (h4, .inr (4, [.ref h2, .ref h3, .int (nI z1)])), (h0, .inr (0, [.ref h4, .ref h5, .int (b2 bt)])), (h5, .inl (cI, N, .inl (fun i_ => nI ((va_up jo1 (tur n k n) (jpF jo1 (tur n k n) n)) i_))))] := hD
              refine lv_iload hx hb dX0_build_102 (lv_at hl 2 rfl) ?_
              refine lv_re (y := (nI (tur n k n))) hsv_ ?_
              refine lv_iload_n hx hb dX0_build_104 rfl (lv_at hl 3 rfl) ?_
              refine rd_S (As := [.int (nI (tur n k n)), .int (nI n)]) (rest := []) ⟨hx, hb, hml, hown, hts⟩ (c_X5_rightBehind l D (tur n k n) n hn ht_) (va_cwS 2 hts gX0_build_X5_rightBehind rfl rfl rfl (by decide +kernel) ⟨Nat.le_of_ble_eq_true rfl, Nat.le_of_ble_eq_true rfl⟩) (hP.sub (ws' := []) [] rfl) (hK.sub (tys' := []) [] rfl) rfl rfl hl.1 rfl (lv_room (Nat.le_of_ble_eq_true rfl)) dX0_build_105 ⟨Nat.le_of_ble_eq_true rfl, Nat.le_of_ble_eq_true rfl⟩ ?_
              refine lv_istore (lv' := [(4, .int (rbF n (tur n k n))), (6, .int (nI (jpF jo1 (tur n k n) n))), (5, .int (nI k)), (3, .int (nI n)), (0, .ref h0), (1, .ref ht), (2, .ref hf)]) hx hb dX0_build_108 hl (by decide) rfl (fun ls hl => ?_)
              refine lv_iinc (v := (nI (k + 1))) (lv' := [(5, .int (nI (k + 1))), (4, .int (rbF n (tur n k n))), (6, .int (nI (jpF jo1 (tur n k n) n))), (3, .int (nI n)), (0, .ref h0), (1, .ref ht), (2, .ref hf)]) hx hb dX0_build_110 hl (k := 2) rfl (nI_add _ 1) (by decide) rfl (fun ls hl => ?_)
              refine lv_goto (tgt := 26) hx hb dX0_build_113 (by decide) ?_
              have hnp : isp (tur n k n) = false := by rw [hisp _ ht_, decide_eq_false (fun z_ => z_ ((hgc _ ht_).mp c_55))]; rfl
              exact ih_26 (k + 1) z1 pr1 cn1 (va_up jo1 (tur n k n) (jpF jo1 (tur n k n) n)) (rbF n (tur n k n)) (by omega) (by omega) (by rw [BLp, if_neg (by rw [hnp]; decide)]; exact hz1) (by rw [BLp, if_neg (by rw [hnp]; decide)]; exact hp1) hc1 (fun j hj => if h_ : tur n j n = tur n k n then by rw [h_, va_up_self]; exact (by rw [hjp, hJO _ ht_, if_neg (by rw [hnp]; decide)]) else by rw [va_up_ne _ _ h_]; exact hjo j (by have : ¬ j = k := fun z_ => h_ (by rw [z_]); omega)) (rb_next hkl) _ rfl _ rfl _ _ (hP.sub [7, 0, 1, 8, 2, 3, 4, 5, 6] rfl) (hD.sub [7, 0, 1, 8, 2, 3, 4, 5, 6] (by decide) rfl) hS _ (lv_sub hl [0, 1, 3, 4, 5, 6] rfl)
            · have c_55 := b2_0.mp c_55
              refine lv_iload hx hb dX0_build_58 (lv_at hl 2 rfl) ?_
              refine lv_re (y := (nI (tur n k n))) hsv_ ?_
              refine lv_iload hx hb dX0_build_60 (lv_at hl 0 rfl) ?_
              refine rd_S (As := [.int (nI (tur n k n)), .int (nI (jpF jo1 (tur n k n) n))]) (rest := []) ⟨hx, hb, hml, hown, hts⟩ (c_X5_hasAll_N l D (tur n k n) (jpF jo1 (tur n k n) n) (by omega)) (va_cwS 2 hts gX0_build_X5_hasAll rfl rfl rfl (by decide +kernel) ⟨Nat.le_of_ble_eq_true rfl, Nat.le_of_ble_eq_true rfl⟩) (hP.sub (ws' := []) [] rfl) (hK.sub (tys' := []) [] rfl) rfl rfl hl.1 rfl (lv_room (Nat.le_of_ble_eq_true rfl)) dX0_build_62 ⟨Nat.le_of_ble_eq_true rfl, Nat.le_of_ble_eq_true rfl⟩ ?_
              refine lv_if_eq (tgt := 94) hx hb dX0_build_65 (by decide) (fun c_65 => ?_) (fun c_65 => ?_)
              · have c_65 := b2_0.mp c_65
                refine lv_aload_n hx hb dX0_build_94 rfl (lv_at hl 4 rfl) ?_
                refine lv_iload hx hb dX0_build_95 (lv_at hl 2 rfl) ?_
                refine lv_re (y := (nI (tur n k n))) hsv_ ?_
                refine lv_iload hx hb dX0_build_97 (lv_at hl 0 rfl) ?_
                have hPc := hP.sub (ws' := [(h0, .inr (0, [.ref h4, .ref h5, .int (b2 bt)])), (h5, .inl (cI, N, .inl (fun i_ => nI (jo1 i_))))]) [0, 3] rfl
                have hDc := hD.sub (ws' := [(h0, .inr (0, [.ref h4, .ref h5, .int (b2 bt)])), (h5, .inl (cI, N, .inl (fun i_ => nI (jo1 i_))))]) [0, 3] (by decide) rfl
                have hKc := hK.sub (tys' := [(cI, .int)]) [0] rfl
                have hFc := va_free (wc := [(h0, .inr (0, [.ref h4, .ref h5, .int (b2 bt)])), (h5, .inl (cI, N, .inl (fun i_ => nI (jo1 i_))))]) hD hS hA [0, 3] rfl
                refine mu_call (va_runV (As := [.int (nI (tur n k n)), .int (nI (jpF jo1 (tur n k n) n))]) (rest := []) ⟨hx, hb, hml, hown, hts⟩ (c_X0_setJoined l D H.size h0 ([.ref h4, .ref h5, .int (b2 bt)]) h5 cI N jo1 (tur n k n) (jpF jo1 (tur n k n) n) rfl (by omega) hN2) (cwV 2 hts gX0_build_X0_setJoined rfl rfl rfl (by decide +kernel) ⟨Nat.le_of_ble_eq_true rfl, Nat.le_of_ble_eq_true rfl⟩) ⟨mu_bl, va_recv hKc hPc (ci := 0) (q0 := 0) rfl rfl, fun U hU hW => ⟨rfl, by rw [hU], by rw [hU]; exact hPc, va_K.moved hW.alike hKc, hDc.weaken (fun _ _ _ _ => trivial)⟩⟩ rfl rfl hl.1 rfl (lv_room (Nat.le_of_ble_eq_true rfl)) dX0_build_99 ⟨Nat.le_of_ble_eq_true rfl, Nat.le_of_ble_eq_true rfl⟩) hS (fun q _ h => hFc q h) hFc (fun H1 locs hP1 hD1 hk1 hS => ?_)
                obtain ⟨hP, hD⟩ := va_join (wr := [(h2, .inl (cI, N, .inl (fun i_ => nI (pr1 i_)))), (h3, .inl (cI, N, .inl (fun i_ => nI (cn1 i_)))), (ht, .inr (5, ft)), (hro, .inl (cI, 20, .inl (fun i_ => nI (r i_)))), (hf, .inr (1, ff)), (hle, .inl (cI, M, .inl (fun i_ => lvO (g i_)))), (h4, .inr (4, [.ref h2, .ref h3, .int (nI z1)]))]) (w1 := [(h0, .inr (0, [.ref h4, .ref h5, .int (b2 bt)])), (h5, .inl (cI, N, .inl (fun i_ => nI ((va_up jo1 (tur n k n) (jpF jo1 (tur n k n) n)) i_))))]) hP hD [0, 3] [1, 2, 4, 5, 6, 7, 8] rfl rfl (by decide) (by decide) hk1 hFc hP1 hD1
                generalize H1 = H at hP hS ⊢
                have hP : va_P D vwCl [(h2, .inl (cI, N, .inl (fun i_ => nI (pr1 i_)))), (h3, .inl (cI, N, .inl (fun i_ => nI (cn1 i_)))), (ht, .inr (5, ft)), (hro, .inl (cI, 20, .inl (fun i_ => nI (r i_)))), (hf, .inr (1, ff)), (hle, .inl (cI, M, .inl (fun i_ => lvO (g i_)))), (h4, .inr (4, [.ref h2, .ref h3, .int (nI z1)])), (h0, .inr (0, [.ref h4, .ref h5, .int (b2 bt)])), (h5, .inl (cI, N, .inl (fun i_ => nI ((va_up jo1 (tur n k n) (jpF jo1 (tur n k n) n)) i_))))] H := hP
                have hD : va_D A [(h2, .inl (cI, N, .inl (fun i_ => nI (pr1 i_)))), (h3, .inl (cI, N, .inl (fun i_ => nI (cn1 i_)))), (ht, .inr (5, ft)), (hro, .inl (cI, 20, .inl (fun i_ => nI (r i_)))), (hf, .inr (1, ff)), (hle, .inl (cI, M, .inl (fun i_ => lvO (g i_)))), (h4, .inr (4, [.ref h2, .ref h3, .int (nI z1)])), (h0, .inr (0, [.ref h4, .ref h5, .int (b2 bt)])), (h5, .inl (cI, N, .inl (fun i_ => nI ((va_up jo1 (tur n k n) (jpF jo1 (tur n k n) n)) i_))))] := hD
                refine lv_iload hx hb dX0_build_102 (lv_at hl 2 rfl) ?_
                refine lv_re (y := (nI (tur n k n))) hsv_ ?_
                refine lv_iload_n hx hb dX0_build_104 rfl (lv_at hl 3 rfl) ?_
                refine rd_S (As := [.int (nI (tur n k n)), .int (nI n)]) (rest := []) ⟨hx, hb, hml, hown, hts⟩ (c_X5_rightBehind l D (tur n k n) n hn ht_) (va_cwS 2 hts gX0_build_X5_rightBehind rfl rfl rfl (by decide +kernel) ⟨Nat.le_of_ble_eq_true rfl, Nat.le_of_ble_eq_true rfl⟩) (hP.sub (ws' := []) [] rfl) (hK.sub (tys' := []) [] rfl) rfl rfl hl.1 rfl (lv_room (Nat.le_of_ble_eq_true rfl)) dX0_build_105 ⟨Nat.le_of_ble_eq_true rfl, Nat.le_of_ble_eq_true rfl⟩ ?_
                refine lv_istore (lv' := [(4, .int (rbF n (tur n k n))), (6, .int (nI (jpF jo1 (tur n k n) n))), (5, .int (nI k)), (3, .int (nI n)), (0, .ref h0), (1, .ref ht), (2, .ref hf)]) hx hb dX0_build_108 hl (by decide) rfl (fun ls hl => ?_)
                refine lv_iinc (v := (nI (k + 1))) (lv' := [(5, .int (nI (k + 1))), (4, .int (rbF n (tur n k n))), (6, .int (nI (jpF jo1 (tur n k n) n))), (3, .int (nI n)), (0, .ref h0), (1, .ref ht), (2, .ref hf)]) hx hb dX0_build_110 hl (k := 2) rfl (nI_add _ 1) (by decide) rfl (fun ls hl => ?_)
                refine lv_goto (tgt := 26) hx hb dX0_build_113 (by decide) ?_
                have hnp : isp (tur n k n) = false := by rw [hjp] at c_65; rw [hisp _ ht_, c_65, Bool.and_false]
                exact ih_26 (k + 1) z1 pr1 cn1 (va_up jo1 (tur n k n) (jpF jo1 (tur n k n) n)) (rbF n (tur n k n)) (by omega) (by omega) (by rw [BLp, if_neg (by rw [hnp]; decide)]; exact hz1) (by rw [BLp, if_neg (by rw [hnp]; decide)]; exact hp1) hc1 (fun j hj => if h_ : tur n j n = tur n k n then by rw [h_, va_up_self]; exact (by rw [hjp, hJO _ ht_, if_neg (by rw [hnp]; decide)]) else by rw [va_up_ne _ _ h_]; exact hjo j (by have : ¬ j = k := fun z_ => h_ (by rw [z_]); omega)) (rb_next hkl) _ rfl _ rfl _ _ (hP.sub [7, 0, 1, 8, 2, 3, 4, 5, 6] rfl) (hD.sub [7, 0, 1, 8, 2, 3, 4, 5, 6] (by decide) rfl) hS _ (lv_sub hl [0, 1, 3, 4, 5, 6] rfl)
              · have c_65 := b2_n0.mp c_65
                refine lv_aload_n hx hb dX0_build_68 rfl (lv_at hl 5 rfl) ?_
                refine lv_iload hx hb dX0_build_69 (lv_at hl 2 rfl) ?_
                refine lv_re (y := (nI (tur n k n))) hsv_ ?_
                refine rd_V (As := [.int (nI (tur n k n))]) (rest := []) ⟨hx, hb, hml, hown, hts⟩ (c_X6_closureOf l D ht ft hro cI n o r (tur n k n) t0 t1 t2 hn ho (by omega)) (cwV 1 hts gX0_build_X6_closureOf rfl rfl rfl (by decide +kernel) ⟨Nat.le_of_ble_eq_true rfl, Nat.le_of_ble_eq_true rfl⟩) (hP.sub (ws' := [(ht, .inr (5, ft)), (hro, .inl (cI, 20, .inl (fun i_ => nI (r i_))))]) [4, 5] rfl) (hK.sub (tys' := [(cI, .int)]) [0] rfl) (va_recv hK hP (ci := 5) (q0 := 4) rfl rfl) rfl rfl hl.1 rfl (lv_room (Nat.le_of_ble_eq_true rfl)) dX0_build_71 ⟨Nat.le_of_ble_eq_true rfl, Nat.le_of_ble_eq_true rfl⟩ ?_
                refine lv_istore (lv' := [(7, .int (nI (clo r n o (tur n k n)))), (6, .int (nI (jpF jo1 (tur n k n) n))), (5, .int (nI k)), (4, .int sv), (3, .int (nI n)), (0, .ref h0), (1, .ref ht), (2, .ref hf)]) hx hb dX0_build_74 hl (by decide) rfl (fun ls hl => ?_)
                refine lv_aload_n hx hb dX0_build_76 rfl (lv_at hl 5 rfl) ?_
                refine va_get (D := D) (ci := 0) (v := .ref h4) (C := RX0) (T := TX0) (N := 3) hx hb hts (by decide +kernel) hown hK hP 0 rfl rfl 0 (by decide) (hts (.fieldLink RX0 14 "ConceptTable$Base" "rules" "LConceptTable$Rules;") (by decide +kernel)) (fun _ h9 => h9) rfl dX0_build_77 ?_
                refine lv_iload hx hb dX0_build_80 (lv_at hl 3 rfl) ?_
                refine lv_re (y := (nI (tur n k n))) hsv_ ?_
                refine lv_iload hx hb dX0_build_82 (lv_at hl 0 rfl) ?_
                have hPc := hP.sub (ws' := [(h4, .inr (4, [.ref h2, .ref h3, .int (nI z1)])), (h2, .inl (cI, N, .inl (fun i_ => nI (pr1 i_)))), (h3, .inl (cI, N, .inl (fun i_ => nI (cn1 i_))))]) [8, 1, 2] rfl
                have hDc := hD.sub (ws' := [(h4, .inr (4, [.ref h2, .ref h3, .int (nI z1)])), (h2, .inl (cI, N, .inl (fun i_ => nI (pr1 i_)))), (h3, .inl (cI, N, .inl (fun i_ => nI (cn1 i_))))]) [8, 1, 2] (by decide) rfl
                have hKc := hK.sub (tys' := [(cI, .int)]) [0] rfl
                have hFc := va_free (wc := [(h4, .inr (4, [.ref h2, .ref h3, .int (nI z1)])), (h2, .inl (cI, N, .inl (fun i_ => nI (pr1 i_)))), (h3, .inl (cI, N, .inl (fun i_ => nI (cn1 i_))))]) hD hS hA [8, 1, 2] rfl
                refine mu_call (va_runV (As := [.int (nI (tur n k n)), .int (nI (clo r n o (tur n k n)))]) (rest := []) ⟨hx, hb, hml, hown, hts⟩ (c_X4_append l D H.size h4 h2 h3 z1 cI N pr1 cn1 (tur n k n) (clo r n o (tur n k n)) (by omega) hN2) (cwV 2 hts gX0_build_X4_append rfl rfl rfl (by decide +kernel) ⟨Nat.le_of_ble_eq_true rfl, Nat.le_of_ble_eq_true rfl⟩) ⟨mu_bl, va_recv hKc hPc (ci := 4) (q0 := 0) rfl rfl, fun U hU hW => ⟨rfl, by rw [hU], by rw [hU]; exact hPc, va_K.moved hW.alike hKc, hDc.weaken (fun _ _ _ _ => trivial)⟩⟩ rfl rfl hl.1 rfl (lv_room (Nat.le_of_ble_eq_true rfl)) dX0_build_84 ⟨Nat.le_of_ble_eq_true rfl, Nat.le_of_ble_eq_true rfl⟩) hS (fun q _ h => hFc q h) hFc (fun H1 locs hP1 hD1 hk1 hS => ?_)
                obtain ⟨hP, hD⟩ := va_join (wr := [(h0, .inr (0, [.ref h4, .ref h5, .int (b2 bt)])), (h5, .inl (cI, N, .inl (fun i_ => nI (jo1 i_)))), (ht, .inr (5, ft)), (hro, .inl (cI, 20, .inl (fun i_ => nI (r i_)))), (hf, .inr (1, ff)), (hle, .inl (cI, M, .inl (fun i_ => lvO (g i_))))]) (w1 := [(h4, .inr (4, [.ref h2, .ref h3, .int (nI (z1 + 1))])), (h2, .inl (cI, N, .inl (fun i_ => nI ((va_up pr1 z1 (tur n k n)) i_)))), (h3, .inl (cI, N, .inl (fun i_ => nI ((va_up cn1 z1 (clo r n o (tur n k n))) i_))))]) hP hD [8, 1, 2] [0, 3, 4, 5, 6, 7] rfl rfl (by decide) (by decide) hk1 hFc hP1 hD1
                generalize H1 = H at hP hS ⊢
                have hP : va_P D vwCl [(h0, .inr (0, [.ref h4, .ref h5, .int (b2 bt)])), (h5, .inl (cI, N, .inl (fun i_ => nI (jo1 i_)))), (ht, .inr (5, ft)), (hro, .inl (cI, 20, .inl (fun i_ => nI (r i_)))), (hf, .inr (1, ff)), (hle, .inl (cI, M, .inl (fun i_ => lvO (g i_)))), (h4, .inr (4, [.ref h2, .ref h3, .int (nI (z1 + 1))])), (h2, .inl (cI, N, .inl (fun i_ => nI ((va_up pr1 z1 (tur n k n)) i_)))), (h3, .inl (cI, N, .inl (fun i_ => nI ((va_up cn1 z1 (clo r n o (tur n k n))) i_))))] H := hP
                have hD : va_D A [(h0, .inr (0, [.ref h4, .ref h5, .int (b2 bt)])), (h5, .inl (cI, N, .inl (fun i_ => nI (jo1 i_)))), (ht, .inr (5, ft)), (hro, .inl (cI, 20, .inl (fun i_ => nI (r i_)))), (hf, .inr (1, ff)), (hle, .inl (cI, M, .inl (fun i_ => lvO (g i_)))), (h4, .inr (4, [.ref h2, .ref h3, .int (nI (z1 + 1))])), (h2, .inl (cI, N, .inl (fun i_ => nI ((va_up pr1 z1 (tur n k n)) i_)))), (h3, .inl (cI, N, .inl (fun i_ => nI ((va_up cn1 z1 (clo r n o (tur n k n))) i_))))] := hD
                refine lv_iload hx hb dX0_build_87 (lv_at hl 1 rfl) ?_
                refine lv_iload hx hb dX0_build_89 (lv_at hl 0 rfl) ?_
                refine lv_ior hx hb dX0_build_91 ?_
                refine lv_re (y := (nI ((jpF jo1 (tur n k n) n) ||| (clo r n o (tur n k n))))) (nx_or (jpF jo1 (tur n k n) n) (clo r n o (tur n k n))) ?_
                refine lv_istore (lv' := [(6, .int (nI ((jpF jo1 (tur n k n) n) ||| (clo r n o (tur n k n))))), (7, .int (nI (clo r n o (tur n k n)))), (5, .int (nI k)), (4, .int sv), (3, .int (nI n)), (0, .ref h0), (1, .ref ht), (2, .ref hf)]) hx hb dX0_build_92 hl (by decide) rfl (fun ls hl => ?_)
                refine lv_aload_n hx hb dX0_build_94 rfl (lv_at hl 5 rfl) ?_
                refine lv_iload hx hb dX0_build_95 (lv_at hl 3 rfl) ?_
                refine lv_re (y := (nI (tur n k n))) hsv_ ?_
                refine lv_iload hx hb dX0_build_97 (lv_at hl 0 rfl) ?_
                have hPc := hP.sub (ws' := [(h0, .inr (0, [.ref h4, .ref h5, .int (b2 bt)])), (h5, .inl (cI, N, .inl (fun i_ => nI (jo1 i_))))]) [0, 1] rfl
                have hDc := hD.sub (ws' := [(h0, .inr (0, [.ref h4, .ref h5, .int (b2 bt)])), (h5, .inl (cI, N, .inl (fun i_ => nI (jo1 i_))))]) [0, 1] (by decide) rfl
                have hKc := hK.sub (tys' := [(cI, .int)]) [0] rfl
                have hFc := va_free (wc := [(h0, .inr (0, [.ref h4, .ref h5, .int (b2 bt)])), (h5, .inl (cI, N, .inl (fun i_ => nI (jo1 i_))))]) hD hS hA [0, 1] rfl
                refine mu_call (va_runV (As := [.int (nI (tur n k n)), .int (nI ((jpF jo1 (tur n k n) n) ||| (clo r n o (tur n k n))))]) (rest := []) ⟨hx, hb, hml, hown, hts⟩ (c_X0_setJoined l D H.size h0 ([.ref h4, .ref h5, .int (b2 bt)]) h5 cI N jo1 (tur n k n) ((jpF jo1 (tur n k n) n) ||| (clo r n o (tur n k n))) rfl (by omega) hN2) (cwV 2 hts gX0_build_X0_setJoined rfl rfl rfl (by decide +kernel) ⟨Nat.le_of_ble_eq_true rfl, Nat.le_of_ble_eq_true rfl⟩) ⟨mu_bl, va_recv hKc hPc (ci := 0) (q0 := 0) rfl rfl, fun U hU hW => ⟨rfl, by rw [hU], by rw [hU]; exact hPc, va_K.moved hW.alike hKc, hDc.weaken (fun _ _ _ _ => trivial)⟩⟩ rfl rfl hl.1 rfl (lv_room (Nat.le_of_ble_eq_true rfl)) dX0_build_99 ⟨Nat.le_of_ble_eq_true rfl, Nat.le_of_ble_eq_true rfl⟩) hS (fun q _ h => hFc q h) hFc (fun H1 locs hP1 hD1 hk1 hS => ?_)
                obtain ⟨hP, hD⟩ := va_join (wr := [(ht, .inr (5, ft)), (hro, .inl (cI, 20, .inl (fun i_ => nI (r i_)))), (hf, .inr (1, ff)), (hle, .inl (cI, M, .inl (fun i_ => lvO (g i_)))), (h4, .inr (4, [.ref h2, .ref h3, .int (nI (z1 + 1))])), (h2, .inl (cI, N, .inl (fun i_ => nI ((va_up pr1 z1 (tur n k n)) i_)))), (h3, .inl (cI, N, .inl (fun i_ => nI ((va_up cn1 z1 (clo r n o (tur n k n))) i_))))]) (w1 := [(h0, .inr (0, [.ref h4, .ref h5, .int (b2 bt)])), (h5, .inl (cI, N, .inl (fun i_ => nI ((va_up jo1 (tur n k n) ((jpF jo1 (tur n k n) n) ||| (clo r n o (tur n k n)))) i_))))]) hP hD [0, 1] [2, 3, 4, 5, 6, 7, 8] rfl rfl (by decide) (by decide) hk1 hFc hP1 hD1
                generalize H1 = H at hP hS ⊢
                have hP : va_P D vwCl [(ht, .inr (5, ft)), (hro, .inl (cI, 20, .inl (fun i_ => nI (r i_)))), (hf, .inr (1, ff)), (hle, .inl (cI, M, .inl (fun i_ => lvO (g i_)))), (h4, .inr (4, [.ref h2, .ref h3, .int (nI (z1 + 1))])), (h2, .inl (cI, N, .inl (fun i_ => nI ((va_up pr1 z1 (tur n k n)) i_)))), (h3, .inl (cI, N, .inl (fun i_ => nI ((va_up cn1 z1 (clo r n o (tur n k n))) i_)))), (h0, .inr (0, [.ref h4, .ref h5, .int (b2 bt)])), (h5, .inl (cI, N, .inl (fun i_ => nI ((va_up jo1 (tur n k n) ((jpF jo1 (tur n k n) n) ||| (clo r n o (tur n k n)))) i_))))] H := hP
                have hD : va_D A [(ht, .inr (5, ft)), (hro, .inl (cI, 20, .inl (fun i_ => nI (r i_)))), (hf, .inr (1, ff)), (hle, .inl (cI, M, .inl (fun i_ => lvO (g i_)))), (h4, .inr (4, [.ref h2, .ref h3, .int (nI (z1 + 1))])), (h2, .inl (cI, N, .inl (fun i_ => nI ((va_up pr1 z1 (tur n k n)) i_)))), (h3, .inl (cI, N, .inl (fun i_ => nI ((va_up cn1 z1 (clo r n o (tur n k n))) i_)))), (h0, .inr (0, [.ref h4, .ref h5, .int (b2 bt)])), (h5, .inl (cI, N, .inl (fun i_ => nI ((va_up jo1 (tur n k n) ((jpF jo1 (tur n k n) n) ||| (clo r n o (tur n k n)))) i_))))] := hD
                refine lv_iload hx hb dX0_build_102 (lv_at hl 3 rfl) ?_
                refine lv_re (y := (nI (tur n k n))) hsv_ ?_
                refine lv_iload_n hx hb dX0_build_104 rfl (lv_at hl 4 rfl) ?_
                refine rd_S (As := [.int (nI (tur n k n)), .int (nI n)]) (rest := []) ⟨hx, hb, hml, hown, hts⟩ (c_X5_rightBehind l D (tur n k n) n hn ht_) (va_cwS 2 hts gX0_build_X5_rightBehind rfl rfl rfl (by decide +kernel) ⟨Nat.le_of_ble_eq_true rfl, Nat.le_of_ble_eq_true rfl⟩) (hP.sub (ws' := []) [] rfl) (hK.sub (tys' := []) [] rfl) rfl rfl hl.1 rfl (lv_room (Nat.le_of_ble_eq_true rfl)) dX0_build_105 ⟨Nat.le_of_ble_eq_true rfl, Nat.le_of_ble_eq_true rfl⟩ ?_
                refine lv_istore (lv' := [(4, .int (rbF n (tur n k n))), (6, .int (nI ((jpF jo1 (tur n k n) n) ||| (clo r n o (tur n k n))))), (7, .int (nI (clo r n o (tur n k n)))), (5, .int (nI k)), (3, .int (nI n)), (0, .ref h0), (1, .ref ht), (2, .ref hf)]) hx hb dX0_build_108 hl (by decide) rfl (fun ls hl => ?_)
                refine lv_iinc (v := (nI (k + 1))) (lv' := [(5, .int (nI (k + 1))), (4, .int (rbF n (tur n k n))), (6, .int (nI ((jpF jo1 (tur n k n) n) ||| (clo r n o (tur n k n))))), (7, .int (nI (clo r n o (tur n k n)))), (3, .int (nI n)), (0, .ref h0), (1, .ref ht), (2, .ref hf)]) hx hb dX0_build_110 hl (k := 3) rfl (nI_add _ 1) (by decide) rfl (fun ls hl => ?_)
                refine lv_goto (tgt := 26) hx hb dX0_build_113 (by decide) ?_
                have hnp : isp (tur n k n) = true := by rw [hjp] at c_65; rw [hisp _ ht_, c_65, decide_eq_true (p := ¬ clo r n o (tur n k n) = tur n k n) (fun z_ => Bool.noConfusion (c_55.symm.trans ((hgc _ ht_).mpr z_)))]; rfl
                exact ih_26 (k + 1) (z1 + 1) (va_up pr1 z1 (tur n k n)) (va_up cn1 z1 (clo r n o (tur n k n))) (va_up jo1 (tur n k n) (jpF jo1 (tur n k n) n ||| clo r n o (tur n k n))) (rbF n (tur n k n)) (by omega) (by omega) (by rw [BLp, if_pos hnp, List.length_append, hz1]; rfl) (by rw [BLp, if_pos hnp, hz1]; exact lstAt_push hp1) (clo_push hc1) (fun j hj => if h_ : tur n j n = tur n k n then by rw [h_, va_up_self]; exact (by rw [hjp, hJO _ ht_, if_pos hnp]) else by rw [va_up_ne _ _ h_]; exact hjo j (by have : ¬ j = k := fun z_ => h_ (by rw [z_]); omega)) (rb_next hkl) _ rfl _ rfl _ _ (hP.sub [7, 5, 6, 8, 0, 1, 2, 3, 4] rfl) (hD.sub [7, 5, 6, 8, 0, 1, 2, 3, 4] (by decide) rfl) hS _ (lv_sub hl [0, 1, 4, 5, 6, 7] rfl)
    exact lp_26 _ 0 0 pr cn jo (0 : Int32) (Nat.lt_succ_self _) (Nat.zero_le _) rfl (lstAt_0 _) (fun j h => absurd h (Nat.not_lt_zero _)) (fun j h => absurd h (Nat.not_lt_zero _)) (by rw [if_pos (show 0 < 2 ^ n from hq1), tur_0]; rfl) _ rfl _ rfl _ _ hP hD hS _ (lv_sub hl [0, 1, 2, 3, 4, 5] rfl)
  · have c_4 := b2_n0.mp c_4
    have hP := hP.sub (ws' := [(h0, .inr (0, [.ref h4, .ref h5, .int (b2 bt)])), (h4, .inr (4, [.ref h2, .ref h3, .int (nI z)])), (h2, .inl (cI, N, .inl (fun i_ => nI (pr i_)))), (h3, .inl (cI, N, .inl (fun i_ => nI (cn i_)))), (h5, .inl (cI, N, .inl (fun i_ => nI (jo i_)))), (ht, .inr (5, ft)), (hro, .inl (cI, 20, .inl (fun i_ => nI (r i_)))), (hf, .inr (1, ff)), (hle, .inl (cI, M, .inl (fun i_ => lvO (g i_))))]) [0, 1, 2, 3, 4, 5, 6, 7, 8] rfl
    have hD := hD.sub (ws' := [(h0, .inr (0, [.ref h4, .ref h5, .int (b2 bt)])), (h4, .inr (4, [.ref h2, .ref h3, .int (nI z)])), (h2, .inl (cI, N, .inl (fun i_ => nI (pr i_)))), (h3, .inl (cI, N, .inl (fun i_ => nI (cn i_)))), (h5, .inl (cI, N, .inl (fun i_ => nI (jo i_)))), (ht, .inr (5, ft)), (hro, .inl (cI, 20, .inl (fun i_ => nI (r i_)))), (hf, .inr (1, ff)), (hle, .inl (cI, M, .inl (fun i_ => lvO (g i_))))]) [0, 1, 2, 3, 4, 5, 6, 7, 8] (by decide) rfl
    rw [c_4] at hP hD
    exact W.vret hx hb hr (fun t ht hW => ⟨⟨(z, pr, cn, jo), rfl, (hbt c_4), by rw [ht]; exact hP, hD⟩, hS.F ht⟩) hS.2.2 dX0_build_7

set_option maxHeartbeats 4000000 in
set_option maxRecDepth 100000 in
theorem c_X2_isOpen (l : Launch) (D : va_G) (h0 : Nat) (fs : List Value) (op : Bool) (f1 : fs[1]? = some (.int (b2 op))) : Met l yX2_isOpen wsX2_isOpen ({ frames := 0, cells := 0, slots := 0, locals := 0 }) (va_Pc [.ref h0] (fun U => va_P D vwCl [(h0, .inr (2, fs))] U.heap ∧ va_K D vwCl [] U)) (QcRead (b2 op)) 0 0 (fun _ => False) := by
  refine Met.ofW (cc := cX2_isOpen) (maxL := 1) (ret := (some .boolean)) (by decide) rfl ?_
  intro p e s m args below meth c s₁ B hml hv
  obtain ⟨rfl, hP, hK⟩ := hv
  have hx := B.exec
  have hb := B.bytes
  have hr := B.returns
  have hts := atoms_spec (ws := wsX2_isOpen) B.pre
  have hown : s.vm.findClass RX2 = some m.cls := findClass_of_methodNamed B.named
  have hlocks := B.notSynchronized
  have hl := lv_entry ([.ref h0]) (n := 1) (Nat.le_of_ble_eq_true rfl)
  rw [lg_entry_eq]
  generalize (lg_sl ([.ref h0]) ++ List.replicate (1 - (lg_sl ([.ref h0])).length) Slot.unset).toArray = ls at hl ⊢
  have hl : lv_has ls 1 [(0, .ref h0)] := hl
  refine lv_aload_n hx hb dX2_isOpen_0 rfl (lv_at hl 0 rfl) ?_
  refine va_get (D := D) (ci := 2) (v := .int (b2 op)) (C := RX2) (T := TX2) (N := 3) hx hb hts (by decide +kernel) hown hK hP 0 rfl rfl 1 (by decide) (hts (.fieldLink RX2 30 "ConceptTable$Inquiry" "open" "Z") (by decide +kernel)) (fun _ h9 => h9) f1 dX2_isOpen_1 ?_
  have e_ret : (b2 op) = (b2 op) := by rfl
  exact W.zret (v := (b2 op)) hx hb hr (nb_b2 _) (fun t ht hW => ⟨congrArg (fun z_ => Outcome.returned (some (Value.int z_))) e_ret, ht⟩) (fun q h => by cases h) dX2_isOpen_4

set_option maxHeartbeats 4000000 in
set_option maxRecDepth 100000 in
theorem c_X2_asked (l : Launch) (D : va_G) (h0 : Nat) (fs : List Value) (ask : Int32) (f2 : fs[2]? = some (.int ask)) : Met l yX2_asked wsX2_asked ({ frames := 0, cells := 0, slots := 0, locals := 0 }) (va_Pc [.ref h0] (fun U => va_P D vwCl [(h0, .inr (2, fs))] U.heap ∧ va_K D vwCl [] U)) (QcRead ask) 0 0 (fun _ => False) := by
  refine Met.ofW (cc := cX2_asked) (maxL := 1) (ret := (some .int)) (by decide) rfl ?_
  intro p e s m args below meth c s₁ B hml hv
  obtain ⟨rfl, hP, hK⟩ := hv
  have hx := B.exec
  have hb := B.bytes
  have hr := B.returns
  have hts := atoms_spec (ws := wsX2_asked) B.pre
  have hown : s.vm.findClass RX2 = some m.cls := findClass_of_methodNamed B.named
  have hlocks := B.notSynchronized
  have hl := lv_entry ([.ref h0]) (n := 1) (Nat.le_of_ble_eq_true rfl)
  rw [lg_entry_eq]
  generalize (lg_sl ([.ref h0]) ++ List.replicate (1 - (lg_sl ([.ref h0])).length) Slot.unset).toArray = ls at hl ⊢
  have hl : lv_has ls 1 [(0, .ref h0)] := hl
  refine lv_aload_n hx hb dX2_asked_0 rfl (lv_at hl 0 rfl) ?_
  refine va_get (D := D) (ci := 2) (v := .int ask) (C := RX2) (T := TX2) (N := 3) hx hb hts (by decide +kernel) hown hK hP 0 rfl rfl 2 (by decide) (hts (.fieldLink RX2 20 "ConceptTable$Inquiry" "asked" "I") (by decide +kernel)) (fun _ h9 => h9) f2 dX2_asked_1 ?_
  have e_ret : ask = ask := by rfl
  exact W.iret (v := ask) hx hb hr (fun t ht hW => ⟨congrArg (fun z_ => Outcome.returned (some (Value.int z_))) e_ret, ht⟩) (fun q h => by cases h) dX2_asked_4

set_option maxHeartbeats 4000000 in
set_option maxRecDepth 100000 in
theorem c_X2_agreed (l : Launch) (D : va_G) (h0 : Nat) (fs : List Value) (h4 : Nat) (f0 : fs[0]? = some (.ref h4)) : Met l yX2_agreed wsX2_agreed ({ frames := 0, cells := 0, slots := 0, locals := 0 }) (va_Pc [.ref h0] (fun U => va_P D vwCl [(h0, .inr (2, fs))] U.heap ∧ va_K D vwCl [] U)) (k2_QcV (.ref h4)) 0 0 (fun _ => False) := by
  refine Met.ofW (cc := cX2_agreed) (maxL := 1) (ret := (some (.object "ConceptTable$Rules"))) (by decide) rfl ?_
  intro p e s m args below meth c s₁ B hml hv
  obtain ⟨rfl, hP, hK⟩ := hv
  have hx := B.exec
  have hb := B.bytes
  have hr := B.returns
  have hts := atoms_spec (ws := wsX2_agreed) B.pre
  have hown : s.vm.findClass RX2 = some m.cls := findClass_of_methodNamed B.named
  have hlocks := B.notSynchronized
  have hl := lv_entry ([.ref h0]) (n := 1) (Nat.le_of_ble_eq_true rfl)
  rw [lg_entry_eq]
  generalize (lg_sl ([.ref h0]) ++ List.replicate (1 - (lg_sl ([.ref h0])).length) Slot.unset).toArray = ls at hl ⊢
  have hl : lv_has ls 1 [(0, .ref h0)] := hl
  refine lv_aload_n hx hb dX2_agreed_0 rfl (lv_at hl 0 rfl) ?_
  refine va_get (D := D) (ci := 2) (v := .ref h4) (C := RX2) (T := TX2) (N := 3) hx hb hts (by decide +kernel) hown hK hP 0 rfl rfl 0 (by decide) (hts (.fieldLink RX2 14 "ConceptTable$Inquiry" "agreed" "LConceptTable$Rules;") (by decide +kernel)) (fun _ h9 => h9) f0 dX2_agreed_1 ?_
  exact W.aret (v := .ref h4) hx hb hr (Or.inl ⟨_, rfl⟩) (Or.inr ⟨_, rfl⟩) (fun t ht hW => ⟨rfl, ht⟩) (fun q h => by cases h) dX2_agreed_4

set_option maxHeartbeats 4000000 in
set_option maxRecDepth 100000 in
theorem c_X2_stop (l : Launch) (D : va_G) (sz : Nat) (h0 : Nat) (h4 : Nat) (op : Bool) (ask : Int32)  : Met l yX2_stop wsX2_stop ({ frames := 0, cells := 0, slots := 0, locals := 0 }) (va_Pc [.ref h0] (fun U => U.heap.size = sz ∧ va_P D vwCl [(h0, .inr (2, [.ref h4, .int (b2 op), .int ask]))] U.heap ∧ va_K D vwCl [] U ∧ va_D (fun _ => True) [(h0, .inr (2, [.ref h4, .int (b2 op), .int ask]))])) (muQ none D vwCl [(h0, .inr (2, [.ref h4, .int (b2 false), .int (-1 : Int32)]))] (va_A [(h0, .inr (2, [.ref h4, .int (b2 op), .int ask]))] sz)) 0 0 (va_A [(h0, .inr (2, [.ref h4, .int (b2 op), .int ask]))] sz) := by
  refine Met.ofW (cc := cX2_stop) (maxL := 1) (ret := none) (by decide) rfl ?_
  intro p e s m args below meth c s₁ B hml hv
  obtain ⟨rfl, hsz, hP, hK, hD0⟩ := hv
  have hx := B.exec
  have hb := B.bytes
  have hr := B.returns
  have hts := atoms_spec (ws := wsX2_stop) B.pre
  have hown : s.vm.findClass RX2 = some m.cls := findClass_of_methodNamed B.named
  have hlocks := B.notSynchronized
  subst hsz
  have hD := hD0.self (sz := s.heap.size)
  generalize hAe : va_A [(h0, .inr (2, [.ref h4, .int (b2 op), .int ask]))] s.heap.size = A at hD ⊢
  have hA : ∀ q : Nat, s.heap.size ≤ q → A q := fun q h => by rw [← hAe]; exact Or.inr h
  have hS : va_S A s.heap s.heap [] := va_S.rf
  have hl := lv_entry ([.ref h0]) (n := 1) (Nat.le_of_ble_eq_true rfl)
  rw [lg_entry_eq]
  generalize (lg_sl ([.ref h0]) ++ List.replicate (1 - (lg_sl ([.ref h0])).length) Slot.unset).toArray = ls at hl ⊢
  have hl : lv_has ls 1 [(0, .ref h0)] := hl
  refine lv_aload_n hx hb dX2_stop_0 rfl (lv_at hl 0 rfl) ?_
  refine lv_iconst (v := 0) hx hb dX2_stop_1 (by decide) ?_
  refine va_put (D := D) (ci := 2) (v := .int (0 : Int32)) (ty := .boolean) (C := RX2) (T := TX2) (N := 3) hx hb hts (by decide +kernel) tyX2 tyX2_ok nmX2 hown hK hP hD hS 0 rfl rfl 1 (by decide) (hts (.fieldLink RX2 30 "ConceptTable$Inquiry" "open" "Z") (by decide +kernel)) (fun _ h9 => h9) rfl (by decide +kernel) rfl rfl (Nat.le_of_ble_eq_true rfl) dX2_stop_2 (fun H locs hP hD hS => ?_)
  have hP : va_P D vwCl [(h0, .inr (2, [.ref h4, .int (0 : Int32), .int ask]))] H := hP
  have hD : va_D A [(h0, .inr (2, [.ref h4, .int (0 : Int32), .int ask]))] := hD
  refine lv_aload_n hx hb dX2_stop_5 rfl (lv_at hl 0 rfl) ?_
  refine lv_iconst (v := -1) hx hb dX2_stop_6 (by decide) ?_
  refine va_put (D := D) (ci := 2) (v := .int (-1 : Int32)) (ty := .int) (C := RX2) (T := TX2) (N := 3) hx hb hts (by decide +kernel) tyX2 tyX2_ok nmX2 hown hK hP hD hS 0 rfl rfl 2 (by decide) (hts (.fieldLink RX2 20 "ConceptTable$Inquiry" "asked" "I") (by decide +kernel)) (fun _ h9 => h9) rfl (by decide +kernel) rfl rfl (Nat.le_of_ble_eq_true rfl) dX2_stop_7 (fun H locs hP hD hS => ?_)
  have hP : va_P D vwCl [(h0, .inr (2, [.ref h4, .int (0 : Int32), .int (-1 : Int32)]))] H := hP
  have hD : va_D A [(h0, .inr (2, [.ref h4, .int (0 : Int32), .int (-1 : Int32)]))] := hD
  have hP := hP.sub (ws' := [(h0, .inr (2, [.ref h4, .int (0 : Int32), .int (-1 : Int32)]))]) [0] rfl
  have hD := hD.sub (ws' := [(h0, .inr (2, [.ref h4, .int (0 : Int32), .int (-1 : Int32)]))]) [0] (by decide) rfl
  have hP : va_P D vwCl [(h0, .inr (2, [.ref h4, .int (b2 false), .int (-1 : Int32)]))] H := by exact hP
  have hD : va_D A [(h0, .inr (2, [.ref h4, .int (b2 false), .int (-1 : Int32)]))] := by exact hD
  exact W.vret hx hb hr (fun t ht hW => ⟨⟨rfl, by rw [ht]; exact hP, hD⟩, hS.F ht⟩) hS.2.2 dX2_stop_10

set_option maxHeartbeats 4000000 in
set_option maxRecDepth 100000 in
theorem c_X2_forget (l : Launch) (D : va_G) (sz : Nat) (h0 : Nat) (h4 : Nat) (op : Bool) (ask : Int32) (h2 : Nat) (h3 : Nat) (z : Nat)  : Met l yX2_forget wsX2_forget ({ frames := 1, cells := 0, slots := 0, locals := 20 }) (va_Pc [.ref h0] (fun U => U.heap.size = sz ∧ va_P D vwCl [(h0, .inr (2, [.ref h4, .int (b2 op), .int ask])), (h4, .inr (4, [.ref h2, .ref h3, .int (nI z)]))] U.heap ∧ va_K D vwCl [] U ∧ va_D (fun _ => True) [(h0, .inr (2, [.ref h4, .int (b2 op), .int ask])), (h4, .inr (4, [.ref h2, .ref h3, .int (nI z)]))])) (muQ none D vwCl [(h0, .inr (2, [.ref h4, .int (b2 false), .int (-1 : Int32)])), (h4, .inr (4, [.ref h2, .ref h3, .int (nI 0)]))] (va_A [(h0, .inr (2, [.ref h4, .int (b2 op), .int ask])), (h4, .inr (4, [.ref h2, .ref h3, .int (nI z)]))] sz)) 0 0 (va_A [(h0, .inr (2, [.ref h4, .int (b2 op), .int ask])), (h4, .inr (4, [.ref h2, .ref h3, .int (nI z)]))] sz) := by
  refine Met.ofW (cc := cX2_forget) (maxL := 1) (ret := none) (by decide) rfl ?_
  intro p e s m args below meth c s₁ B hml hv
  obtain ⟨rfl, hsz, hP, hK, hD0⟩ := hv
  have hx := B.exec
  have hb := B.bytes
  have hr := B.returns
  have hts := atoms_spec (ws := wsX2_forget) B.pre
  have hown : s.vm.findClass RX2 = some m.cls := findClass_of_methodNamed B.named
  have hlocks := B.notSynchronized
  subst hsz
  have hD := hD0.self (sz := s.heap.size)
  generalize hAe : va_A [(h0, .inr (2, [.ref h4, .int (b2 op), .int ask])), (h4, .inr (4, [.ref h2, .ref h3, .int (nI z)]))] s.heap.size = A at hD ⊢
  have hA : ∀ q : Nat, s.heap.size ≤ q → A q := fun q h => by rw [← hAe]; exact Or.inr h
  have hS : va_S A s.heap s.heap [] := va_S.rf
  have hl := lv_entry ([.ref h0]) (n := 1) (Nat.le_of_ble_eq_true rfl)
  rw [lg_entry_eq]
  generalize (lg_sl ([.ref h0]) ++ List.replicate (1 - (lg_sl ([.ref h0])).length) Slot.unset).toArray = ls at hl ⊢
  have hl : lv_has ls 1 [(0, .ref h0)] := hl
  refine lv_aload_n hx hb dX2_forget_0 rfl (lv_at hl 0 rfl) ?_
  refine va_get (D := D) (ci := 2) (v := .ref h4) (C := RX2) (T := TX2) (N := 3) hx hb hts (by decide +kernel) hown hK hP 0 rfl rfl 0 (by decide) (hts (.fieldLink RX2 14 "ConceptTable$Inquiry" "agreed" "LConceptTable$Rules;") (by decide +kernel)) (fun _ h9 => h9) rfl dX2_forget_1 ?_
  have hPc := hP.sub (ws' := [(h4, .inr (4, [.ref h2, .ref h3, .int (nI z)]))]) [1] rfl
  have hDc := hD.sub (ws' := [(h4, .inr (4, [.ref h2, .ref h3, .int (nI z)]))]) [1] (by decide) rfl
  have hKc := hK.sub (tys' := []) [] rfl
  have hFc := va_free (wc := [(h4, .inr (4, [.ref h2, .ref h3, .int (nI z)]))]) hD hS hA [1] rfl
  refine mu_call (va_runV (As := []) (rest := []) ⟨hx, hb, hml, hown, hts⟩ (c_X4_clear l D s.heap.size h4 h2 h3 z ) (cwV 0 hts gX2_forget_X4_clear rfl rfl rfl (by decide +kernel) ⟨Nat.le_of_ble_eq_true rfl, Nat.le_of_ble_eq_true rfl⟩) ⟨mu_bl, va_recv hKc hPc (ci := 4) (q0 := 0) rfl rfl, fun U hU hW => ⟨rfl, by rw [hU], by rw [hU]; exact hPc, va_K.moved hW.alike hKc, hDc.weaken (fun _ _ _ _ => trivial)⟩⟩ rfl rfl hl.1 rfl (lv_room (Nat.le_of_ble_eq_true rfl)) dX2_forget_4 ⟨Nat.le_of_ble_eq_true rfl, Nat.le_of_ble_eq_true rfl⟩) hS (fun q _ h => hFc q h) hFc (fun H1 locs hP1 hD1 hk1 hS => ?_)
  obtain ⟨hP, hD⟩ := va_join (wr := [(h0, .inr (2, [.ref h4, .int (b2 op), .int ask]))]) (w1 := [(h4, .inr (4, [.ref h2, .ref h3, .int (nI 0)]))]) hP hD [1] [0] rfl rfl (by decide) (by decide) hk1 hFc hP1 hD1
  generalize H1 = H at hP hS ⊢
  have hP : va_P D vwCl [(h0, .inr (2, [.ref h4, .int (b2 op), .int ask])), (h4, .inr (4, [.ref h2, .ref h3, .int (nI 0)]))] H := hP
  have hD : va_D A [(h0, .inr (2, [.ref h4, .int (b2 op), .int ask])), (h4, .inr (4, [.ref h2, .ref h3, .int (nI 0)]))] := hD
  refine lv_aload_n hx hb dX2_forget_7 rfl (lv_at hl 0 rfl) ?_
  have hPc := hP.sub (ws' := [(h0, .inr (2, [.ref h4, .int (b2 op), .int ask]))]) [0] rfl
  have hDc := hD.sub (ws' := [(h0, .inr (2, [.ref h4, .int (b2 op), .int ask]))]) [0] (by decide) rfl
  have hKc := hK.sub (tys' := []) [] rfl
  have hFc := va_free (wc := [(h0, .inr (2, [.ref h4, .int (b2 op), .int ask]))]) hD hS hA [0] rfl
  refine mu_call (va_runV (As := []) (rest := []) ⟨hx, hb, hml, hown, hts⟩ (c_X2_stop l D H.size h0 h4 op ask ) (cwV 0 hts gX2_forget_X2_stop rfl rfl rfl (by decide +kernel) ⟨Nat.le_of_ble_eq_true rfl, Nat.le_of_ble_eq_true rfl⟩) ⟨mu_bl, va_recv hKc hPc (ci := 2) (q0 := 0) rfl rfl, fun U hU hW => ⟨rfl, by rw [hU], by rw [hU]; exact hPc, va_K.moved hW.alike hKc, hDc.weaken (fun _ _ _ _ => trivial)⟩⟩ rfl rfl hl.1 rfl (lv_room (Nat.le_of_ble_eq_true rfl)) dX2_forget_8 ⟨Nat.le_of_ble_eq_true rfl, Nat.le_of_ble_eq_true rfl⟩) hS (fun q _ h => hFc q h) hFc (fun H1 locs hP1 hD1 hk1 hS => ?_)
  obtain ⟨hP, hD⟩ := va_join (wr := [(h4, .inr (4, [.ref h2, .ref h3, .int (nI 0)]))]) (w1 := [(h0, .inr (2, [.ref h4, .int (b2 false), .int (-1 : Int32)]))]) hP hD [0] [1] rfl rfl (by decide) (by decide) hk1 hFc hP1 hD1
  generalize H1 = H at hP hS ⊢
  have hP : va_P D vwCl [(h4, .inr (4, [.ref h2, .ref h3, .int (nI 0)])), (h0, .inr (2, [.ref h4, .int (b2 false), .int (-1 : Int32)]))] H := hP
  have hD : va_D A [(h4, .inr (4, [.ref h2, .ref h3, .int (nI 0)])), (h0, .inr (2, [.ref h4, .int (b2 false), .int (-1 : Int32)]))] := hD
  have hP := hP.sub (ws' := [(h0, .inr (2, [.ref h4, .int (b2 false), .int (-1 : Int32)])), (h4, .inr (4, [.ref h2, .ref h3, .int (nI 0)]))]) [1, 0] rfl
  have hD := hD.sub (ws' := [(h0, .inr (2, [.ref h4, .int (b2 false), .int (-1 : Int32)])), (h4, .inr (4, [.ref h2, .ref h3, .int (nI 0)]))]) [1, 0] (by decide) rfl
  have hP : va_P D vwCl [(h0, .inr (2, [.ref h4, .int (b2 false), .int (-1 : Int32)])), (h4, .inr (4, [.ref h2, .ref h3, .int (nI 0)]))] H := by exact hP
  have hD : va_D A [(h0, .inr (2, [.ref h4, .int (b2 false), .int (-1 : Int32)])), (h4, .inr (4, [.ref h2, .ref h3, .int (nI 0)]))] := by exact hD
  exact W.vret hx hb hr (fun t ht hW => ⟨⟨rfl, by rw [ht]; exact hP, hD⟩, hS.F ht⟩) hS.2.2 dX2_forget_11

set_option maxHeartbeats 4000000 in
set_option maxRecDepth 100000 in
theorem c_X2_start (l : Launch) (D : va_G) (sz : Nat) (h0 : Nat) (h4 : Nat) (op : Bool) (ask : Int32) (h2 : Nat) (h3 : Nat) (z : Nat)  : Met l yX2_start wsX2_start ({ frames := 1, cells := 0, slots := 0, locals := 20 }) (va_Pc [.ref h0] (fun U => U.heap.size = sz ∧ va_P D vwCl [(h0, .inr (2, [.ref h4, .int (b2 op), .int ask])), (h4, .inr (4, [.ref h2, .ref h3, .int (nI z)]))] U.heap ∧ va_K D vwCl [] U ∧ va_D (fun _ => True) [(h0, .inr (2, [.ref h4, .int (b2 op), .int ask])), (h4, .inr (4, [.ref h2, .ref h3, .int (nI z)]))])) (muQ none D vwCl [(h0, .inr (2, [.ref h4, .int (b2 true), .int (nI 0)])), (h4, .inr (4, [.ref h2, .ref h3, .int (nI 0)]))] (va_A [(h0, .inr (2, [.ref h4, .int (b2 op), .int ask])), (h4, .inr (4, [.ref h2, .ref h3, .int (nI z)]))] sz)) 0 0 (va_A [(h0, .inr (2, [.ref h4, .int (b2 op), .int ask])), (h4, .inr (4, [.ref h2, .ref h3, .int (nI z)]))] sz) := by
  refine Met.ofW (cc := cX2_start) (maxL := 1) (ret := none) (by decide) rfl ?_
  intro p e s m args below meth c s₁ B hml hv
  obtain ⟨rfl, hsz, hP, hK, hD0⟩ := hv
  have hx := B.exec
  have hb := B.bytes
  have hr := B.returns
  have hts := atoms_spec (ws := wsX2_start) B.pre
  have hown : s.vm.findClass RX2 = some m.cls := findClass_of_methodNamed B.named
  have hlocks := B.notSynchronized
  subst hsz
  have hD := hD0.self (sz := s.heap.size)
  generalize hAe : va_A [(h0, .inr (2, [.ref h4, .int (b2 op), .int ask])), (h4, .inr (4, [.ref h2, .ref h3, .int (nI z)]))] s.heap.size = A at hD ⊢
  have hA : ∀ q : Nat, s.heap.size ≤ q → A q := fun q h => by rw [← hAe]; exact Or.inr h
  have hS : va_S A s.heap s.heap [] := va_S.rf
  have hl := lv_entry ([.ref h0]) (n := 1) (Nat.le_of_ble_eq_true rfl)
  rw [lg_entry_eq]
  generalize (lg_sl ([.ref h0]) ++ List.replicate (1 - (lg_sl ([.ref h0])).length) Slot.unset).toArray = ls at hl ⊢
  have hl : lv_has ls 1 [(0, .ref h0)] := hl
  refine lv_aload_n hx hb dX2_start_0 rfl (lv_at hl 0 rfl) ?_
  refine va_get (D := D) (ci := 2) (v := .ref h4) (C := RX2) (T := TX2) (N := 3) hx hb hts (by decide +kernel) hown hK hP 0 rfl rfl 0 (by decide) (hts (.fieldLink RX2 14 "ConceptTable$Inquiry" "agreed" "LConceptTable$Rules;") (by decide +kernel)) (fun _ h9 => h9) rfl dX2_start_1 ?_
  have hPc := hP.sub (ws' := [(h4, .inr (4, [.ref h2, .ref h3, .int (nI z)]))]) [1] rfl
  have hDc := hD.sub (ws' := [(h4, .inr (4, [.ref h2, .ref h3, .int (nI z)]))]) [1] (by decide) rfl
  have hKc := hK.sub (tys' := []) [] rfl
  have hFc := va_free (wc := [(h4, .inr (4, [.ref h2, .ref h3, .int (nI z)]))]) hD hS hA [1] rfl
  refine mu_call (va_runV (As := []) (rest := []) ⟨hx, hb, hml, hown, hts⟩ (c_X4_clear l D s.heap.size h4 h2 h3 z ) (cwV 0 hts gX2_start_X4_clear rfl rfl rfl (by decide +kernel) ⟨Nat.le_of_ble_eq_true rfl, Nat.le_of_ble_eq_true rfl⟩) ⟨mu_bl, va_recv hKc hPc (ci := 4) (q0 := 0) rfl rfl, fun U hU hW => ⟨rfl, by rw [hU], by rw [hU]; exact hPc, va_K.moved hW.alike hKc, hDc.weaken (fun _ _ _ _ => trivial)⟩⟩ rfl rfl hl.1 rfl (lv_room (Nat.le_of_ble_eq_true rfl)) dX2_start_4 ⟨Nat.le_of_ble_eq_true rfl, Nat.le_of_ble_eq_true rfl⟩) hS (fun q _ h => hFc q h) hFc (fun H1 locs hP1 hD1 hk1 hS => ?_)
  obtain ⟨hP, hD⟩ := va_join (wr := [(h0, .inr (2, [.ref h4, .int (b2 op), .int ask]))]) (w1 := [(h4, .inr (4, [.ref h2, .ref h3, .int (nI 0)]))]) hP hD [1] [0] rfl rfl (by decide) (by decide) hk1 hFc hP1 hD1
  generalize H1 = H at hP hS ⊢
  have hP : va_P D vwCl [(h0, .inr (2, [.ref h4, .int (b2 op), .int ask])), (h4, .inr (4, [.ref h2, .ref h3, .int (nI 0)]))] H := hP
  have hD : va_D A [(h0, .inr (2, [.ref h4, .int (b2 op), .int ask])), (h4, .inr (4, [.ref h2, .ref h3, .int (nI 0)]))] := hD
  refine lv_aload_n hx hb dX2_start_7 rfl (lv_at hl 0 rfl) ?_
  refine lv_iconst (v := 1) hx hb dX2_start_8 (by decide) ?_
  refine va_put (D := D) (ci := 2) (v := .int (1 : Int32)) (ty := .boolean) (C := RX2) (T := TX2) (N := 3) hx hb hts (by decide +kernel) tyX2 tyX2_ok nmX2 hown hK hP hD hS 0 rfl rfl 1 (by decide) (hts (.fieldLink RX2 30 "ConceptTable$Inquiry" "open" "Z") (by decide +kernel)) (fun _ h9 => h9) rfl (by decide +kernel) rfl rfl (Nat.le_of_ble_eq_true rfl) dX2_start_9 (fun H locs hP hD hS => ?_)
  have hP : va_P D vwCl [(h0, .inr (2, [.ref h4, .int (1 : Int32), .int ask])), (h4, .inr (4, [.ref h2, .ref h3, .int (nI 0)]))] H := hP
  have hD : va_D A [(h0, .inr (2, [.ref h4, .int (1 : Int32), .int ask])), (h4, .inr (4, [.ref h2, .ref h3, .int (nI 0)]))] := hD
  refine lv_aload_n hx hb dX2_start_12 rfl (lv_at hl 0 rfl) ?_
  refine lv_iconst (v := 0) hx hb dX2_start_13 (by decide) ?_
  refine va_put (D := D) (ci := 2) (v := .int (0 : Int32)) (ty := .int) (C := RX2) (T := TX2) (N := 3) hx hb hts (by decide +kernel) tyX2 tyX2_ok nmX2 hown hK hP hD hS 0 rfl rfl 2 (by decide) (hts (.fieldLink RX2 20 "ConceptTable$Inquiry" "asked" "I") (by decide +kernel)) (fun _ h9 => h9) rfl (by decide +kernel) rfl rfl (Nat.le_of_ble_eq_true rfl) dX2_start_14 (fun H locs hP hD hS => ?_)
  have hP : va_P D vwCl [(h0, .inr (2, [.ref h4, .int (1 : Int32), .int (0 : Int32)])), (h4, .inr (4, [.ref h2, .ref h3, .int (nI 0)]))] H := hP
  have hD : va_D A [(h0, .inr (2, [.ref h4, .int (1 : Int32), .int (0 : Int32)])), (h4, .inr (4, [.ref h2, .ref h3, .int (nI 0)]))] := hD
  have hP := hP.sub (ws' := [(h0, .inr (2, [.ref h4, .int (1 : Int32), .int (0 : Int32)])), (h4, .inr (4, [.ref h2, .ref h3, .int (nI 0)]))]) [0, 1] rfl
  have hD := hD.sub (ws' := [(h0, .inr (2, [.ref h4, .int (1 : Int32), .int (0 : Int32)])), (h4, .inr (4, [.ref h2, .ref h3, .int (nI 0)]))]) [0, 1] (by decide) rfl
  have hP : va_P D vwCl [(h0, .inr (2, [.ref h4, .int (b2 true), .int (nI 0)])), (h4, .inr (4, [.ref h2, .ref h3, .int (nI 0)]))] H := by exact hP
  have hD : va_D A [(h0, .inr (2, [.ref h4, .int (b2 true), .int (nI 0)])), (h4, .inr (4, [.ref h2, .ref h3, .int (nI 0)]))] := by exact hD
  exact W.vret hx hb hr (fun t ht hW => ⟨⟨rfl, by rw [ht]; exact hP, hD⟩, hS.F ht⟩) hS.2.2 dX2_start_17

set_option maxHeartbeats 4000000 in
set_option maxRecDepth 100000 in
theorem c_X2_agree (l : Launch) (D : va_G) (sz : Nat) (h0 : Nat) (h4 : Nat) (op : Bool) (t_ : Nat) (h2 : Nat) (h3 : Nat) (z : Nat) (cI : ClassId) (N : Nat) (pr : Nat → Nat) (cn : Nat → Nat) (b : Nat) (hz : z < N) (hN : N ≤ 4096) : Met l yX2_agree wsX2_agree ({ frames := 1, cells := 0, slots := 0, locals := 22 }) (va_Pc [.ref h0, .int (nI b)] (fun U => U.heap.size = sz ∧ va_P D vwCl [(h0, .inr (2, [.ref h4, .int (b2 op), .int (nI t_)])), (h4, .inr (4, [.ref h2, .ref h3, .int (nI z)])), (h2, .inl (cI, N, .inl (fun i_ => nI (pr i_)))), (h3, .inl (cI, N, .inl (fun i_ => nI (cn i_))))] U.heap ∧ va_K D vwCl [(cI, .int)] U ∧ va_D (fun _ => True) [(h0, .inr (2, [.ref h4, .int (b2 op), .int (nI t_)])), (h4, .inr (4, [.ref h2, .ref h3, .int (nI z)])), (h2, .inl (cI, N, .inl (fun i_ => nI (pr i_)))), (h3, .inl (cI, N, .inl (fun i_ => nI (cn i_))))])) (muQ none D vwCl [(h0, .inr (2, [.ref h4, .int (b2 op), .int (nI t_)])), (h4, .inr (4, [.ref h2, .ref h3, .int (nI (z + 1))])), (h2, .inl (cI, N, .inl (fun i_ => nI ((va_up pr z t_) i_)))), (h3, .inl (cI, N, .inl (fun i_ => nI ((va_up cn z b) i_))))] (va_A [(h0, .inr (2, [.ref h4, .int (b2 op), .int (nI t_)])), (h4, .inr (4, [.ref h2, .ref h3, .int (nI z)])), (h2, .inl (cI, N, .inl (fun i_ => nI (pr i_)))), (h3, .inl (cI, N, .inl (fun i_ => nI (cn i_))))] sz)) 0 0 (va_A [(h0, .inr (2, [.ref h4, .int (b2 op), .int (nI t_)])), (h4, .inr (4, [.ref h2, .ref h3, .int (nI z)])), (h2, .inl (cI, N, .inl (fun i_ => nI (pr i_)))), (h3, .inl (cI, N, .inl (fun i_ => nI (cn i_))))] sz) := by
  refine Met.ofW (cc := cX2_agree) (maxL := 2) (ret := none) (by decide) rfl ?_
  intro p e s m args below meth c s₁ B hml hv
  obtain ⟨rfl, hsz, hP, hK, hD0⟩ := hv
  have hx := B.exec
  have hb := B.bytes
  have hr := B.returns
  have hts := atoms_spec (ws := wsX2_agree) B.pre
  have hown : s.vm.findClass RX2 = some m.cls := findClass_of_methodNamed B.named
  have hlocks := B.notSynchronized
  subst hsz
  have hD := hD0.self (sz := s.heap.size)
  generalize hAe : va_A [(h0, .inr (2, [.ref h4, .int (b2 op), .int (nI t_)])), (h4, .inr (4, [.ref h2, .ref h3, .int (nI z)])), (h2, .inl (cI, N, .inl (fun i_ => nI (pr i_)))), (h3, .inl (cI, N, .inl (fun i_ => nI (cn i_))))] s.heap.size = A at hD ⊢
  have hA : ∀ q : Nat, s.heap.size ≤ q → A q := fun q h => by rw [← hAe]; exact Or.inr h
  have hS : va_S A s.heap s.heap [] := va_S.rf
  have hl := lv_entry ([.ref h0, .int (nI b)]) (n := 2) (Nat.le_of_ble_eq_true rfl)
  rw [lg_entry_eq]
  generalize (lg_sl ([.ref h0, .int (nI b)]) ++ List.replicate (2 - (lg_sl ([.ref h0, .int (nI b)])).length) Slot.unset).toArray = ls at hl ⊢
  have hl : lv_has ls 2 [(0, .ref h0), (1, .int (nI b))] := hl
  refine lv_aload_n hx hb dX2_agree_0 rfl (lv_at hl 0 rfl) ?_
  refine va_get (D := D) (ci := 2) (v := .ref h4) (C := RX2) (T := TX2) (N := 3) hx hb hts (by decide +kernel) hown hK hP 0 rfl rfl 0 (by decide) (hts (.fieldLink RX2 14 "ConceptTable$Inquiry" "agreed" "LConceptTable$Rules;") (by decide +kernel)) (fun _ h9 => h9) rfl dX2_agree_1 ?_
  refine lv_aload_n hx hb dX2_agree_4 rfl (lv_at hl 0 rfl) ?_
  refine va_get (D := D) (ci := 2) (v := .int (nI t_)) (C := RX2) (T := TX2) (N := 3) hx hb hts (by decide +kernel) hown hK hP 0 rfl rfl 2 (by decide) (hts (.fieldLink RX2 20 "ConceptTable$Inquiry" "asked" "I") (by decide +kernel)) (fun _ h9 => h9) rfl dX2_agree_5 ?_
  refine lv_iload_n hx hb dX2_agree_8 rfl (lv_at hl 1 rfl) ?_
  have hPc := hP.sub (ws' := [(h4, .inr (4, [.ref h2, .ref h3, .int (nI z)])), (h2, .inl (cI, N, .inl (fun i_ => nI (pr i_)))), (h3, .inl (cI, N, .inl (fun i_ => nI (cn i_))))]) [1, 2, 3] rfl
  have hDc := hD.sub (ws' := [(h4, .inr (4, [.ref h2, .ref h3, .int (nI z)])), (h2, .inl (cI, N, .inl (fun i_ => nI (pr i_)))), (h3, .inl (cI, N, .inl (fun i_ => nI (cn i_))))]) [1, 2, 3] (by decide) rfl
  have hKc := hK.sub (tys' := [(cI, .int)]) [0] rfl
  have hFc := va_free (wc := [(h4, .inr (4, [.ref h2, .ref h3, .int (nI z)])), (h2, .inl (cI, N, .inl (fun i_ => nI (pr i_)))), (h3, .inl (cI, N, .inl (fun i_ => nI (cn i_))))]) hD hS hA [1, 2, 3] rfl
  refine mu_call (va_runV (As := [.int (nI t_), .int (nI b)]) (rest := []) ⟨hx, hb, hml, hown, hts⟩ (c_X4_append l D s.heap.size h4 h2 h3 z cI N pr cn t_ b (by assumption) (by assumption)) (cwV 2 hts gX2_agree_X4_append rfl rfl rfl (by decide +kernel) ⟨Nat.le_of_ble_eq_true rfl, Nat.le_of_ble_eq_true rfl⟩) ⟨mu_bl, va_recv hKc hPc (ci := 4) (q0 := 0) rfl rfl, fun U hU hW => ⟨rfl, by rw [hU], by rw [hU]; exact hPc, va_K.moved hW.alike hKc, hDc.weaken (fun _ _ _ _ => trivial)⟩⟩ rfl rfl hl.1 rfl (lv_room (Nat.le_of_ble_eq_true rfl)) dX2_agree_9 ⟨Nat.le_of_ble_eq_true rfl, Nat.le_of_ble_eq_true rfl⟩) hS (fun q _ h => hFc q h) hFc (fun H1 locs hP1 hD1 hk1 hS => ?_)
  obtain ⟨hP, hD⟩ := va_join (wr := [(h0, .inr (2, [.ref h4, .int (b2 op), .int (nI t_)]))]) (w1 := [(h4, .inr (4, [.ref h2, .ref h3, .int (nI (z + 1))])), (h2, .inl (cI, N, .inl (fun i_ => nI ((va_up pr z t_) i_)))), (h3, .inl (cI, N, .inl (fun i_ => nI ((va_up cn z b) i_))))]) hP hD [1, 2, 3] [0] rfl rfl (by decide) (by decide) hk1 hFc hP1 hD1
  generalize H1 = H at hP hS ⊢
  have hP : va_P D vwCl [(h0, .inr (2, [.ref h4, .int (b2 op), .int (nI t_)])), (h4, .inr (4, [.ref h2, .ref h3, .int (nI (z + 1))])), (h2, .inl (cI, N, .inl (fun i_ => nI ((va_up pr z t_) i_)))), (h3, .inl (cI, N, .inl (fun i_ => nI ((va_up cn z b) i_))))] H := hP
  have hD : va_D A [(h0, .inr (2, [.ref h4, .int (b2 op), .int (nI t_)])), (h4, .inr (4, [.ref h2, .ref h3, .int (nI (z + 1))])), (h2, .inl (cI, N, .inl (fun i_ => nI ((va_up pr z t_) i_)))), (h3, .inl (cI, N, .inl (fun i_ => nI ((va_up cn z b) i_))))] := hD
  have hP := hP.sub (ws' := [(h0, .inr (2, [.ref h4, .int (b2 op), .int (nI t_)])), (h4, .inr (4, [.ref h2, .ref h3, .int (nI (z + 1))])), (h2, .inl (cI, N, .inl (fun i_ => nI ((va_up pr z t_) i_)))), (h3, .inl (cI, N, .inl (fun i_ => nI ((va_up cn z b) i_))))]) [0, 1, 2, 3] rfl
  have hD := hD.sub (ws' := [(h0, .inr (2, [.ref h4, .int (b2 op), .int (nI t_)])), (h4, .inr (4, [.ref h2, .ref h3, .int (nI (z + 1))])), (h2, .inl (cI, N, .inl (fun i_ => nI ((va_up pr z t_) i_)))), (h3, .inl (cI, N, .inl (fun i_ => nI ((va_up cn z b) i_))))]) [0, 1, 2, 3] (by decide) rfl
  have hP : va_P D vwCl [(h0, .inr (2, [.ref h4, .int (b2 op), .int (nI t_)])), (h4, .inr (4, [.ref h2, .ref h3, .int (nI (z + 1))])), (h2, .inl (cI, N, .inl (fun i_ => nI ((va_up pr z t_) i_)))), (h3, .inl (cI, N, .inl (fun i_ => nI ((va_up cn z b) i_))))] H := by exact hP
  have hD : va_D A [(h0, .inr (2, [.ref h4, .int (b2 op), .int (nI t_)])), (h4, .inr (4, [.ref h2, .ref h3, .int (nI (z + 1))])), (h2, .inl (cI, N, .inl (fun i_ => nI ((va_up pr z t_) i_)))), (h3, .inl (cI, N, .inl (fun i_ => nI ((va_up cn z b) i_))))] := by exact hD
  exact W.vret hx hb hr (fun t ht hW => ⟨⟨rfl, by rw [ht]; exact hP, hD⟩, hS.F ht⟩) hS.2.2 dX2_agree_12

set_option maxHeartbeats 4000000 in
set_option maxRecDepth 100000 in
theorem c_X2_isCounterexample (l : Launch) (D : va_G) (h0 : Nat) (fs : List Value) (h4 : Nat) (t_ : Nat) (fr : List Value) (h2 : Nat) (h3 : Nat) (z : Nat) (cI : ClassId) (N : Nat) (pr : Nat → Nat) (cn : Nat → Nat) (q : Nat) (b : Nat) (f0 : fs[0]? = some (.ref h4)) (f2 : fs[2]? = some (.int (nI t_))) (r0 : fr[0]? = some (.ref h2)) (r1 : fr[1]? = some (.ref h3)) (r2 : fr[2]? = some (.int (nI z))) (hz : z ≤ N) (hN : N ≤ 4096) (hp : ∀ j, j < z → pr j < 2 ^ 31) (hc : ∀ j, j < z → cn j < 2 ^ 31) (ht : t_ < 2 ^ 31) (hb9 : b < 2 ^ 31) : Met l yX2_isCounterexample wsX2_isCounterexample ({ frames := 2, cells := 0, slots := 0, locals := 43 }) (va_Pc [.ref h0, .int (nI q), .int (nI b)] (fun U => va_P D vwCl [(h0, .inr (2, fs)), (h4, .inr (4, fr)), (h2, .inl (cI, N, .inl (fun i_ => nI (pr i_)))), (h3, .inl (cI, N, .inl (fun i_ => nI (cn i_))))] U.heap ∧ va_K D vwCl [(cI, .int)] U)) (QcRead (b2 (sN t_ q && !(sN b q) && kpB pr cn z q))) 0 0 (fun _ => False) := by
  refine Met.ofW (cc := cX2_isCounterexample) (maxL := 3) (ret := (some .boolean)) (by decide) rfl ?_
  intro p e s m args below meth c s₁ B hml hv
  obtain ⟨rfl, hP, hK⟩ := hv
  have hx := B.exec
  have hb := B.bytes
  have hr := B.returns
  have hts := atoms_spec (ws := wsX2_isCounterexample) B.pre
  have hown : s.vm.findClass RX2 = some m.cls := findClass_of_methodNamed B.named
  have hlocks := B.notSynchronized
  have hl := lv_entry ([.ref h0, .int (nI q), .int (nI b)]) (n := 3) (Nat.le_of_ble_eq_true rfl)
  rw [lg_entry_eq]
  generalize (lg_sl ([.ref h0, .int (nI q), .int (nI b)]) ++ List.replicate (3 - (lg_sl ([.ref h0, .int (nI q), .int (nI b)])).length) Slot.unset).toArray = ls at hl ⊢
  have hl : lv_has ls 3 [(0, .ref h0), (1, .int (nI q)), (2, .int (nI b))] := hl
  refine lv_iload_n hx hb dX2_isCounterexample_0 rfl (lv_at hl 1 rfl) ?_
  refine lv_aload_n hx hb dX2_isCounterexample_1 rfl (lv_at hl 0 rfl) ?_
  refine va_get (D := D) (ci := 2) (v := .int (nI t_)) (C := RX2) (T := TX2) (N := 3) hx hb hts (by decide +kernel) hown hK hP 0 rfl rfl 2 (by decide) (hts (.fieldLink RX2 20 "ConceptTable$Inquiry" "asked" "I") (by decide +kernel)) (fun _ h9 => h9) f2 dX2_isCounterexample_2 ?_
  refine rd_S (As := [.int (nI q), .int (nI t_)]) (rest := []) ⟨hx, hb, hml, hown, hts⟩ (c_X5_hasAll_N l D q t_ (by assumption)) (va_cwS 2 hts gX2_isCounterexample_X5_hasAll rfl rfl rfl (by decide +kernel) ⟨Nat.le_of_ble_eq_true rfl, Nat.le_of_ble_eq_true rfl⟩) (hP.sub (ws' := []) [] rfl) (hK.sub (tys' := []) [] rfl) rfl rfl hl.1 rfl (lv_room (Nat.le_of_ble_eq_true rfl)) dX2_isCounterexample_5 ⟨Nat.le_of_ble_eq_true rfl, Nat.le_of_ble_eq_true rfl⟩ ?_
  refine lv_if_eq (tgt := 34) hx hb dX2_isCounterexample_8 (by decide) (fun c_8 => ?_) (fun c_8 => ?_)
  · have c_8 := b2_0.mp c_8
    refine lv_iconst (v := 0) hx hb dX2_isCounterexample_34 (by decide) ?_
    have e_ret : (0 : Int32) = (b2 (sN t_ q && !(sN b q) && kpB pr cn z q)) := by rw [c_8]; rfl
    exact W.zret (v := (0 : Int32)) hx hb hr rfl (fun t ht hW => ⟨congrArg (fun z_ => Outcome.returned (some (Value.int z_))) e_ret, ht⟩) (fun q h => by cases h) dX2_isCounterexample_35
  · have c_8 := b2_n0.mp c_8
    refine lv_iload_n hx hb dX2_isCounterexample_11 rfl (lv_at hl 1 rfl) ?_
    refine lv_iload_n hx hb dX2_isCounterexample_12 rfl (lv_at hl 2 rfl) ?_
    refine rd_S (As := [.int (nI q), .int (nI b)]) (rest := []) ⟨hx, hb, hml, hown, hts⟩ (c_X5_hasAll_N l D q b (by assumption)) (va_cwS 2 hts gX2_isCounterexample_X5_hasAll rfl rfl rfl (by decide +kernel) ⟨Nat.le_of_ble_eq_true rfl, Nat.le_of_ble_eq_true rfl⟩) (hP.sub (ws' := []) [] rfl) (hK.sub (tys' := []) [] rfl) rfl rfl hl.1 rfl (lv_room (Nat.le_of_ble_eq_true rfl)) dX2_isCounterexample_13 ⟨Nat.le_of_ble_eq_true rfl, Nat.le_of_ble_eq_true rfl⟩ ?_
    refine lv_if_ne (tgt := 34) hx hb dX2_isCounterexample_16 (by decide) (fun c_16 => ?_) (fun c_16 => ?_)
    · have c_16 := b2_n0.mp c_16
      refine lv_iconst (v := 0) hx hb dX2_isCounterexample_34 (by decide) ?_
      have e_ret : (0 : Int32) = (b2 (sN t_ q && !(sN b q) && kpB pr cn z q)) := by rw [c_8, c_16]; rfl
      exact W.zret (v := (0 : Int32)) hx hb hr rfl (fun t ht hW => ⟨congrArg (fun z_ => Outcome.returned (some (Value.int z_))) e_ret, ht⟩) (fun q h => by cases h) dX2_isCounterexample_35
    · have c_16 := b2_0.mp c_16
      refine lv_aload_n hx hb dX2_isCounterexample_19 rfl (lv_at hl 0 rfl) ?_
      refine va_get (D := D) (ci := 2) (v := .ref h4) (C := RX2) (T := TX2) (N := 3) hx hb hts (by decide +kernel) hown hK hP 0 rfl rfl 0 (by decide) (hts (.fieldLink RX2 14 "ConceptTable$Inquiry" "agreed" "LConceptTable$Rules;") (by decide +kernel)) (fun _ h9 => h9) f0 dX2_isCounterexample_20 ?_
      refine lv_iload_n hx hb dX2_isCounterexample_23 rfl (lv_at hl 1 rfl) ?_
      refine rd_V (As := [.int (nI q)]) (rest := []) ⟨hx, hb, hml, hown, hts⟩ (c_X4_areKeptBy l D h4 fr h2 h3 cI N z pr cn q r0 r1 r2 (by assumption) (by assumption) (by assumption) (by assumption)) (cwV 1 hts gX2_isCounterexample_X4_areKeptBy rfl rfl rfl (by decide +kernel) ⟨Nat.le_of_ble_eq_true rfl, Nat.le_of_ble_eq_true rfl⟩) (hP.sub (ws' := [(h4, .inr (4, fr)), (h2, .inl (cI, N, .inl (fun i_ => nI (pr i_)))), (h3, .inl (cI, N, .inl (fun i_ => nI (cn i_))))]) [1, 2, 3] rfl) (hK.sub (tys' := [(cI, .int)]) [0] rfl) (va_recv hK hP (ci := 4) (q0 := 1) rfl rfl) rfl rfl hl.1 rfl (lv_room (Nat.le_of_ble_eq_true rfl)) dX2_isCounterexample_24 ⟨Nat.le_of_ble_eq_true rfl, Nat.le_of_ble_eq_true rfl⟩ ?_
      refine lv_if_eq (tgt := 34) hx hb dX2_isCounterexample_27 (by decide) (fun c_27 => ?_) (fun c_27 => ?_)
      · have c_27 := b2_0.mp c_27
        refine lv_iconst (v := 0) hx hb dX2_isCounterexample_34 (by decide) ?_
        have e_ret : (0 : Int32) = (b2 (sN t_ q && !(sN b q) && kpB pr cn z q)) := by rw [c_8, c_16, c_27]; rfl
        exact W.zret (v := (0 : Int32)) hx hb hr rfl (fun t ht hW => ⟨congrArg (fun z_ => Outcome.returned (some (Value.int z_))) e_ret, ht⟩) (fun q h => by cases h) dX2_isCounterexample_35
      · have c_27 := b2_n0.mp c_27
        refine lv_iconst (v := 1) hx hb dX2_isCounterexample_30 (by decide) ?_
        refine lv_goto (tgt := 35) hx hb dX2_isCounterexample_31 (by decide) ?_
        have e_ret : (1 : Int32) = (b2 (sN t_ q && !(sN b q) && kpB pr cn z q)) := by rw [c_8, c_16, c_27]; rfl
        exact W.zret (v := (1 : Int32)) hx hb hr rfl (fun t ht hW => ⟨congrArg (fun z_ => Outcome.returned (some (Value.int z_))) e_ret, ht⟩) (fun q h => by cases h) dX2_isCounterexample_35

set_option maxHeartbeats 4000000 in
set_option maxRecDepth 100000 in
theorem c_X2_seek (l : Launch) (D : va_G) (sz : Nat) (h0 : Nat) (h4 : Nat) (op : Bool) (t_ : Nat) (p_ : Nat) (fr : List Value) (h2 : Nat) (h3 : Nat) (z : Nat) (cI : ClassId) (N : Nat) (pr : Nat → Nat) (cn : Nat → Nat) (hf : Nat) (ff : List Value) (hle : Nat) (n : Nat) (M : Nat) (g : Nat → Option Nat) (o : Nat) (r : Nat → Nat) (r0 : fr[0]? = some (.ref h2)) (r1 : fr[1]? = some (.ref h3)) (r2 : fr[2]? = some (.int (nI z))) (g1 : ff[1]? = some (.ref hle)) (g2 : ff[2]? = some (.int (nI n))) (hn : n ≤ 12) (hz : z ≤ N) (hN : N ≤ 4096) (hp : ∀ j, j < z → pr j < 2 ^ 31) (hc : ∀ j, j < z → cn j < 2 ^ 31) (hM : 2 ^ n ≤ M) (hM2 : M ≤ 4096) (hgb : ∀ j v, g j = some v → v ≤ 4096) (hgc : ∀ q, q < 2 ^ n → (gB g q = true ↔ clo r n o q = q)) (hp_ : p_ < 2 ^ n) (ht9 : t_ = tur n p_ n) : Met l yX2_seek wsX2_seek ({ frames := 3, cells := 0, slots := 0, locals := 63 }) (va_Pc [.ref h0, .ref hf] (fun U => U.heap.size = sz ∧ va_P D vwCl [(h0, .inr (2, [.ref h4, .int (b2 op), .int (nI t_)])), (h4, .inr (4, fr)), (h2, .inl (cI, N, .inl (fun i_ => nI (pr i_)))), (h3, .inl (cI, N, .inl (fun i_ => nI (cn i_)))), (hf, .inr (1, ff)), (hle, .inl (cI, M, .inl (fun i_ => lvO (g i_))))] U.heap ∧ va_K D vwCl [(cI, .int)] U ∧ va_D (fun _ => True) [(h0, .inr (2, [.ref h4, .int (b2 op), .int (nI t_)])), (h4, .inr (4, fr)), (h2, .inl (cI, N, .inl (fun i_ => nI (pr i_)))), (h3, .inl (cI, N, .inl (fun i_ => nI (cn i_)))), (hf, .inr (1, ff)), (hle, .inl (cI, M, .inl (fun i_ => lvO (g i_))))])) (muQ (some (.int (fqF r n o pr cn z (2 ^ n - p_) p_))) D vwCl [(h0, .inr (2, [.ref h4, .int (b2 op), .int (fqF r n o pr cn z (2 ^ n - p_) p_)])), (h4, .inr (4, fr)), (h2, .inl (cI, N, .inl (fun i_ => nI (pr i_)))), (h3, .inl (cI, N, .inl (fun i_ => nI (cn i_)))), (hf, .inr (1, ff)), (hle, .inl (cI, M, .inl (fun i_ => lvO (g i_))))] (va_A [(h0, .inr (2, [.ref h4, .int (b2 op), .int (nI t_)])), (h4, .inr (4, fr)), (h2, .inl (cI, N, .inl (fun i_ => nI (pr i_)))), (h3, .inl (cI, N, .inl (fun i_ => nI (cn i_)))), (hf, .inr (1, ff)), (hle, .inl (cI, M, .inl (fun i_ => lvO (g i_))))] sz)) 0 0 (va_A [(h0, .inr (2, [.ref h4, .int (b2 op), .int (nI t_)])), (h4, .inr (4, fr)), (h2, .inl (cI, N, .inl (fun i_ => nI (pr i_)))), (h3, .inl (cI, N, .inl (fun i_ => nI (cn i_)))), (hf, .inr (1, ff)), (hle, .inl (cI, M, .inl (fun i_ => lvO (g i_))))] sz) := by
  refine Met.ofW (cc := cX2_seek) (maxL := 4) (ret := (some .int)) (by decide) rfl ?_
  intro p e s m args below meth c s₁ B hml hv
  obtain ⟨rfl, hsz, hP, hK, hD0⟩ := hv
  have hx := B.exec
  have hb := B.bytes
  have hr := B.returns
  have hts := atoms_spec (ws := wsX2_seek) B.pre
  have hown : s.vm.findClass RX2 = some m.cls := findClass_of_methodNamed B.named
  have hlocks := B.notSynchronized
  subst hsz
  have hD := hD0.self (sz := s.heap.size)
  generalize hAe : va_A [(h0, .inr (2, [.ref h4, .int (b2 op), .int (nI t_)])), (h4, .inr (4, fr)), (h2, .inl (cI, N, .inl (fun i_ => nI (pr i_)))), (h3, .inl (cI, N, .inl (fun i_ => nI (cn i_)))), (hf, .inr (1, ff)), (hle, .inl (cI, M, .inl (fun i_ => lvO (g i_))))] s.heap.size = A at hD ⊢
  have hA : ∀ q : Nat, s.heap.size ≤ q → A q := fun q h => by rw [← hAe]; exact Or.inr h
  have hS : va_S A s.heap s.heap [] := va_S.rf
  have hl := lv_entry ([.ref h0, .ref hf]) (n := 4) (Nat.le_of_ble_eq_true rfl)
  rw [lg_entry_eq]
  generalize (lg_sl ([.ref h0, .ref hf]) ++ List.replicate (4 - (lg_sl ([.ref h0, .ref hf])).length) Slot.unset).toArray = ls at hl ⊢
  have hl : lv_has ls 4 [(0, .ref h0), (1, .ref hf)] := hl
  have h2n := p2_le hn
  refine lv_aload_n hx hb dX2_seek_0 rfl (lv_at hl 1 rfl) ?_
  refine rd_V (As := []) (rest := []) ⟨hx, hb, hml, hown, hts⟩ (c_X1_attributes l D hf ff n g2) (cwV 0 hts gX2_seek_X1_attributes rfl rfl rfl (by decide +kernel) ⟨Nat.le_of_ble_eq_true rfl, Nat.le_of_ble_eq_true rfl⟩) (hP.sub (ws' := [(hf, .inr (1, ff))]) [4] rfl) (hK.sub (tys' := []) [] rfl) (va_recv hK hP (ci := 1) (q0 := 4) rfl rfl) rfl rfl hl.1 rfl (lv_room (Nat.le_of_ble_eq_true rfl)) dX2_seek_1 ⟨Nat.le_of_ble_eq_true rfl, Nat.le_of_ble_eq_true rfl⟩ ?_
  refine lv_istore_n (lv' := [(2, .int (nI n)), (0, .ref h0), (1, .ref hf)]) hx hb dX2_seek_4 rfl hl (by decide) rfl (fun ls hl => ?_)
  refine lv_iconst (v := 0) hx hb dX2_seek_5 (by decide) ?_
  refine lv_istore_n (lv' := [(3, .int (0 : Int32)), (2, .int (nI n)), (0, .ref h0), (1, .ref hf)]) hx hb dX2_seek_6 rfl hl (by decide) rfl (fun ls hl => ?_)
  have lp_7 : ∀ (n_ : Nat) (k : Nat) (sv : Int32), 2 ^ n - k < n_ → (p_ + k ≤ 2 ^ n) → (sv = if p_ + k < 2 ^ n then nI (tur n (p_ + k) n) else -1) → (fqF r n o pr cn z (2 ^ n - (p_ + k)) (p_ + k) = fqF r n o pr cn z (2 ^ n - p_) p_) → ∀ (x3 : Int32), x3 = nI k → ∀ (H : Heap) (locs : List Loc), va_P D vwCl [(h0, .inr (2, [.ref h4, .int (b2 op), .int sv])), (h4, .inr (4, fr)), (h2, .inl (cI, N, .inl (fun i_ => nI (pr i_)))), (h3, .inl (cI, N, .inl (fun i_ => nI (cn i_)))), (hf, .inr (1, ff)), (hle, .inl (cI, M, .inl (fun i_ => lvO (g i_))))] H → va_D A [(h0, .inr (2, [.ref h4, .int (b2 op), .int sv])), (h4, .inr (4, fr)), (h2, .inl (cI, N, .inl (fun i_ => nI (pr i_)))), (h3, .inl (cI, N, .inl (fun i_ => nI (cn i_)))), (hf, .inr (1, ff)), (hle, .inl (cI, M, .inl (fun i_ => lvO (g i_))))] → va_S A s.heap H locs → ∀ (ls : Array Slot), lv_has ls 4 [(3, .int x3), (2, .int (nI n)), (0, .ref h0), (1, .ref hf)] → W p l e (headSpec wsX2_seek ({ frames := 3, cells := 0, slots := 0, locals := 63 })).room s m ([.ref h0, .ref hf] : List Value).toArray below meth c H locs 0 0 (MQ below (muQ (some (.int (fqF r n o pr cn z (2 ^ n - p_) p_))) D vwCl [(h0, .inr (2, [.ref h4, .int (b2 op), .int (fqF r n o pr cn z (2 ^ n - p_) p_)])), (h4, .inr (4, fr)), (h2, .inl (cI, N, .inl (fun i_ => nI (pr i_)))), (h3, .inl (cI, N, .inl (fun i_ => nI (cn i_)))), (hf, .inr (1, ff)), (hle, .inl (cI, M, .inl (fun i_ => lvO (g i_))))] A) ([.ref h0, .ref hf] : List Value).toArray s 0 0 A) (F0 m 7 ls []) := by
    intro n_
    induction n_ with
    | zero => intro k sv h0_; exact absurd h0_ (Nat.not_lt_zero _)
    | succ n_ ih_7 =>
      intro k sv hm_7 hk hsv hres x3 e_x3 H locs hP hD hS ls hl
      subst e_x3
      refine lv_iload_n hx hb dX2_seek_7 rfl (lv_at hl 0 rfl) ?_
      refine lv_iconst (v := 1) hx hb dX2_seek_8 (by decide) ?_
      refine lv_iload_n hx hb dX2_seek_9 rfl (lv_at hl 1 rfl) ?_
      refine lv_ishl hx hb dX2_seek_10 ?_
      refine lv_re (y := (nI (2 ^ n))) (nx_sh1 (k := n) (by omega)) ?_
      refine lv_icmp_ge (tgt := 68) hx hb dX2_seek_11 (by decide) (fun c_11 => ?_) (fun c_11 => ?_)
      · have c_11 : (2 ^ n) ≤ k := (nI_leI (a := (2 ^ n)) (b := k) (by omega) (by omega)).mp c_11
        have hkl : ¬ p_ + k < 2 ^ n := by omega
        refine lv_aload_n hx hb dX2_seek_68 rfl (lv_at hl 2 rfl) ?_
        refine va_get (D := D) (ci := 2) (v := .int sv) (C := RX2) (T := TX2) (N := 3) hx hb hts (by decide +kernel) hown hK hP 0 rfl rfl 2 (by decide) (hts (.fieldLink RX2 20 "ConceptTable$Inquiry" "asked" "I") (by decide +kernel)) (fun _ h9 => h9) rfl dX2_seek_69 ?_
        have e_ret : sv = (fqF r n o pr cn z (2 ^ n - p_) p_) := by rw [hsv, if_neg hkl, ← hres, show 2 ^ n - (p_ + k) = 0 by omega]; rfl
        have hP := hP.sub (ws' := [(h0, .inr (2, [.ref h4, .int (b2 op), .int sv])), (h4, .inr (4, fr)), (h2, .inl (cI, N, .inl (fun i_ => nI (pr i_)))), (h3, .inl (cI, N, .inl (fun i_ => nI (cn i_)))), (hf, .inr (1, ff)), (hle, .inl (cI, M, .inl (fun i_ => lvO (g i_))))]) [0, 1, 2, 3, 4, 5] rfl
        have hD := hD.sub (ws' := [(h0, .inr (2, [.ref h4, .int (b2 op), .int sv])), (h4, .inr (4, fr)), (h2, .inl (cI, N, .inl (fun i_ => nI (pr i_)))), (h3, .inl (cI, N, .inl (fun i_ => nI (cn i_)))), (hf, .inr (1, ff)), (hle, .inl (cI, M, .inl (fun i_ => lvO (g i_))))]) [0, 1, 2, 3, 4, 5] (by decide) rfl
        have e_w1 : sv = (fqF r n o pr cn z (2 ^ n - p_) p_) := by rw [hsv, if_neg hkl, ← hres, show 2 ^ n - (p_ + k) = 0 by omega]; rfl
        have hP : va_P D vwCl [(h0, .inr (2, [.ref h4, .int (b2 op), .int (fqF r n o pr cn z (2 ^ n - p_) p_)])), (h4, .inr (4, fr)), (h2, .inl (cI, N, .inl (fun i_ => nI (pr i_)))), (h3, .inl (cI, N, .inl (fun i_ => nI (cn i_)))), (hf, .inr (1, ff)), (hle, .inl (cI, M, .inl (fun i_ => lvO (g i_))))] H := by rw [← e_w1]; exact hP
        have hD : va_D A [(h0, .inr (2, [.ref h4, .int (b2 op), .int (fqF r n o pr cn z (2 ^ n - p_) p_)])), (h4, .inr (4, fr)), (h2, .inl (cI, N, .inl (fun i_ => nI (pr i_)))), (h3, .inl (cI, N, .inl (fun i_ => nI (cn i_)))), (hf, .inr (1, ff)), (hle, .inl (cI, M, .inl (fun i_ => lvO (g i_))))] := by rw [← e_w1]; exact hD
        exact W.iret (v := sv) hx hb hr (fun t ht hW => ⟨⟨congrArg (fun z_ => Outcome.returned (some (Value.int z_))) e_ret, by rw [ht]; exact hP, hD⟩, hS.F ht⟩) hS.2.2 dX2_seek_72
      · have c_11 : k < (2 ^ n) := Nat.lt_of_not_le (fun h_ => c_11 ((nI_leI (a := (2 ^ n)) (b := k) (by omega) (by omega)).mpr h_))
        refine lv_aload_n hx hb dX2_seek_14 rfl (lv_at hl 2 rfl) ?_
        refine va_get (D := D) (ci := 2) (v := .int sv) (C := RX2) (T := TX2) (N := 3) hx hb hts (by decide +kernel) hown hK hP 0 rfl rfl 2 (by decide) (hts (.fieldLink RX2 20 "ConceptTable$Inquiry" "asked" "I") (by decide +kernel)) (fun _ h9 => h9) rfl dX2_seek_15 ?_
        refine lv_iconst (v := -1) hx hb dX2_seek_18 (by decide) ?_
        refine lv_icmp_eq (tgt := 68) hx hb dX2_seek_19 (by decide) (fun c_19 => ?_) (fun c_19 => ?_)
        · have hkl : ¬ p_ + k < 2 ^ n := fun z_ => by rw [hsv, if_pos z_] at c_19; exact nI_ne1 (by have := tur_lt n (p_ + k) n; omega) c_19
          refine lv_aload_n hx hb dX2_seek_68 rfl (lv_at hl 2 rfl) ?_
          refine va_get (D := D) (ci := 2) (v := .int sv) (C := RX2) (T := TX2) (N := 3) hx hb hts (by decide +kernel) hown hK hP 0 rfl rfl 2 (by decide) (hts (.fieldLink RX2 20 "ConceptTable$Inquiry" "asked" "I") (by decide +kernel)) (fun _ h9 => h9) rfl dX2_seek_69 ?_
          have e_ret : sv = (fqF r n o pr cn z (2 ^ n - p_) p_) := by rw [hsv, if_neg hkl, ← hres, show 2 ^ n - (p_ + k) = 0 by omega]; rfl
          have hP := hP.sub (ws' := [(h0, .inr (2, [.ref h4, .int (b2 op), .int sv])), (h4, .inr (4, fr)), (h2, .inl (cI, N, .inl (fun i_ => nI (pr i_)))), (h3, .inl (cI, N, .inl (fun i_ => nI (cn i_)))), (hf, .inr (1, ff)), (hle, .inl (cI, M, .inl (fun i_ => lvO (g i_))))]) [0, 1, 2, 3, 4, 5] rfl
          have hD := hD.sub (ws' := [(h0, .inr (2, [.ref h4, .int (b2 op), .int sv])), (h4, .inr (4, fr)), (h2, .inl (cI, N, .inl (fun i_ => nI (pr i_)))), (h3, .inl (cI, N, .inl (fun i_ => nI (cn i_)))), (hf, .inr (1, ff)), (hle, .inl (cI, M, .inl (fun i_ => lvO (g i_))))]) [0, 1, 2, 3, 4, 5] (by decide) rfl
          have e_w1 : sv = (fqF r n o pr cn z (2 ^ n - p_) p_) := by rw [hsv, if_neg hkl, ← hres, show 2 ^ n - (p_ + k) = 0 by omega]; rfl
          have hP : va_P D vwCl [(h0, .inr (2, [.ref h4, .int (b2 op), .int (fqF r n o pr cn z (2 ^ n - p_) p_)])), (h4, .inr (4, fr)), (h2, .inl (cI, N, .inl (fun i_ => nI (pr i_)))), (h3, .inl (cI, N, .inl (fun i_ => nI (cn i_)))), (hf, .inr (1, ff)), (hle, .inl (cI, M, .inl (fun i_ => lvO (g i_))))] H := by rw [← e_w1]; exact hP
          have hD : va_D A [(h0, .inr (2, [.ref h4, .int (b2 op), .int (fqF r n o pr cn z (2 ^ n - p_) p_)])), (h4, .inr (4, fr)), (h2, .inl (cI, N, .inl (fun i_ => nI (pr i_)))), (h3, .inl (cI, N, .inl (fun i_ => nI (cn i_)))), (hf, .inr (1, ff)), (hle, .inl (cI, M, .inl (fun i_ => lvO (g i_))))] := by rw [← e_w1]; exact hD
          exact W.iret (v := sv) hx hb hr (fun t ht hW => ⟨⟨congrArg (fun z_ => Outcome.returned (some (Value.int z_))) e_ret, by rw [ht]; exact hP, hD⟩, hS.F ht⟩) hS.2.2 dX2_seek_72
        · have hkl : p_ + k < 2 ^ n := Classical.byContradiction (fun z_ => c_19 (by rw [hsv, if_neg z_]))
          have ht_ := tur_lt n (p_ + k) n
          have hsv_ : sv = nI (tur n (p_ + k) n) := by rw [hsv, if_pos hkl]
          have hf_ : 2 ^ n - (p_ + k) = (2 ^ n - (p_ + (k + 1))) + 1 := by omega
          refine lv_aload_n hx hb dX2_seek_22 rfl (lv_at hl 3 rfl) ?_
          refine lv_aload_n hx hb dX2_seek_23 rfl (lv_at hl 2 rfl) ?_
          refine va_get (D := D) (ci := 2) (v := .int sv) (C := RX2) (T := TX2) (N := 3) hx hb hts (by decide +kernel) hown hK hP 0 rfl rfl 2 (by decide) (hts (.fieldLink RX2 20 "ConceptTable$Inquiry" "asked" "I") (by decide +kernel)) (fun _ h9 => h9) rfl dX2_seek_24 ?_
          refine lv_re (y := (nI (tur n (p_ + k) n))) hsv_ ?_
          refine rd_V (As := [.int (nI (tur n (p_ + k) n))]) (rest := []) ⟨hx, hb, hml, hown, hts⟩ (c_X1_isClosed l D hf ff hle cI M g (tur n (p_ + k) n) g1 (by omega) hM2 hgb) (cwV 1 hts gX2_seek_X1_isClosed rfl rfl rfl (by decide +kernel) ⟨Nat.le_of_ble_eq_true rfl, Nat.le_of_ble_eq_true rfl⟩) (hP.sub (ws' := [(hf, .inr (1, ff)), (hle, .inl (cI, M, .inl (fun i_ => lvO (g i_))))]) [4, 5] rfl) (hK.sub (tys' := [(cI, .int)]) [0] rfl) (va_recv hK hP (ci := 1) (q0 := 4) rfl rfl) rfl rfl hl.1 rfl (lv_room (Nat.le_of_ble_eq_true rfl)) dX2_seek_27 ⟨Nat.le_of_ble_eq_true rfl, Nat.le_of_ble_eq_true rfl⟩ ?_
          refine lv_if_ne (tgt := 50) hx hb dX2_seek_30 (by decide) (fun c_30 => ?_) (fun c_30 => ?_)
          · have c_30 := b2_n0.mp c_30
            refine lv_aload_n hx hb dX2_seek_50 rfl (lv_at hl 2 rfl) ?_
            refine lv_aload_n hx hb dX2_seek_51 rfl (lv_at hl 2 rfl) ?_
            refine va_get (D := D) (ci := 2) (v := .int sv) (C := RX2) (T := TX2) (N := 3) hx hb hts (by decide +kernel) hown hK hP 0 rfl rfl 2 (by decide) (hts (.fieldLink RX2 20 "ConceptTable$Inquiry" "asked" "I") (by decide +kernel)) (fun _ h9 => h9) rfl dX2_seek_52 ?_
            refine lv_re (y := (nI (tur n (p_ + k) n))) hsv_ ?_
            refine lv_iload_n hx hb dX2_seek_55 rfl (lv_at hl 1 rfl) ?_
            refine rd_S (As := [.int (nI (tur n (p_ + k) n)), .int (nI n)]) (rest := [.ref h0]) ⟨hx, hb, hml, hown, hts⟩ (c_X5_rightBehind l D (tur n (p_ + k) n) n hn ht_) (va_cwS 2 hts gX2_seek_X5_rightBehind rfl rfl rfl (by decide +kernel) ⟨Nat.le_of_ble_eq_true rfl, Nat.le_of_ble_eq_true rfl⟩) (hP.sub (ws' := []) [] rfl) (hK.sub (tys' := []) [] rfl) rfl rfl hl.1 rfl (lv_room (Nat.le_of_ble_eq_true rfl)) dX2_seek_56 ⟨Nat.le_of_ble_eq_true rfl, Nat.le_of_ble_eq_true rfl⟩ ?_
            refine va_put (D := D) (ci := 2) (v := .int (rbF n (tur n (p_ + k) n))) (ty := .int) (C := RX2) (T := TX2) (N := 3) hx hb hts (by decide +kernel) tyX2 tyX2_ok nmX2 hown hK hP hD hS 0 rfl rfl 2 (by decide) (hts (.fieldLink RX2 20 "ConceptTable$Inquiry" "asked" "I") (by decide +kernel)) (fun _ h9 => h9) rfl (by decide +kernel) rfl rfl (Nat.le_of_ble_eq_true rfl) dX2_seek_59 (fun H locs hP hD hS => ?_)
            have hP : va_P D vwCl [(h0, .inr (2, [.ref h4, .int (b2 op), .int (rbF n (tur n (p_ + k) n))])), (h4, .inr (4, fr)), (h2, .inl (cI, N, .inl (fun i_ => nI (pr i_)))), (h3, .inl (cI, N, .inl (fun i_ => nI (cn i_)))), (hf, .inr (1, ff)), (hle, .inl (cI, M, .inl (fun i_ => lvO (g i_))))] H := hP
            have hD : va_D A [(h0, .inr (2, [.ref h4, .int (b2 op), .int (rbF n (tur n (p_ + k) n))])), (h4, .inr (4, fr)), (h2, .inl (cI, N, .inl (fun i_ => nI (pr i_)))), (h3, .inl (cI, N, .inl (fun i_ => nI (cn i_)))), (hf, .inr (1, ff)), (hle, .inl (cI, M, .inl (fun i_ => lvO (g i_))))] := hD
            refine lv_iinc (v := (nI (k + 1))) (lv' := [(3, .int (nI (k + 1))), (2, .int (nI n)), (0, .ref h0), (1, .ref hf)]) hx hb dX2_seek_62 hl (k := 0) rfl (nI_add _ 1) (by decide) rfl (fun ls hl => ?_)
            refine lv_goto (tgt := 7) hx hb dX2_seek_65 (by decide) ?_
            exact ih_7 (k + 1) (rbF n (tur n (p_ + k) n)) (by omega) (by omega) (by rw [rb_next hkl, ← Nat.add_assoc]) (by rw [← hres, hf_, fqF, if_neg (fun z_ => z_.1 ((hgc _ ht_).mp c_30)), ← Nat.add_assoc]) _ rfl _ _ (hP.sub [0, 1, 2, 3, 4, 5] rfl) (hD.sub [0, 1, 2, 3, 4, 5] (by decide) rfl) hS _ (lv_sub hl [0, 1, 2, 3] rfl)
          · have c_30 := b2_0.mp c_30
            refine lv_aload_n hx hb dX2_seek_33 rfl (lv_at hl 2 rfl) ?_
            refine va_get (D := D) (ci := 2) (v := .ref h4) (C := RX2) (T := TX2) (N := 3) hx hb hts (by decide +kernel) hown hK hP 0 rfl rfl 0 (by decide) (hts (.fieldLink RX2 14 "ConceptTable$Inquiry" "agreed" "LConceptTable$Rules;") (by decide +kernel)) (fun _ h9 => h9) rfl dX2_seek_34 ?_
            refine lv_aload_n hx hb dX2_seek_37 rfl (lv_at hl 2 rfl) ?_
            refine va_get (D := D) (ci := 2) (v := .int sv) (C := RX2) (T := TX2) (N := 3) hx hb hts (by decide +kernel) hown hK hP 0 rfl rfl 2 (by decide) (hts (.fieldLink RX2 20 "ConceptTable$Inquiry" "asked" "I") (by decide +kernel)) (fun _ h9 => h9) rfl dX2_seek_38 ?_
            refine lv_re (y := (nI (tur n (p_ + k) n))) hsv_ ?_
            refine rd_V (As := [.int (nI (tur n (p_ + k) n))]) (rest := []) ⟨hx, hb, hml, hown, hts⟩ (c_X4_areKeptBy l D h4 fr h2 h3 cI N z pr cn (tur n (p_ + k) n) r0 r1 r2 hz hN hp hc) (cwV 1 hts gX2_seek_X4_areKeptBy rfl rfl rfl (by decide +kernel) ⟨Nat.le_of_ble_eq_true rfl, Nat.le_of_ble_eq_true rfl⟩) (hP.sub (ws' := [(h4, .inr (4, fr)), (h2, .inl (cI, N, .inl (fun i_ => nI (pr i_)))), (h3, .inl (cI, N, .inl (fun i_ => nI (cn i_))))]) [1, 2, 3] rfl) (hK.sub (tys' := [(cI, .int)]) [0] rfl) (va_recv hK hP (ci := 4) (q0 := 1) rfl rfl) rfl rfl hl.1 rfl (lv_room (Nat.le_of_ble_eq_true rfl)) dX2_seek_41 ⟨Nat.le_of_ble_eq_true rfl, Nat.le_of_ble_eq_true rfl⟩ ?_
            refine lv_if_eq (tgt := 50) hx hb dX2_seek_44 (by decide) (fun c_44 => ?_) (fun c_44 => ?_)
            · have c_44 := b2_0.mp c_44
              refine lv_aload_n hx hb dX2_seek_50 rfl (lv_at hl 2 rfl) ?_
              refine lv_aload_n hx hb dX2_seek_51 rfl (lv_at hl 2 rfl) ?_
              refine va_get (D := D) (ci := 2) (v := .int sv) (C := RX2) (T := TX2) (N := 3) hx hb hts (by decide +kernel) hown hK hP 0 rfl rfl 2 (by decide) (hts (.fieldLink RX2 20 "ConceptTable$Inquiry" "asked" "I") (by decide +kernel)) (fun _ h9 => h9) rfl dX2_seek_52 ?_
              refine lv_re (y := (nI (tur n (p_ + k) n))) hsv_ ?_
              refine lv_iload_n hx hb dX2_seek_55 rfl (lv_at hl 1 rfl) ?_
              refine rd_S (As := [.int (nI (tur n (p_ + k) n)), .int (nI n)]) (rest := [.ref h0]) ⟨hx, hb, hml, hown, hts⟩ (c_X5_rightBehind l D (tur n (p_ + k) n) n hn ht_) (va_cwS 2 hts gX2_seek_X5_rightBehind rfl rfl rfl (by decide +kernel) ⟨Nat.le_of_ble_eq_true rfl, Nat.le_of_ble_eq_true rfl⟩) (hP.sub (ws' := []) [] rfl) (hK.sub (tys' := []) [] rfl) rfl rfl hl.1 rfl (lv_room (Nat.le_of_ble_eq_true rfl)) dX2_seek_56 ⟨Nat.le_of_ble_eq_true rfl, Nat.le_of_ble_eq_true rfl⟩ ?_
              refine va_put (D := D) (ci := 2) (v := .int (rbF n (tur n (p_ + k) n))) (ty := .int) (C := RX2) (T := TX2) (N := 3) hx hb hts (by decide +kernel) tyX2 tyX2_ok nmX2 hown hK hP hD hS 0 rfl rfl 2 (by decide) (hts (.fieldLink RX2 20 "ConceptTable$Inquiry" "asked" "I") (by decide +kernel)) (fun _ h9 => h9) rfl (by decide +kernel) rfl rfl (Nat.le_of_ble_eq_true rfl) dX2_seek_59 (fun H locs hP hD hS => ?_)
              have hP : va_P D vwCl [(h0, .inr (2, [.ref h4, .int (b2 op), .int (rbF n (tur n (p_ + k) n))])), (h4, .inr (4, fr)), (h2, .inl (cI, N, .inl (fun i_ => nI (pr i_)))), (h3, .inl (cI, N, .inl (fun i_ => nI (cn i_)))), (hf, .inr (1, ff)), (hle, .inl (cI, M, .inl (fun i_ => lvO (g i_))))] H := hP
              have hD : va_D A [(h0, .inr (2, [.ref h4, .int (b2 op), .int (rbF n (tur n (p_ + k) n))])), (h4, .inr (4, fr)), (h2, .inl (cI, N, .inl (fun i_ => nI (pr i_)))), (h3, .inl (cI, N, .inl (fun i_ => nI (cn i_)))), (hf, .inr (1, ff)), (hle, .inl (cI, M, .inl (fun i_ => lvO (g i_))))] := hD
              refine lv_iinc (v := (nI (k + 1))) (lv' := [(3, .int (nI (k + 1))), (2, .int (nI n)), (0, .ref h0), (1, .ref hf)]) hx hb dX2_seek_62 hl (k := 0) rfl (nI_add _ 1) (by decide) rfl (fun ls hl => ?_)
              refine lv_goto (tgt := 7) hx hb dX2_seek_65 (by decide) ?_
              exact ih_7 (k + 1) (rbF n (tur n (p_ + k) n)) (by omega) (by omega) (by rw [rb_next hkl, ← Nat.add_assoc]) (by rw [← hres, hf_, fqF, if_neg (fun z_ => Bool.noConfusion (c_44.symm.trans z_.2)), ← Nat.add_assoc]) _ rfl _ _ (hP.sub [0, 1, 2, 3, 4, 5] rfl) (hD.sub [0, 1, 2, 3, 4, 5] (by decide) rfl) hS _ (lv_sub hl [0, 1, 2, 3] rfl)
            · have c_44 := b2_n0.mp c_44
              refine lv_goto (tgt := 68) hx hb dX2_seek_47 (by decide) ?_
              refine lv_aload_n hx hb dX2_seek_68 rfl (lv_at hl 2 rfl) ?_
              refine va_get (D := D) (ci := 2) (v := .int sv) (C := RX2) (T := TX2) (N := 3) hx hb hts (by decide +kernel) hown hK hP 0 rfl rfl 2 (by decide) (hts (.fieldLink RX2 20 "ConceptTable$Inquiry" "asked" "I") (by decide +kernel)) (fun _ h9 => h9) rfl dX2_seek_69 ?_
              have e_ret : sv = (fqF r n o pr cn z (2 ^ n - p_) p_) := by rw [← hres, hsv_, hf_, fqF, if_pos ⟨fun z_ => Bool.noConfusion (c_30.symm.trans ((hgc _ ht_).mpr z_)), c_44⟩]
              have hP := hP.sub (ws' := [(h0, .inr (2, [.ref h4, .int (b2 op), .int sv])), (h4, .inr (4, fr)), (h2, .inl (cI, N, .inl (fun i_ => nI (pr i_)))), (h3, .inl (cI, N, .inl (fun i_ => nI (cn i_)))), (hf, .inr (1, ff)), (hle, .inl (cI, M, .inl (fun i_ => lvO (g i_))))]) [0, 1, 2, 3, 4, 5] rfl
              have hD := hD.sub (ws' := [(h0, .inr (2, [.ref h4, .int (b2 op), .int sv])), (h4, .inr (4, fr)), (h2, .inl (cI, N, .inl (fun i_ => nI (pr i_)))), (h3, .inl (cI, N, .inl (fun i_ => nI (cn i_)))), (hf, .inr (1, ff)), (hle, .inl (cI, M, .inl (fun i_ => lvO (g i_))))]) [0, 1, 2, 3, 4, 5] (by decide) rfl
              have e_w1 : sv = (fqF r n o pr cn z (2 ^ n - p_) p_) := by rw [← hres, hsv_, hf_, fqF, if_pos ⟨fun z_ => Bool.noConfusion (c_30.symm.trans ((hgc _ ht_).mpr z_)), c_44⟩]
              have hP : va_P D vwCl [(h0, .inr (2, [.ref h4, .int (b2 op), .int (fqF r n o pr cn z (2 ^ n - p_) p_)])), (h4, .inr (4, fr)), (h2, .inl (cI, N, .inl (fun i_ => nI (pr i_)))), (h3, .inl (cI, N, .inl (fun i_ => nI (cn i_)))), (hf, .inr (1, ff)), (hle, .inl (cI, M, .inl (fun i_ => lvO (g i_))))] H := by rw [← e_w1]; exact hP
              have hD : va_D A [(h0, .inr (2, [.ref h4, .int (b2 op), .int (fqF r n o pr cn z (2 ^ n - p_) p_)])), (h4, .inr (4, fr)), (h2, .inl (cI, N, .inl (fun i_ => nI (pr i_)))), (h3, .inl (cI, N, .inl (fun i_ => nI (cn i_)))), (hf, .inr (1, ff)), (hle, .inl (cI, M, .inl (fun i_ => lvO (g i_))))] := by rw [← e_w1]; exact hD
              exact W.iret (v := sv) hx hb hr (fun t ht hW => ⟨⟨congrArg (fun z_ => Outcome.returned (some (Value.int z_))) e_ret, by rw [ht]; exact hP, hD⟩, hS.F ht⟩) hS.2.2 dX2_seek_72
  exact lp_7 _ 0 (nI t_) (Nat.lt_succ_self _) (by omega) (by rw [Nat.add_zero, if_pos hp_, ht9]) (by rw [Nat.add_zero]) _ rfl _ _ hP hD hS _ (lv_sub hl [0, 1, 2, 3] rfl)
