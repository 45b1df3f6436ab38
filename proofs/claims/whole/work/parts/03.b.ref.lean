set_option maxHeartbeats 4000000 in
set_option maxRecDepth 100000 in
theorem c_X8_keepsParts (l : Launch) (D : va_G) (h0 : Nat) (fs : List Value) (h2 : Nat) (h17 : Nat) (cI : ClassId) (cZ : ClassId) (n : Nat) (o : Nat) (r : Nat → Nat) (ip : Nat → Bool) (q : Nat) (f0 : fs[0]? = some (.int (nI n))) (f1 : fs[1]? = some (.int (nI o))) (f2 : fs[2]? = some (.ref h2)) (f17 : fs[17]? = some (.ref h17)) (hn : n ≤ 12) (ho : o ≤ 20) (hq : q < 4096) : Met l yX8_keepsParts wsX8_keepsParts ({ frames := 3, cells := 0, slots := 0, locals := 65 }) (va_Pc [.ref h0, .int (nI q)] (fun U => va_P D vwCl [(h0, .inr (7, fs)), (h2, .inl (cI, 20, .inl (fun i_ => nI (r i_)))), (h17, .inl (cZ, 4096, .inl (fun i_ => b2 (ip i_))))] U.heap ∧ va_K D vwCl [(cI, .int), (cZ, .boolean)] U)) (QcRead (b2 (kpP r n o ip q))) 0 0 (fun _ => False) := by
  refine Met.ofW (cc := cX8_keepsParts) (maxL := 4) (ret := (some .boolean)) (by decide) rfl ?_
  intro p e s m args below meth c s₁ B hml hv
  obtain ⟨rfl, hP, hK⟩ := hv
  have hx := B.exec
  have hb := B.bytes
  have hr := B.returns
  have hts := atoms_spec (ws := wsX8_keepsParts) B.pre
  have hown : s.vm.findClass RX8 = some m.cls := findClass_of_methodNamed B.named
  have hlocks := B.notSynchronized
  have hl := lv_entry ([.ref h0, .int (nI q)]) (n := 4) (Nat.le_of_ble_eq_true rfl)
  rw [lg_entry_eq]
  generalize (lg_sl ([.ref h0, .int (nI q)]) ++ List.replicate (4 - (lg_sl ([.ref h0, .int (nI q)])).length) Slot.unset).toArray = ls at hl ⊢
  have hl : lv_has ls 4 [(0, .ref h0), (1, .int (nI q))] := hl
  refine lv_iconst (v := 1) hx hb dX8_keepsParts_0 (by decide) ?_
  refine lv_istore_n (lv' := [(2, .int (1 : Int32)), (0, .ref h0), (1, .int (nI q))]) hx hb dX8_keepsParts_1 rfl hl (by decide) rfl (fun ls hl => ?_)
  refine lv_iload_n hx hb dX8_keepsParts_2 rfl (lv_at hl 2 rfl) ?_
  refine lv_istore_n (lv' := [(3, .int (nI q)), (2, .int (1 : Int32)), (0, .ref h0), (1, .int (nI q))]) hx hb dX8_keepsParts_3 rfl hl (by decide) rfl (fun ls hl => ?_)
  have lp_4 : ∀ (n_ : Nat) (x : Nat) (kp : Bool), x < n_ → (x ≤ q) → (x &&& q = x) → (kp = true → ∀ p, x ≤ p → p < q → sN p q = true → ip p = true → sN (clo r n o p) q = true) → (kp = false → ∃ p, p < q ∧ sN p q = true ∧ ip p = true ∧ sN (clo r n o p) q = false) → ∀ (x3 : Int32), x3 = nI x → ∀ (x2 : Int32), x2 = b2 kp → ∀ (ls : Array Slot), lv_has ls 4 [(3, .int x3), (2, .int x2), (0, .ref h0), (1, .int (nI q))] → W p l e (headSpec wsX8_keepsParts ({ frames := 3, cells := 0, slots := 0, locals := 65 })).room s m ([.ref h0, .int (nI q)] : List Value).toArray below meth c s.heap [] 0 0 (MQ below (QcRead (b2 (kpP r n o ip q))) ([.ref h0, .int (nI q)] : List Value).toArray s 0 0 (fun _ => False)) (F0 m 4 ls []) := by
    intro n_
    induction n_ with
    | zero => intro x kp h0_; exact absurd h0_ (Nat.not_lt_zero _)
    | succ n_ ih_4 =>
      intro x kp hm_4 hxq hx_ hkp hkf x3 e_x3 x2 e_x2 ls hl
      subst e_x3
      subst e_x2
      refine lv_iload_n hx hb dX8_keepsParts_4 rfl (lv_at hl 0 rfl) ?_
      refine lv_if_le (tgt := 48) hx hb dX8_keepsParts_5 (by decide) (fun c_5 => ?_) (fun c_5 => ?_)
      · have c_5 : x ≤ 0 := (nI_leI (a := x) (b := 0) (by omega) (by omega)).mp c_5
        refine lv_iload_n hx hb dX8_keepsParts_48 rfl (lv_at hl 1 rfl) ?_
        have e_ret : (b2 kp) = (b2 (kpP r n o ip q)) := by cases kp; exact kpP_f (hkf rfl); exact kpP_t c_5 (hkp rfl)
        exact W.zret (v := (b2 kp)) hx hb hr (nb_b2 _) (fun t ht hW => ⟨congrArg (fun z_ => Outcome.returned (some (Value.int z_))) e_ret, ht⟩) (fun q h => by cases h) dX8_keepsParts_49
      · have c_5 : 0 < x := Nat.lt_of_not_le (fun h_ => c_5 ((nI_leI (a := x) (b := 0) (by omega) (by omega)).mpr h_))
        refine lv_iload_n hx hb dX8_keepsParts_8 rfl (lv_at hl 1 rfl) ?_
        refine lv_if_eq (tgt := 48) hx hb dX8_keepsParts_9 (by decide) (fun c_9 => ?_) (fun c_9 => ?_)
        · have c_9 := b2_0.mp c_9
          refine lv_iload_n hx hb dX8_keepsParts_48 rfl (lv_at hl 1 rfl) ?_
          have e_ret : (b2 kp) = (b2 (kpP r n o ip q)) := by cases kp; exact kpP_f (hkf rfl); exact Bool.noConfusion c_9
          exact W.zret (v := (b2 kp)) hx hb hr (nb_b2 _) (fun t ht hW => ⟨congrArg (fun z_ => Outcome.returned (some (Value.int z_))) e_ret, ht⟩) (fun q h => by cases h) dX8_keepsParts_49
        · have c_9 := b2_n0.mp c_9
          have hy1_ : ((x - 1) &&& q) ≤ x - 1 := Nat.and_le_left
          have hy_ : ((x - 1) &&& q) < 4096 := by omega
          have hcl_ := clo_lt r n o ((x - 1) &&& q)
          have h2n := p2_le hn
          refine lv_iload_n hx hb dX8_keepsParts_12 rfl (lv_at hl 0 rfl) ?_
          refine lv_iconst (v := 1) hx hb dX8_keepsParts_13 (by decide) ?_
          refine lv_isub hx hb dX8_keepsParts_14 ?_
          refine lv_re (y := (nI (x - 1))) (pk_sub (a := x) (b := 1) (by omega)) ?_
          refine lv_iload_n hx hb dX8_keepsParts_15 rfl (lv_at hl 3 rfl) ?_
          refine lv_iand hx hb dX8_keepsParts_16 ?_
          refine lv_re (y := (nI ((x - 1) &&& q))) (nx_and (x - 1) q) ?_
          refine lv_istore_n (lv' := [(3, .int (nI ((x - 1) &&& q))), (2, .int (b2 kp)), (0, .ref h0), (1, .int (nI q))]) hx hb dX8_keepsParts_17 rfl hl (by decide) rfl (fun ls hl => ?_)
          refine lv_aload_n hx hb dX8_keepsParts_18 rfl (lv_at hl 2 rfl) ?_
          refine va_get (D := D) (ci := 7) (v := .ref h17) (C := RX8) (T := TX8) (N := 18) hx hb hts (by decide +kernel) hown hK hP 0 rfl rfl 17 (by decide) (hts (.fieldLink RX8 45 "ConceptTableModel" "isPremise" "[Z") (by decide +kernel)) (fun _ h9 => h9) f17 dX8_keepsParts_19 ?_
          refine lv_iload_n hx hb dX8_keepsParts_22 rfl (lv_at hl 0 rfl) ?_
          refine va_zald hx hb hK hP 2 1 rfl rfl (vp_in_nI hy_ (by decide)) dX8_keepsParts_23 ?_
          refine lv_re (y := (b2 (ip ((x - 1) &&& q)))) (by rw [nI_clamp (Nat.lt_trans hy_ (by decide))]) ?_
          refine lv_if_eq (tgt := 39) hx hb dX8_keepsParts_24 (by decide) (fun c_24 => ?_) (fun c_24 => ?_)
          · have c_24 := b2_0.mp c_24
            refine lv_iconst (v := 1) hx hb dX8_keepsParts_39 (by decide) ?_
            refine lv_goto (tgt := 44) hx hb dX8_keepsParts_40 (by decide) ?_
            refine lv_istore_n (lv' := [(2, .int (1 : Int32)), (3, .int (nI ((x - 1) &&& q))), (0, .ref h0), (1, .int (nI q))]) hx hb dX8_keepsParts_44 rfl hl (by decide) rfl (fun ls hl => ?_)
            refine lv_goto (tgt := 4) hx hb dX8_keepsParts_45 (by decide) ?_
            exact ih_4 ((x - 1) &&& q) true (by omega) (by omega) (sN_iff.mp (sN_and _ _)) (fun _ => kp_step (ip := fun p => ip p = true) (good := fun p => sN (clo r n o p) q = true) hx_ (hkp c_9) (fun z => Bool.noConfusion (c_24.symm.trans z))) (fun z => Bool.noConfusion z) _ rfl _ rfl _ (lv_sub hl [1, 0, 2, 3] rfl)
          · have c_24 := b2_n0.mp c_24
            refine lv_aload_n hx hb dX8_keepsParts_27 rfl (lv_at hl 2 rfl) ?_
            refine lv_iload_n hx hb dX8_keepsParts_28 rfl (lv_at hl 0 rfl) ?_
            refine rd_V (As := [.int (nI ((x - 1) &&& q))]) (rest := []) ⟨hx, hb, hml, hown, hts⟩ (c_X8_closureOf l D h0 fs h2 cI n o r ((x - 1) &&& q) f0 f1 f2 hn ho (Nat.lt_trans hy_ (by decide))) (cwV 1 hts gX8_keepsParts_X8_closureOf rfl rfl rfl (by decide +kernel) ⟨Nat.le_of_ble_eq_true rfl, Nat.le_of_ble_eq_true rfl⟩) (hP.sub (ws' := [(h0, .inr (7, fs)), (h2, .inl (cI, 20, .inl (fun i_ => nI (r i_))))]) [0, 1] rfl) (hK.sub (tys' := [(cI, .int)]) [0] rfl) (va_recv hK hP (ci := 7) (q0 := 0) rfl rfl) rfl rfl hl.1 rfl (lv_room (Nat.le_of_ble_eq_true rfl)) dX8_keepsParts_29 ⟨Nat.le_of_ble_eq_true rfl, Nat.le_of_ble_eq_true rfl⟩ ?_
            refine lv_iload_n hx hb dX8_keepsParts_32 rfl (lv_at hl 3 rfl) ?_
            refine rd_S (As := [.int (nI (clo r n o ((x - 1) &&& q))), .int (nI q)]) (rest := []) ⟨hx, hb, hml, hown, hts⟩ (c_X8_isPart_N l D (clo r n o ((x - 1) &&& q)) q (by omega)) (va_cwS 2 hts gX8_keepsParts_X8_isPart rfl rfl rfl (by decide +kernel) ⟨Nat.le_of_ble_eq_true rfl, Nat.le_of_ble_eq_true rfl⟩) (hP.sub (ws' := []) [] rfl) (hK.sub (tys' := []) [] rfl) rfl rfl hl.1 rfl (lv_room (Nat.le_of_ble_eq_true rfl)) dX8_keepsParts_33 ⟨Nat.le_of_ble_eq_true rfl, Nat.le_of_ble_eq_true rfl⟩ ?_
            refine lv_if_eq (tgt := 43) hx hb dX8_keepsParts_36 (by decide) (fun c_36 => ?_) (fun c_36 => ?_)
            · have c_36 := b2_0.mp c_36
              refine lv_iconst (v := 0) hx hb dX8_keepsParts_43 (by decide) ?_
              refine lv_istore_n (lv' := [(2, .int (0 : Int32)), (3, .int (nI ((x - 1) &&& q))), (0, .ref h0), (1, .int (nI q))]) hx hb dX8_keepsParts_44 rfl hl (by decide) rfl (fun ls hl => ?_)
              refine lv_goto (tgt := 4) hx hb dX8_keepsParts_45 (by decide) ?_
              exact ih_4 ((x - 1) &&& q) false (by omega) (by omega) (sN_iff.mp (sN_and _ _)) (fun z => Bool.noConfusion z) (fun _ => ⟨_, by omega, sN_and _ _, c_24, c_36⟩) _ rfl _ rfl _ (lv_sub hl [1, 0, 2, 3] rfl)
            · have c_36 := b2_n0.mp c_36
              refine lv_iconst (v := 1) hx hb dX8_keepsParts_39 (by decide) ?_
              refine lv_goto (tgt := 44) hx hb dX8_keepsParts_40 (by decide) ?_
              refine lv_istore_n (lv' := [(2, .int (1 : Int32)), (3, .int (nI ((x - 1) &&& q))), (0, .ref h0), (1, .int (nI q))]) hx hb dX8_keepsParts_44 rfl hl (by decide) rfl (fun ls hl => ?_)
              refine lv_goto (tgt := 4) hx hb dX8_keepsParts_45 (by decide) ?_
              exact ih_4 ((x - 1) &&& q) true (by omega) (by omega) (sN_iff.mp (sN_and _ _)) (fun _ => kp_step (ip := fun p => ip p = true) (good := fun p => sN (clo r n o p) q = true) hx_ (hkp c_9) (fun _ => c_36)) (fun z => Bool.noConfusion z) _ rfl _ rfl _ (lv_sub hl [1, 0, 2, 3] rfl)
  exact lp_4 _ q true (Nat.lt_succ_self _) (Nat.le_refl _) (Nat.and_self _) (fun _ p h1 h2 => absurd h2 (by omega)) (fun z => Bool.noConfusion z) _ rfl _ rfl _ (lv_sub hl [0, 1, 2, 3] rfl)

set_option maxHeartbeats 4000000 in
set_option maxRecDepth 100000 in
theorem c_X8_isRightAbove (l : Launch) (D : va_G) (h0 : Nat) (fs : List Value) (h6 : Nat) (cI : ClassId) (co : Nat) (conc : Nat → Nat) (j : Nat) (i : Nat) (f5 : fs[5]? = some (.int (nI co))) (f6 : fs[6]? = some (.ref h6)) (hco : co ≤ 4096) (hcl : ∀ i, i < co → conc i < 4096) (hj : j < co) (hi : i < co) : Met l yX8_isRightAbove wsX8_isRightAbove ({ frames := 1, cells := 0, slots := 0, locals := 21 }) (va_Pc [.ref h0, .int (nI j), .int (nI i)] (fun U => va_P D vwCl [(h0, .inr (7, fs)), (h6, .inl (cI, 4096, .inl (fun i_ => nI (conc i_))))] U.heap ∧ va_K D vwCl [(cI, .int)] U)) (QcRead (b2 (raB conc co j i))) 0 0 (fun _ => False) := by
  refine Met.ofW (cc := cX8_isRightAbove) (maxL := 4) (ret := (some .boolean)) (by decide) rfl ?_
  intro p e s m args below meth c s₁ B hml hv
  obtain ⟨rfl, hP, hK⟩ := hv
  have hx := B.exec
  have hb := B.bytes
  have hr := B.returns
  have hts := atoms_spec (ws := wsX8_isRightAbove) B.pre
  have hown : s.vm.findClass RX8 = some m.cls := findClass_of_methodNamed B.named
  have hlocks := B.notSynchronized
  have hl := lv_entry ([.ref h0, .int (nI j), .int (nI i)]) (n := 4) (Nat.le_of_ble_eq_true rfl)
  rw [lg_entry_eq]
  generalize (lg_sl ([.ref h0, .int (nI j), .int (nI i)]) ++ List.replicate (4 - (lg_sl ([.ref h0, .int (nI j), .int (nI i)])).length) Slot.unset).toArray = ls at hl ⊢
  have hl : lv_has ls 4 [(0, .ref h0), (1, .int (nI j)), (2, .int (nI i))] := hl
  have hcb : ∀ i, i < co → conc i < 2 ^ 31 := fun i h => Nat.lt_trans (hcl i h) (by decide)
  refine lv_iload_n hx hb dX8_isRightAbove_0 rfl (lv_at hl 1 rfl) ?_
  refine lv_iload_n hx hb dX8_isRightAbove_1 rfl (lv_at hl 2 rfl) ?_
  refine lv_icmp_eq (tgt := 23) hx hb dX8_isRightAbove_2 (by decide) (fun c_2 => ?_) (fun c_2 => ?_)
  · have c_2 : j = i := (nI_eq (a := j) (b := i) (by omega) (by omega)).mp c_2
    refine lv_iconst (v := 0) hx hb dX8_isRightAbove_23 (by decide) ?_
    have e_ret : (0 : Int32) = (b2 (raB conc co j i)) := by unfold raB; rw [decide_eq_false (fun z => z.1 c_2)]; rfl
    exact W.zret (v := (0 : Int32)) hx hb hr rfl (fun t ht hW => ⟨congrArg (fun z_ => Outcome.returned (some (Value.int z_))) e_ret, ht⟩) (fun q h => by cases h) dX8_isRightAbove_24
  · have c_2 : ¬ j = i := fun h_ => c_2 ((nI_eq (a := j) (b := i) (by omega) (by omega)).mpr h_)
    refine lv_aload_n hx hb dX8_isRightAbove_5 rfl (lv_at hl 0 rfl) ?_
    refine va_get (D := D) (ci := 7) (v := .ref h6) (C := RX8) (T := TX8) (N := 18) hx hb hts (by decide +kernel) hown hK hP 0 rfl rfl 6 (by decide) (hts (.fieldLink RX8 24 "ConceptTableModel" "concept" "[I") (by decide +kernel)) (fun _ h9 => h9) f6 dX8_isRightAbove_6 ?_
    refine lv_iload_n hx hb dX8_isRightAbove_9 rfl (lv_at hl 1 rfl) ?_
    refine va_iald hx hb hK hP 1 0 rfl rfl (vp_in_nI (by omega) (by omega)) dX8_isRightAbove_10 ?_
    refine lv_re (y := (nI (conc j))) (by rw [nI_clamp (by omega)]) ?_
    refine lv_aload_n hx hb dX8_isRightAbove_11 rfl (lv_at hl 0 rfl) ?_
    refine va_get (D := D) (ci := 7) (v := .ref h6) (C := RX8) (T := TX8) (N := 18) hx hb hts (by decide +kernel) hown hK hP 0 rfl rfl 6 (by decide) (hts (.fieldLink RX8 24 "ConceptTableModel" "concept" "[I") (by decide +kernel)) (fun _ h9 => h9) f6 dX8_isRightAbove_12 ?_
    refine lv_iload_n hx hb dX8_isRightAbove_15 rfl (lv_at hl 2 rfl) ?_
    refine va_iald hx hb hK hP 1 0 rfl rfl (vp_in_nI (by omega) (by omega)) dX8_isRightAbove_16 ?_
    refine lv_re (y := (nI (conc i))) (by rw [nI_clamp (by omega)]) ?_
    refine rd_S (As := [.int (nI (conc j)), .int (nI (conc i))]) (rest := []) ⟨hx, hb, hml, hown, hts⟩ (c_X8_isPart_N l D (conc j) (conc i) (hcb _ hj)) (va_cwS 2 hts gX8_isRightAbove_X8_isPart rfl rfl rfl (by decide +kernel) ⟨Nat.le_of_ble_eq_true rfl, Nat.le_of_ble_eq_true rfl⟩) (hP.sub (ws' := []) [] rfl) (hK.sub (tys' := []) [] rfl) rfl rfl hl.1 rfl (lv_room (Nat.le_of_ble_eq_true rfl)) dX8_isRightAbove_17 ⟨Nat.le_of_ble_eq_true rfl, Nat.le_of_ble_eq_true rfl⟩ ?_
    refine lv_if_ne (tgt := 25) hx hb dX8_isRightAbove_20 (by decide) (fun c_20 => ?_) (fun c_20 => ?_)
    · have c_20 := b2_n0.mp c_20
      refine lv_iconst (v := 0) hx hb dX8_isRightAbove_25 (by decide) ?_
      refine lv_istore_n (lv' := [(3, .int (0 : Int32)), (0, .ref h0), (1, .int (nI j)), (2, .int (nI i))]) hx hb dX8_isRightAbove_26 rfl hl (by decide) rfl (fun ls hl => ?_)
      have lp_27 : ∀ (n_ : Nat) (k : Nat), co - k < n_ → (k ≤ co) → (∀ k_, k_ < k → ¬ k_ = i → ¬ k_ = j → sN (conc j) (conc k_) = true → sN (conc k_) (conc i) = false) → ∀ (x3 : Int32), x3 = nI k → ∀ (ls : Array Slot), lv_has ls 4 [(3, .int x3), (0, .ref h0), (1, .int (nI j)), (2, .int (nI i))] → W p l e (headSpec wsX8_isRightAbove ({ frames := 1, cells := 0, slots := 0, locals := 21 })).room s m ([.ref h0, .int (nI j), .int (nI i)] : List Value).toArray below meth c s.heap [] 0 0 (MQ below (QcRead (b2 (raB conc co j i))) ([.ref h0, .int (nI j), .int (nI i)] : List Value).toArray s 0 0 (fun _ => False)) (F0 m 27 ls []) := by
        intro n_
        induction n_ with
        | zero => intro k h0_; exact absurd h0_ (Nat.not_lt_zero _)
        | succ n_ ih_27 =>
          intro k hm_27 hk hin x3 e_x3 ls hl
          subst e_x3
          refine lv_iload_n hx hb dX8_isRightAbove_27 rfl (lv_at hl 0 rfl) ?_
          refine lv_aload_n hx hb dX8_isRightAbove_28 rfl (lv_at hl 1 rfl) ?_
          refine va_get (D := D) (ci := 7) (v := .int (nI co)) (C := RX8) (T := TX8) (N := 18) hx hb hts (by decide +kernel) hown hK hP 0 rfl rfl 5 (by decide) (hts (.fieldLink RX8 96 "ConceptTableModel" "concepts" "I") (by decide +kernel)) (fun _ h9 => h9) f5 dX8_isRightAbove_29 ?_
          refine lv_icmp_ge (tgt := 89) hx hb dX8_isRightAbove_32 (by decide) (fun c_32 => ?_) (fun c_32 => ?_)
          · have c_32 : co ≤ k := (nI_leI (a := co) (b := k) (by omega) (by omega)).mp c_32
            refine lv_iconst (v := 1) hx hb dX8_isRightAbove_89 (by decide) ?_
            have e_ret : (1 : Int32) = (b2 (raB conc co j i)) := by unfold raB; rw [decide_eq_true ⟨c_2, c_20, fun k_ h => hin k_ (by omega)⟩]; rfl
            exact W.zret (v := (1 : Int32)) hx hb hr rfl (fun t ht hW => ⟨congrArg (fun z_ => Outcome.returned (some (Value.int z_))) e_ret, ht⟩) (fun q h => by cases h) dX8_isRightAbove_90
          · have c_32 : k < co := Nat.lt_of_not_le (fun h_ => c_32 ((nI_leI (a := co) (b := k) (by omega) (by omega)).mpr h_))
            refine lv_iload_n hx hb dX8_isRightAbove_35 rfl (lv_at hl 0 rfl) ?_
            refine lv_iload_n hx hb dX8_isRightAbove_36 rfl (lv_at hl 3 rfl) ?_
            refine lv_icmp_eq (tgt := 83) hx hb dX8_isRightAbove_37 (by decide) (fun c_37 => ?_) (fun c_37 => ?_)
            · have c_37 : k = i := (nI_eq (a := k) (b := i) (by omega) (by omega)).mp c_37
              refine lv_iinc (v := (nI (k + 1))) (lv' := [(3, .int (nI (k + 1))), (0, .ref h0), (1, .int (nI j)), (2, .int (nI i))]) hx hb dX8_isRightAbove_83 hl (k := 0) rfl (nI_add _ 1) (by decide) rfl (fun ls hl => ?_)
              refine lv_goto (tgt := 27) hx hb dX8_isRightAbove_86 (by decide) ?_
              exact ih_27 (k + 1) (by omega) (by omega) (lt_s hin (fun z => absurd c_37 z)) _ rfl _ (lv_sub hl [0, 1, 2, 3] rfl)
            · have c_37 : ¬ k = i := fun h_ => c_37 ((nI_eq (a := k) (b := i) (by omega) (by omega)).mpr h_)
              refine lv_iload_n hx hb dX8_isRightAbove_40 rfl (lv_at hl 0 rfl) ?_
              refine lv_iload_n hx hb dX8_isRightAbove_41 rfl (lv_at hl 2 rfl) ?_
              refine lv_icmp_eq (tgt := 83) hx hb dX8_isRightAbove_42 (by decide) (fun c_42 => ?_) (fun c_42 => ?_)
              · have c_42 : k = j := (nI_eq (a := k) (b := j) (by omega) (by omega)).mp c_42
                refine lv_iinc (v := (nI (k + 1))) (lv' := [(3, .int (nI (k + 1))), (0, .ref h0), (1, .int (nI j)), (2, .int (nI i))]) hx hb dX8_isRightAbove_83 hl (k := 0) rfl (nI_add _ 1) (by decide) rfl (fun ls hl => ?_)
                refine lv_goto (tgt := 27) hx hb dX8_isRightAbove_86 (by decide) ?_
                exact ih_27 (k + 1) (by omega) (by omega) (lt_s hin (fun _ z => absurd c_42 z)) _ rfl _ (lv_sub hl [0, 1, 2, 3] rfl)
              · have c_42 : ¬ k = j := fun h_ => c_42 ((nI_eq (a := k) (b := j) (by omega) (by omega)).mpr h_)
                refine lv_aload_n hx hb dX8_isRightAbove_45 rfl (lv_at hl 1 rfl) ?_
                refine va_get (D := D) (ci := 7) (v := .ref h6) (C := RX8) (T := TX8) (N := 18) hx hb hts (by decide +kernel) hown hK hP 0 rfl rfl 6 (by decide) (hts (.fieldLink RX8 24 "ConceptTableModel" "concept" "[I") (by decide +kernel)) (fun _ h9 => h9) f6 dX8_isRightAbove_46 ?_
                refine lv_iload_n hx hb dX8_isRightAbove_49 rfl (lv_at hl 2 rfl) ?_
                refine va_iald hx hb hK hP 1 0 rfl rfl (vp_in_nI (by omega) (by omega)) dX8_isRightAbove_50 ?_
                refine lv_re (y := (nI (conc j))) (by rw [nI_clamp (by omega)]) ?_
                refine lv_aload_n hx hb dX8_isRightAbove_51 rfl (lv_at hl 1 rfl) ?_
                refine va_get (D := D) (ci := 7) (v := .ref h6) (C := RX8) (T := TX8) (N := 18) hx hb hts (by decide +kernel) hown hK hP 0 rfl rfl 6 (by decide) (hts (.fieldLink RX8 24 "ConceptTableModel" "concept" "[I") (by decide +kernel)) (fun _ h9 => h9) f6 dX8_isRightAbove_52 ?_
                refine lv_iload_n hx hb dX8_isRightAbove_55 rfl (lv_at hl 0 rfl) ?_
                refine va_iald hx hb hK hP 1 0 rfl rfl (vp_in_nI (by omega) (by omega)) dX8_isRightAbove_56 ?_
                refine lv_re (y := (nI (conc k))) (by rw [nI_clamp (by omega)]) ?_
                refine rd_S (As := [.int (nI (conc j)), .int (nI (conc k))]) (rest := []) ⟨hx, hb, hml, hown, hts⟩ (c_X8_isPart_N l D (conc j) (conc k) (hcb _ hj)) (va_cwS 2 hts gX8_isRightAbove_X8_isPart rfl rfl rfl (by decide +kernel) ⟨Nat.le_of_ble_eq_true rfl, Nat.le_of_ble_eq_true rfl⟩) (hP.sub (ws' := []) [] rfl) (hK.sub (tys' := []) [] rfl) rfl rfl hl.1 rfl (lv_room (Nat.le_of_ble_eq_true rfl)) dX8_isRightAbove_57 ⟨Nat.le_of_ble_eq_true rfl, Nat.le_of_ble_eq_true rfl⟩ ?_
                refine lv_if_eq (tgt := 83) hx hb dX8_isRightAbove_60 (by decide) (fun c_60 => ?_) (fun c_60 => ?_)
                · have c_60 := b2_0.mp c_60
                  refine lv_iinc (v := (nI (k + 1))) (lv' := [(3, .int (nI (k + 1))), (0, .ref h0), (1, .int (nI j)), (2, .int (nI i))]) hx hb dX8_isRightAbove_83 hl (k := 0) rfl (nI_add _ 1) (by decide) rfl (fun ls hl => ?_)
                  refine lv_goto (tgt := 27) hx hb dX8_isRightAbove_86 (by decide) ?_
                  exact ih_27 (k + 1) (by omega) (by omega) (lt_s hin (fun _ _ z => Bool.noConfusion (c_60.symm.trans z))) _ rfl _ (lv_sub hl [0, 1, 2, 3] rfl)
                · have c_60 := b2_n0.mp c_60
                  refine lv_aload_n hx hb dX8_isRightAbove_63 rfl (lv_at hl 1 rfl) ?_
                  refine va_get (D := D) (ci := 7) (v := .ref h6) (C := RX8) (T := TX8) (N := 18) hx hb hts (by decide +kernel) hown hK hP 0 rfl rfl 6 (by decide) (hts (.fieldLink RX8 24 "ConceptTableModel" "concept" "[I") (by decide +kernel)) (fun _ h9 => h9) f6 dX8_isRightAbove_64 ?_
                  refine lv_iload_n hx hb dX8_isRightAbove_67 rfl (lv_at hl 0 rfl) ?_
                  refine va_iald hx hb hK hP 1 0 rfl rfl (vp_in_nI (by omega) (by omega)) dX8_isRightAbove_68 ?_
                  refine lv_re (y := (nI (conc k))) (by rw [nI_clamp (by omega)]) ?_
                  refine lv_aload_n hx hb dX8_isRightAbove_69 rfl (lv_at hl 1 rfl) ?_
                  refine va_get (D := D) (ci := 7) (v := .ref h6) (C := RX8) (T := TX8) (N := 18) hx hb hts (by decide +kernel) hown hK hP 0 rfl rfl 6 (by decide) (hts (.fieldLink RX8 24 "ConceptTableModel" "concept" "[I") (by decide +kernel)) (fun _ h9 => h9) f6 dX8_isRightAbove_70 ?_
                  refine lv_iload_n hx hb dX8_isRightAbove_73 rfl (lv_at hl 3 rfl) ?_
                  refine va_iald hx hb hK hP 1 0 rfl rfl (vp_in_nI (by omega) (by omega)) dX8_isRightAbove_74 ?_
                  refine lv_re (y := (nI (conc i))) (by rw [nI_clamp (by omega)]) ?_
                  refine rd_S (As := [.int (nI (conc k)), .int (nI (conc i))]) (rest := []) ⟨hx, hb, hml, hown, hts⟩ (c_X8_isPart_N l D (conc k) (conc i) (hcb _ (by omega))) (va_cwS 2 hts gX8_isRightAbove_X8_isPart rfl rfl rfl (by decide +kernel) ⟨Nat.le_of_ble_eq_true rfl, Nat.le_of_ble_eq_true rfl⟩) (hP.sub (ws' := []) [] rfl) (hK.sub (tys' := []) [] rfl) rfl rfl hl.1 rfl (lv_room (Nat.le_of_ble_eq_true rfl)) dX8_isRightAbove_75 ⟨Nat.le_of_ble_eq_true rfl, Nat.le_of_ble_eq_true rfl⟩ ?_
                  refine lv_if_eq (tgt := 83) hx hb dX8_isRightAbove_78 (by decide) (fun c_78 => ?_) (fun c_78 => ?_)
                  · have c_78 := b2_0.mp c_78
                    refine lv_iinc (v := (nI (k + 1))) (lv' := [(3, .int (nI (k + 1))), (0, .ref h0), (1, .int (nI j)), (2, .int (nI i))]) hx hb dX8_isRightAbove_83 hl (k := 0) rfl (nI_add _ 1) (by decide) rfl (fun ls hl => ?_)
                    refine lv_goto (tgt := 27) hx hb dX8_isRightAbove_86 (by decide) ?_
                    exact ih_27 (k + 1) (by omega) (by omega) (lt_s hin (fun _ _ _ => c_78)) _ rfl _ (lv_sub hl [0, 1, 2, 3] rfl)
                  · have c_78 := b2_n0.mp c_78
                    refine lv_iconst (v := 0) hx hb dX8_isRightAbove_81 (by decide) ?_
                    have e_ret : (0 : Int32) = (b2 (raB conc co j i)) := by unfold raB; rw [decide_eq_false (fun z => Bool.noConfusion ((z.2.2 k (by omega) c_37 c_42 c_60).symm.trans c_78))]; rfl
                    exact W.zret (v := (0 : Int32)) hx hb hr rfl (fun t ht hW => ⟨congrArg (fun z_ => Outcome.returned (some (Value.int z_))) e_ret, ht⟩) (fun q h => by cases h) dX8_isRightAbove_82
      exact lp_27 _ 0 (Nat.lt_succ_self _) (Nat.zero_le _) (fun j h => absurd h (Nat.not_lt_zero _)) _ rfl _ (lv_sub hl [0, 1, 2, 3] rfl)
    · have c_20 := b2_0.mp c_20
      refine lv_iconst (v := 0) hx hb dX8_isRightAbove_23 (by decide) ?_
      have e_ret : (0 : Int32) = (b2 (raB conc co j i)) := by unfold raB; rw [decide_eq_false (fun z => Bool.noConfusion (z.2.1.symm.trans c_20))]; rfl
      exact W.zret (v := (0 : Int32)) hx hb hr rfl (fun t ht hW => ⟨congrArg (fun z_ => Outcome.returned (some (Value.int z_))) e_ret, ht⟩) (fun q h => by cases h) dX8_isRightAbove_24

set_option maxHeartbeats 4000000 in
set_option maxRecDepth 100000 in
theorem c_X8_findLevels (l : Launch) (D : va_G) (sz : Nat) (h0 : Nat) (n : Nat) (o : Nat) (h2 : Nat) (h3 : Nat) (h4 : Nat) (co : Nat) (h6 : Nat) (h7 : Nat) (ba : Nat) (h9 : Nat) (h10 : Nat) (kn : Bool) (ak : Bool) (qu : Int32) (ac : Nat) (h15 : Nat) (h16 : Nat) (h17 : Nat) (cI : ClassId) (conc : Nat → Nat) (lev : Nat → Nat) (lv : Nat → Nat) (hn : n ≤ 12) (hco : co ≤ 4096) (hcl : ∀ i, i < co → conc i < 4096) (hbn : ∀ i, i < co → bits (conc i) 12 ≤ n) (hbs : ∀ i j, i < co → j < co → ¬ j = i → sN (conc j) (conc i) = true → bits (conc j) 12 < bits (conc i) 12) (hlb : ∀ q, lv q ≤ 4096) (hLV : ∀ i, i < co → lv (conc i) = mlv conc lv i co) : Met l yX8_findLevels wsX8_findLevels ({ frames := 1, cells := 0, slots := 0, locals := 22 }) (va_Pc [.ref h0] (fun U => U.heap.size = sz ∧ va_P D vwCl [(h0, .inr (7, [.int (nI n), .int (nI o), .ref h2, .ref h3, .ref h4, .int (nI co), .ref h6, .ref h7, .int (nI ba), .ref h9, .ref h10, .int (b2 kn), .int (b2 ak), .int qu, .int (nI ac), .ref h15, .ref h16, .ref h17])), (h6, .inl (cI, 4096, .inl (fun i_ => nI (conc i_)))), (h7, .inl (cI, 4096, .inl (fun i_ => nI (lev i_))))] U.heap ∧ va_K D vwCl [(cI, .int)] U ∧ va_D (fun _ => True) [(h0, .inr (7, [.int (nI n), .int (nI o), .ref h2, .ref h3, .ref h4, .int (nI co), .ref h6, .ref h7, .int (nI ba), .ref h9, .ref h10, .int (b2 kn), .int (b2 ak), .int qu, .int (nI ac), .ref h15, .ref h16, .ref h17])), (h6, .inl (cI, 4096, .inl (fun i_ => nI (conc i_)))), (h7, .inl (cI, 4096, .inl (fun i_ => nI (lev i_))))])) (mxQ (fun u_ : (Nat → Nat) => match u_ with | lev' => none) (fun u_ : (Nat → Nat) => match u_ with | lev' => (∀ i, i < co → lev' i = lv (conc i))) (fun u_ : (Nat → Nat) => match u_ with | lev' => [(h0, .inr (7, [.int (nI n), .int (nI o), .ref h2, .ref h3, .ref h4, .int (nI co), .ref h6, .ref h7, .int (nI ba), .ref h9, .ref h10, .int (b2 kn), .int (b2 ak), .int qu, .int (nI ac), .ref h15, .ref h16, .ref h17])), (h6, .inl (cI, 4096, .inl (fun i_ => nI (conc i_)))), (h7, .inl (cI, 4096, .inl (fun i_ => nI (lev' i_))))]) D vwCl (va_A [(h0, .inr (7, [.int (nI n), .int (nI o), .ref h2, .ref h3, .ref h4, .int (nI co), .ref h6, .ref h7, .int (nI ba), .ref h9, .ref h10, .int (b2 kn), .int (b2 ak), .int qu, .int (nI ac), .ref h15, .ref h16, .ref h17])), (h6, .inl (cI, 4096, .inl (fun i_ => nI (conc i_)))), (h7, .inl (cI, 4096, .inl (fun i_ => nI (lev i_))))] sz)) 0 0 (va_A [(h0, .inr (7, [.int (nI n), .int (nI o), .ref h2, .ref h3, .ref h4, .int (nI co), .ref h6, .ref h7, .int (nI ba), .ref h9, .ref h10, .int (b2 kn), .int (b2 ak), .int qu, .int (nI ac), .ref h15, .ref h16, .ref h17])), (h6, .inl (cI, 4096, .inl (fun i_ => nI (conc i_)))), (h7, .inl (cI, 4096, .inl (fun i_ => nI (lev i_))))] sz) := by
  refine Met.ofW (cc := cX8_findLevels) (maxL := 5) (ret := none) (by decide) rfl ?_
  intro p e s m args below meth c s₁ B hml hv
  obtain ⟨rfl, hsz, hP, hK, hD0⟩ := hv
  have hx := B.exec
  have hb := B.bytes
  have hr := B.returns
  have hts := atoms_spec (ws := wsX8_findLevels) B.pre
  have hown : s.vm.findClass RX8 = some m.cls := findClass_of_methodNamed B.named
  have hlocks := B.notSynchronized
  subst hsz
  have hD := hD0.self (sz := s.heap.size)
  generalize hAe : va_A [(h0, .inr (7, [.int (nI n), .int (nI o), .ref h2, .ref h3, .ref h4, .int (nI co), .ref h6, .ref h7, .int (nI ba), .ref h9, .ref h10, .int (b2 kn), .int (b2 ak), .int qu, .int (nI ac), .ref h15, .ref h16, .ref h17])), (h6, .inl (cI, 4096, .inl (fun i_ => nI (conc i_)))), (h7, .inl (cI, 4096, .inl (fun i_ => nI (lev i_))))] s.heap.size = A at hD ⊢
  have hA : ∀ q : Nat, s.heap.size ≤ q → A q := fun q h => by rw [← hAe]; exact Or.inr h
  have hS : va_S A s.heap s.heap [] := va_S.rf
  have hl := lv_entry ([.ref h0]) (n := 5) (Nat.le_of_ble_eq_true rfl)
  rw [lg_entry_eq]
  generalize (lg_sl ([.ref h0]) ++ List.replicate (5 - (lg_sl ([.ref h0])).length) Slot.unset).toArray = ls at hl ⊢
  have hl : lv_has ls 5 [(0, .ref h0)] := hl
  have hcb : ∀ i, i < co → conc i < 2 ^ 31 := fun i h => Nat.lt_trans (hcl i h) (by decide)
  have hbb : ∀ q, bits q 12 < 2 ^ 31 := fun q => Nat.lt_of_le_of_lt (bits_le q 12) (by decide)
  have hmb : ∀ i j, mlv conc lv i j < 2 ^ 31 := fun i j => Nat.lt_of_le_of_lt (mlv_le hlb j) (by decide)
  have hlb2 : ∀ q, lv q + 1 < 2 ^ 31 := fun q => Nat.lt_of_le_of_lt (Nat.succ_le_succ (hlb q)) (by decide)
  refine lv_iconst (v := 0) hx hb dX8_findLevels_0 (by decide) ?_
  refine lv_istore_n (lv' := [(1, .int (0 : Int32)), (0, .ref h0)]) hx hb dX8_findLevels_1 rfl hl (by decide) rfl (fun ls hl => ?_)
  have lp_2 : ∀ (n_ : Nat) (s_ : Nat) (lv1 : Nat → Nat), n + 1 - s_ < n_ → (s_ ≤ n + 1) → (∀ i, i < co → bits (conc i) 12 < s_ → lv1 i = lv (conc i)) → ∀ (x1 : Int32), x1 = nI s_ → ∀ (H : Heap) (locs : List Loc), va_P D vwCl [(h0, .inr (7, [.int (nI n), .int (nI o), .ref h2, .ref h3, .ref h4, .int (nI co), .ref h6, .ref h7, .int (nI ba), .ref h9, .ref h10, .int (b2 kn), .int (b2 ak), .int qu, .int (nI ac), .ref h15, .ref h16, .ref h17])), (h6, .inl (cI, 4096, .inl (fun i_ => nI (conc i_)))), (h7, .inl (cI, 4096, .inl (fun i_ => nI (lv1 i_))))] H → va_D A [(h0, .inr (7, [.int (nI n), .int (nI o), .ref h2, .ref h3, .ref h4, .int (nI co), .ref h6, .ref h7, .int (nI ba), .ref h9, .ref h10, .int (b2 kn), .int (b2 ak), .int qu, .int (nI ac), .ref h15, .ref h16, .ref h17])), (h6, .inl (cI, 4096, .inl (fun i_ => nI (conc i_)))), (h7, .inl (cI, 4096, .inl (fun i_ => nI (lv1 i_))))] → va_S A s.heap H locs → ∀ (ls : Array Slot), lv_has ls 5 [(1, .int x1), (0, .ref h0)] → W p l e (headSpec wsX8_findLevels ({ frames := 1, cells := 0, slots := 0, locals := 22 })).room s m ([.ref h0] : List Value).toArray below meth c H locs 0 0 (MQ below (mxQ (fun u_ : (Nat → Nat) => match u_ with | lev' => none) (fun u_ : (Nat → Nat) => match u_ with | lev' => (∀ i, i < co → lev' i = lv (conc i))) (fun u_ : (Nat → Nat) => match u_ with | lev' => [(h0, .inr (7, [.int (nI n), .int (nI o), .ref h2, .ref h3, .ref h4, .int (nI co), .ref h6, .ref h7, .int (nI ba), .ref h9, .ref h10, .int (b2 kn), .int (b2 ak), .int qu, .int (nI ac), .ref h15, .ref h16, .ref h17])), (h6, .inl (cI, 4096, .inl (fun i_ => nI (conc i_)))), (h7, .inl (cI, 4096, .inl (fun i_ => nI (lev' i_))))]) D vwCl A) ([.ref h0] : List Value).toArray s 0 0 A) (F0 m 2 ls []) := by
    intro n_
    induction n_ with
    | zero => intro s_ lv1 h0_; exact absurd h0_ (Nat.not_lt_zero _)
    | succ n_ ih_2 =>
      intro s_ lv1 hm_2 hs_ hlow x1 e_x1 H locs hP hD hS ls hl
      subst e_x1
      refine lv_iload_n hx hb dX8_findLevels_2 rfl (lv_at hl 0 rfl) ?_
      refine lv_aload_n hx hb dX8_findLevels_3 rfl (lv_at hl 1 rfl) ?_
      refine va_get (D := D) (ci := 7) (v := .int (nI n)) (C := RX8) (T := TX8) (N := 18) hx hb hts (by decide +kernel) hown hK hP 0 rfl rfl 0 (by decide) (hts (.fieldLink RX8 7 "ConceptTableModel" "n" "I") (by decide +kernel)) (fun _ h9 => h9) rfl dX8_findLevels_4 ?_
      refine lv_icmp_gt (tgt := 143) hx hb dX8_findLevels_7 (by decide) (fun c_7 => ?_) (fun c_7 => ?_)
      · have c_7 : n < s_ := (nI_ltI (a := n) (b := s_) (by omega) (by omega)).mp c_7
        have hP := hP.sub (ws' := [(h0, .inr (7, [.int (nI n), .int (nI o), .ref h2, .ref h3, .ref h4, .int (nI co), .ref h6, .ref h7, .int (nI ba), .ref h9, .ref h10, .int (b2 kn), .int (b2 ak), .int qu, .int (nI ac), .ref h15, .ref h16, .ref h17])), (h6, .inl (cI, 4096, .inl (fun i_ => nI (conc i_)))), (h7, .inl (cI, 4096, .inl (fun i_ => nI (lv1 i_))))]) [0, 1, 2] rfl
        have hD := hD.sub (ws' := [(h0, .inr (7, [.int (nI n), .int (nI o), .ref h2, .ref h3, .ref h4, .int (nI co), .ref h6, .ref h7, .int (nI ba), .ref h9, .ref h10, .int (b2 kn), .int (b2 ak), .int qu, .int (nI ac), .ref h15, .ref h16, .ref h17])), (h6, .inl (cI, 4096, .inl (fun i_ => nI (conc i_)))), (h7, .inl (cI, 4096, .inl (fun i_ => nI (lv1 i_))))]) [0, 1, 2] (by decide) rfl
        exact W.vret hx hb hr (fun t ht hW => ⟨⟨lv1, rfl, (fun i hi => hlow i hi (by have := hbn i hi; omega)), by rw [ht]; exact hP, hD⟩, hS.F ht⟩) hS.2.2 dX8_findLevels_143
      · have c_7 : s_ ≤ n := Nat.le_of_not_lt (fun h_ => c_7 ((nI_ltI (a := n) (b := s_) (by omega) (by omega)).mpr h_))
        refine lv_iconst (v := 0) hx hb dX8_findLevels_10 (by decide) ?_
        refine lv_istore_n (lv' := [(2, .int (0 : Int32)), (1, .int (nI s_)), (0, .ref h0)]) hx hb dX8_findLevels_11 rfl hl (by decide) rfl (fun ls hl => ?_)
        have lp_12 : ∀ (n_ : Nat) (i : Nat) (lv2 : Nat → Nat), co - i < n_ → (i ≤ co) → (∀ i, i < co → bits (conc i) 12 < s_ → lv2 i = lv (conc i)) → (∀ j, j < i → bits (conc j) 12 = s_ → lv2 j = lv (conc j)) → ∀ (x2 : Int32), x2 = nI i → ∀ (H : Heap) (locs : List Loc), va_P D vwCl [(h0, .inr (7, [.int (nI n), .int (nI o), .ref h2, .ref h3, .ref h4, .int (nI co), .ref h6, .ref h7, .int (nI ba), .ref h9, .ref h10, .int (b2 kn), .int (b2 ak), .int qu, .int (nI ac), .ref h15, .ref h16, .ref h17])), (h6, .inl (cI, 4096, .inl (fun i_ => nI (conc i_)))), (h7, .inl (cI, 4096, .inl (fun i_ => nI (lv2 i_))))] H → va_D A [(h0, .inr (7, [.int (nI n), .int (nI o), .ref h2, .ref h3, .ref h4, .int (nI co), .ref h6, .ref h7, .int (nI ba), .ref h9, .ref h10, .int (b2 kn), .int (b2 ak), .int qu, .int (nI ac), .ref h15, .ref h16, .ref h17])), (h6, .inl (cI, 4096, .inl (fun i_ => nI (conc i_)))), (h7, .inl (cI, 4096, .inl (fun i_ => nI (lv2 i_))))] → va_S A s.heap H locs → ∀ (ls : Array Slot), lv_has ls 5 [(2, .int x2), (1, .int (nI s_)), (0, .ref h0)] → W p l e (headSpec wsX8_findLevels ({ frames := 1, cells := 0, slots := 0, locals := 22 })).room s m ([.ref h0] : List Value).toArray below meth c H locs 0 0 (MQ below (mxQ (fun u_ : (Nat → Nat) => match u_ with | lev' => none) (fun u_ : (Nat → Nat) => match u_ with | lev' => (∀ i, i < co → lev' i = lv (conc i))) (fun u_ : (Nat → Nat) => match u_ with | lev' => [(h0, .inr (7, [.int (nI n), .int (nI o), .ref h2, .ref h3, .ref h4, .int (nI co), .ref h6, .ref h7, .int (nI ba), .ref h9, .ref h10, .int (b2 kn), .int (b2 ak), .int qu, .int (nI ac), .ref h15, .ref h16, .ref h17])), (h6, .inl (cI, 4096, .inl (fun i_ => nI (conc i_)))), (h7, .inl (cI, 4096, .inl (fun i_ => nI (lev' i_))))]) D vwCl A) ([.ref h0] : List Value).toArray s 0 0 A) (F0 m 12 ls []) := by
          intro n_
          induction n_ with
          | zero => intro i lv2 h0_; exact absurd h0_ (Nat.not_lt_zero _)
          | succ n_ ih_12 =>
            intro i lv2 hm_12 hi_ hlow2 heq2 x2 e_x2 H locs hP hD hS ls hl
            subst e_x2
            refine lv_iload_n hx hb dX8_findLevels_12 rfl (lv_at hl 0 rfl) ?_
            refine lv_aload_n hx hb dX8_findLevels_13 rfl (lv_at hl 2 rfl) ?_
            refine va_get (D := D) (ci := 7) (v := .int (nI co)) (C := RX8) (T := TX8) (N := 18) hx hb hts (by decide +kernel) hown hK hP 0 rfl rfl 5 (by decide) (hts (.fieldLink RX8 96 "ConceptTableModel" "concepts" "I") (by decide +kernel)) (fun _ h9 => h9) rfl dX8_findLevels_14 ?_
            refine lv_icmp_ge (tgt := 137) hx hb dX8_findLevels_17 (by decide) (fun c_17 => ?_) (fun c_17 => ?_)
            · have c_17 : co ≤ i := (nI_leI (a := co) (b := i) (by omega) (by omega)).mp c_17
              refine lv_iinc (v := (nI (s_ + 1))) (lv' := [(1, .int (nI (s_ + 1))), (2, .int (nI i)), (0, .ref h0)]) hx hb dX8_findLevels_137 hl (k := 1) rfl (nI_add _ 1) (by decide) rfl (fun ls hl => ?_)
              refine lv_goto (tgt := 2) hx hb dX8_findLevels_140 (by decide) ?_
              exact ih_2 (s_ + 1) lv2 (by omega) (by omega) (fun i hi hb_ => if h_ : bits (conc i) 12 < s_ then hlow2 i hi h_ else heq2 i (by omega) (by omega)) _ rfl _ _ (hP.sub [0, 1, 2] rfl) (hD.sub [0, 1, 2] (by decide) rfl) hS _ (lv_sub hl [0, 2] rfl)
            · have c_17 : i < co := Nat.lt_of_not_le (fun h_ => c_17 ((nI_leI (a := co) (b := i) (by omega) (by omega)).mpr h_))
              refine lv_aload_n hx hb dX8_findLevels_20 rfl (lv_at hl 2 rfl) ?_
              refine va_get (D := D) (ci := 7) (v := .ref h6) (C := RX8) (T := TX8) (N := 18) hx hb hts (by decide +kernel) hown hK hP 0 rfl rfl 6 (by decide) (hts (.fieldLink RX8 24 "ConceptTableModel" "concept" "[I") (by decide +kernel)) (fun _ h9 => h9) rfl dX8_findLevels_21 ?_
              refine lv_iload_n hx hb dX8_findLevels_24 rfl (lv_at hl 0 rfl) ?_
              refine va_iald hx hb hK hP 1 0 rfl rfl (vp_in_nI (by omega) (by omega)) dX8_findLevels_25 ?_
              refine lv_re (y := (nI (conc i))) (by rw [nI_clamp (by omega)]) ?_
              refine rd_S (As := [.int (nI (conc i))]) (rest := []) ⟨hx, hb, hml, hown, hts⟩ (c_X8_bitsOf l D (conc i) (hcb _ (by omega))) (va_cwS 1 hts gX8_findLevels_X8_bitsOf rfl rfl rfl (by decide +kernel) ⟨Nat.le_of_ble_eq_true rfl, Nat.le_of_ble_eq_true rfl⟩) (hP.sub (ws' := []) [] rfl) (hK.sub (tys' := []) [] rfl) rfl rfl hl.1 rfl (lv_room (Nat.le_of_ble_eq_true rfl)) dX8_findLevels_26 ⟨Nat.le_of_ble_eq_true rfl, Nat.le_of_ble_eq_true rfl⟩ ?_
              refine lv_iload_n hx hb dX8_findLevels_29 rfl (lv_at hl 1 rfl) ?_
              refine lv_icmp_ne (tgt := 131) hx hb dX8_findLevels_30 (by decide) (fun c_30 => ?_) (fun c_30 => ?_)
              · have c_30 : ¬ (bits (conc i) 12) = s_ := fun h_ => c_30 ((nI_eq (a := (bits (conc i) 12)) (b := s_) (hbb _) (by omega)).mpr h_)
                refine lv_iinc (v := (nI (i + 1))) (lv' := [(2, .int (nI (i + 1))), (1, .int (nI s_)), (0, .ref h0)]) hx hb dX8_findLevels_131 hl (k := 0) rfl (nI_add _ 1) (by decide) rfl (fun ls hl => ?_)
                refine lv_goto (tgt := 12) hx hb dX8_findLevels_134 (by decide) ?_
                exact ih_12 (i + 1) lv2 (by omega) (by omega) hlow2 (lt_s heq2 (fun z => absurd z c_30)) _ rfl _ _ (hP.sub [0, 1, 2] rfl) (hD.sub [0, 1, 2] (by decide) rfl) hS _ (lv_sub hl [0, 1, 2] rfl)
              · have c_30 : (bits (conc i) 12) = s_ := (nI_eq (a := (bits (conc i) 12)) (b := s_) (hbb _) (by omega)).mp c_30
                refine lv_aload_n hx hb dX8_findLevels_33 rfl (lv_at hl 2 rfl) ?_
                refine va_get (D := D) (ci := 7) (v := .ref h7) (C := RX8) (T := TX8) (N := 18) hx hb hts (by decide +kernel) hown hK hP 0 rfl rfl 7 (by decide) (hts (.fieldLink RX8 27 "ConceptTableModel" "level" "[I") (by decide +kernel)) (fun _ h9 => h9) rfl dX8_findLevels_34 ?_
                refine lv_iload_n hx hb dX8_findLevels_37 rfl (lv_at hl 0 rfl) ?_
                refine lv_iconst (v := 0) hx hb dX8_findLevels_38 (by decide) ?_
                refine va_iast hx hb hK hP hD hS 2 0 rfl rfl (vp_in_nI (by omega) (by omega)) dX8_findLevels_39 (fun H locs hP hD hS => ?_)
                have e_up : (upd (fun i_ => nI (lv2 i_)) (nI i).toNatClampNeg (0 : Int32)) = (fun i_ => nI ((va_up lv2 i 0) i_)) := by rw [show (nI i).toNatClampNeg = i from nI_clamp (by omega)]; exact up_nI lv2 i 0
                have hP : va_P D vwCl [(h0, .inr (7, [.int (nI n), .int (nI o), .ref h2, .ref h3, .ref h4, .int (nI co), .ref h6, .ref h7, .int (nI ba), .ref h9, .ref h10, .int (b2 kn), .int (b2 ak), .int qu, .int (nI ac), .ref h15, .ref h16, .ref h17])), (h6, .inl (cI, 4096, .inl (fun i_ => nI (conc i_)))), (h7, .inl (cI, 4096, .inl (fun i_ => nI ((va_up lv2 i 0) i_))))] H := by rw [← e_up]; exact hP
                have hD : va_D A [(h0, .inr (7, [.int (nI n), .int (nI o), .ref h2, .ref h3, .ref h4, .int (nI co), .ref h6, .ref h7, .int (nI ba), .ref h9, .ref h10, .int (b2 kn), .int (b2 ak), .int qu, .int (nI ac), .ref h15, .ref h16, .ref h17])), (h6, .inl (cI, 4096, .inl (fun i_ => nI (conc i_)))), (h7, .inl (cI, 4096, .inl (fun i_ => nI ((va_up lv2 i 0) i_))))] := by rw [← e_up]; exact hD
                clear e_up
                refine lv_iconst (v := 0) hx hb dX8_findLevels_40 (by decide) ?_
                refine lv_istore_n (lv' := [(3, .int (0 : Int32)), (2, .int (nI i)), (1, .int (nI s_)), (0, .ref h0)]) hx hb dX8_findLevels_41 rfl hl (by decide) rfl (fun ls hl => ?_)
                have lp_42 : ∀ (n_ : Nat) (j : Nat) (m_ : Nat), co - j < n_ → (j ≤ co) → (m_ = mlv conc lv i j) → ∀ (x3 : Int32), x3 = nI j → ∀ (H : Heap) (locs : List Loc), va_P D vwCl [(h0, .inr (7, [.int (nI n), .int (nI o), .ref h2, .ref h3, .ref h4, .int (nI co), .ref h6, .ref h7, .int (nI ba), .ref h9, .ref h10, .int (b2 kn), .int (b2 ak), .int qu, .int (nI ac), .ref h15, .ref h16, .ref h17])), (h6, .inl (cI, 4096, .inl (fun i_ => nI (conc i_)))), (h7, .inl (cI, 4096, .inl (fun i_ => nI ((va_up lv2 i m_) i_))))] H → va_D A [(h0, .inr (7, [.int (nI n), .int (nI o), .ref h2, .ref h3, .ref h4, .int (nI co), .ref h6, .ref h7, .int (nI ba), .ref h9, .ref h10, .int (b2 kn), .int (b2 ak), .int qu, .int (nI ac), .ref h15, .ref h16, .ref h17])), (h6, .inl (cI, 4096, .inl (fun i_ => nI (conc i_)))), (h7, .inl (cI, 4096, .inl (fun i_ => nI ((va_up lv2 i m_) i_))))] → va_S A s.heap H locs → ∀ (ls : Array Slot), lv_has ls 5 [(3, .int x3), (2, .int (nI i)), (1, .int (nI s_)), (0, .ref h0)] → W p l e (headSpec wsX8_findLevels ({ frames := 1, cells := 0, slots := 0, locals := 22 })).room s m ([.ref h0] : List Value).toArray below meth c H locs 0 0 (MQ below (mxQ (fun u_ : (Nat → Nat) => match u_ with | lev' => none) (fun u_ : (Nat → Nat) => match u_ with | lev' => (∀ i, i < co → lev' i = lv (conc i))) (fun u_ : (Nat → Nat) => match u_ with | lev' => [(h0, .inr (7, [.int (nI n), .int (nI o), .ref h2, .ref h3, .ref h4, .int (nI co), .ref h6, .ref h7, .int (nI ba), .ref h9, .ref h10, .int (b2 kn), .int (b2 ak), .int qu, .int (nI ac), .ref h15, .ref h16, .ref h17])), (h6, .inl (cI, 4096, .inl (fun i_ => nI (conc i_)))), (h7, .inl (cI, 4096, .inl (fun i_ => nI (lev' i_))))]) D vwCl A) ([.ref h0] : List Value).toArray s 0 0 A) (F0 m 42 ls []) := by
                  intro n_
                  induction n_ with
                  | zero => intro j m_ h0_; exact absurd h0_ (Nat.not_lt_zero _)
                  | succ n_ ih_42 =>
                    intro j m_ hm_42 hj_ hm_ x3 e_x3 H locs hP hD hS ls hl
                    subst e_x3
                    refine lv_iload_n hx hb dX8_findLevels_42 rfl (lv_at hl 0 rfl) ?_
                    refine lv_aload_n hx hb dX8_findLevels_43 rfl (lv_at hl 3 rfl) ?_
                    refine va_get (D := D) (ci := 7) (v := .int (nI co)) (C := RX8) (T := TX8) (N := 18) hx hb hts (by decide +kernel) hown hK hP 0 rfl rfl 5 (by decide) (hts (.fieldLink RX8 96 "ConceptTableModel" "concepts" "I") (by decide +kernel)) (fun _ h9 => h9) rfl dX8_findLevels_44 ?_
                    refine lv_icmp_ge (tgt := 131) hx hb dX8_findLevels_47 (by decide) (fun c_47 => ?_) (fun c_47 => ?_)
                    · have c_47 : co ≤ j := (nI_leI (a := co) (b := j) (by omega) (by omega)).mp c_47
                      refine lv_iinc (v := (nI (i + 1))) (lv' := [(2, .int (nI (i + 1))), (3, .int (nI j)), (1, .int (nI s_)), (0, .ref h0)]) hx hb dX8_findLevels_131 hl (k := 1) rfl (nI_add _ 1) (by decide) rfl (fun ls hl => ?_)
                      refine lv_goto (tgt := 12) hx hb dX8_findLevels_134 (by decide) ?_
                      exact ih_12 (i + 1) (va_up lv2 i m_) (by omega) (by omega) (fun k hk_ hb_ => by rw [va_up_ne _ _ (fun z => by rw [z] at hb_; omega)]; exact hlow2 k hk_ hb_) (fun k hk_ hb_ => if h_ : k = i then by rw [h_, va_up_self, hm_, show j = co by omega]; exact (hLV i (by omega)).symm else by rw [va_up_ne _ _ h_]; exact heq2 k (by omega) hb_) _ rfl _ _ (hP.sub [0, 1, 2] rfl) (hD.sub [0, 1, 2] (by decide) rfl) hS _ (lv_sub hl [0, 2, 3] rfl)
                    · have c_47 : j < co := Nat.lt_of_not_le (fun h_ => c_47 ((nI_leI (a := co) (b := j) (by omega) (by omega)).mpr h_))
                      refine lv_iload_n hx hb dX8_findLevels_50 rfl (lv_at hl 0 rfl) ?_
                      refine lv_iload_n hx hb dX8_findLevels_51 rfl (lv_at hl 1 rfl) ?_
                      refine lv_icmp_eq (tgt := 77) hx hb dX8_findLevels_52 (by decide) (fun c_52 => ?_) (fun c_52 => ?_)
                      · have c_52 : j = i := (nI_eq (a := j) (b := i) (by omega) (by omega)).mp c_52
                        refine lv_iconst (v := 0) hx hb dX8_findLevels_77 (by decide) ?_
                        refine lv_istore (lv' := [(4, .int (0 : Int32)), (3, .int (nI j)), (2, .int (nI i)), (1, .int (nI s_)), (0, .ref h0)]) hx hb dX8_findLevels_78 hl (by decide) rfl (fun ls hl => ?_)
                        refine lv_aload_n hx hb dX8_findLevels_80 rfl (lv_at hl 4 rfl) ?_
                        refine va_get (D := D) (ci := 7) (v := .ref h7) (C := RX8) (T := TX8) (N := 18) hx hb hts (by decide +kernel) hown hK hP 0 rfl rfl 7 (by decide) (hts (.fieldLink RX8 27 "ConceptTableModel" "level" "[I") (by decide +kernel)) (fun _ h9 => h9) rfl dX8_findLevels_81 ?_
                        refine lv_iload_n hx hb dX8_findLevels_84 rfl (lv_at hl 2 rfl) ?_
                        refine lv_iload hx hb dX8_findLevels_85 (lv_at hl 0 rfl) ?_
                        refine lv_if_eq (tgt := 118) hx hb dX8_findLevels_87 (by decide) (fun c_87 => ?_) (fun c_87 => ?_)
                        · refine lv_aload_n hx hb dX8_findLevels_118 rfl (lv_at hl 4 rfl) ?_
                          refine va_get (D := D) (ci := 7) (v := .ref h7) (C := RX8) (T := TX8) (N := 18) hx hb hts (by decide +kernel) hown hK hP 0 rfl rfl 7 (by decide) (hts (.fieldLink RX8 27 "ConceptTableModel" "level" "[I") (by decide +kernel)) (fun _ h9 => h9) rfl dX8_findLevels_119 ?_
                          refine lv_iload_n hx hb dX8_findLevels_122 rfl (lv_at hl 2 rfl) ?_
                          refine va_iald hx hb hK hP 2 0 rfl rfl (vp_in_nI (by omega) (by omega)) dX8_findLevels_123 ?_
                          refine lv_re (y := (nI ((va_up lv2 i m_) i))) (by rw [nI_clamp (by omega)]) ?_
                          refine lv_re (y := (nI m_)) (by rw [va_up_self]) ?_
                          refine va_iast hx hb hK hP hD hS 2 0 rfl rfl (vp_in_nI (by omega) (by omega)) dX8_findLevels_124 (fun H locs hP hD hS => ?_)
                          have e_up : (upd (fun i_ => nI ((va_up lv2 i m_) i_)) (nI i).toNatClampNeg (nI m_)) = (fun i_ => nI ((va_up (va_up lv2 i m_) i m_) i_)) := by rw [show (nI i).toNatClampNeg = i from nI_clamp (by omega)]; exact up_nI (va_up lv2 i m_) i m_
                          have hP : va_P D vwCl [(h0, .inr (7, [.int (nI n), .int (nI o), .ref h2, .ref h3, .ref h4, .int (nI co), .ref h6, .ref h7, .int (nI ba), .ref h9, .ref h10, .int (b2 kn), .int (b2 ak), .int qu, .int (nI ac), .ref h15, .ref h16, .ref h17])), (h6, .inl (cI, 4096, .inl (fun i_ => nI (conc i_)))), (h7, .inl (cI, 4096, .inl (fun i_ => nI ((va_up (va_up lv2 i m_) i m_) i_))))] H := by rw [← e_up]; exact hP
                          have hD : va_D A [(h0, .inr (7, [.int (nI n), .int (nI o), .ref h2, .ref h3, .ref h4, .int (nI co), .ref h6, .ref h7, .int (nI ba), .ref h9, .ref h10, .int (b2 kn), .int (b2 ak), .int qu, .int (nI ac), .ref h15, .ref h16, .ref h17])), (h6, .inl (cI, 4096, .inl (fun i_ => nI (conc i_)))), (h7, .inl (cI, 4096, .inl (fun i_ => nI ((va_up (va_up lv2 i m_) i m_) i_))))] := by rw [← e_up]; exact hD
                          clear e_up
                          refine lv_iinc (v := (nI (j + 1))) (lv' := [(3, .int (nI (j + 1))), (4, .int (0 : Int32)), (2, .int (nI i)), (1, .int (nI s_)), (0, .ref h0)]) hx hb dX8_findLevels_125 hl (k := 1) rfl (nI_add _ 1) (by decide) rfl (fun ls hl => ?_)
                          refine lv_goto (tgt := 42) hx hb dX8_findLevels_128 (by decide) ?_
                          rw [bx_uu] at hP hD
                          exact ih_42 (j + 1) m_ (by omega) (by omega) (by rw [mlv, if_neg (fun z => z.1 c_52)]; exact hm_) _ rfl _ _ (hP.sub [0, 1, 2] rfl) (hD.sub [0, 1, 2] (by decide) rfl) hS _ (lv_sub hl [0, 2, 3, 4] rfl)
                        · exact absurd c_87 (by decide)
                      · have c_52 : ¬ j = i := fun h_ => c_52 ((nI_eq (a := j) (b := i) (by omega) (by omega)).mpr h_)
                        refine lv_aload_n hx hb dX8_findLevels_55 rfl (lv_at hl 3 rfl) ?_
                        refine va_get (D := D) (ci := 7) (v := .ref h6) (C := RX8) (T := TX8) (N := 18) hx hb hts (by decide +kernel) hown hK hP 0 rfl rfl 6 (by decide) (hts (.fieldLink RX8 24 "ConceptTableModel" "concept" "[I") (by decide +kernel)) (fun _ h9 => h9) rfl dX8_findLevels_56 ?_
                        refine lv_iload_n hx hb dX8_findLevels_59 rfl (lv_at hl 0 rfl) ?_
                        refine va_iald hx hb hK hP 1 0 rfl rfl (vp_in_nI (by omega) (by omega)) dX8_findLevels_60 ?_
                        refine lv_re (y := (nI (conc j))) (by rw [nI_clamp (by omega)]) ?_
                        refine lv_aload_n hx hb dX8_findLevels_61 rfl (lv_at hl 3 rfl) ?_
                        refine va_get (D := D) (ci := 7) (v := .ref h6) (C := RX8) (T := TX8) (N := 18) hx hb hts (by decide +kernel) hown hK hP 0 rfl rfl 6 (by decide) (hts (.fieldLink RX8 24 "ConceptTableModel" "concept" "[I") (by decide +kernel)) (fun _ h9 => h9) rfl dX8_findLevels_62 ?_
                        refine lv_iload_n hx hb dX8_findLevels_65 rfl (lv_at hl 1 rfl) ?_
                        refine va_iald hx hb hK hP 1 0 rfl rfl (vp_in_nI (by omega) (by omega)) dX8_findLevels_66 ?_
                        refine lv_re (y := (nI (conc i))) (by rw [nI_clamp (by omega)]) ?_
                        refine rd_S (As := [.int (nI (conc j)), .int (nI (conc i))]) (rest := []) ⟨hx, hb, hml, hown, hts⟩ (c_X8_isPart_N l D (conc j) (conc i) (hcb _ (by omega))) (va_cwS 2 hts gX8_findLevels_X8_isPart rfl rfl rfl (by decide +kernel) ⟨Nat.le_of_ble_eq_true rfl, Nat.le_of_ble_eq_true rfl⟩) (hP.sub (ws' := []) [] rfl) (hK.sub (tys' := []) [] rfl) rfl rfl hl.1 rfl (lv_room (Nat.le_of_ble_eq_true rfl)) dX8_findLevels_67 ⟨Nat.le_of_ble_eq_true rfl, Nat.le_of_ble_eq_true rfl⟩ ?_
                        refine lv_if_eq (tgt := 77) hx hb dX8_findLevels_70 (by decide) (fun c_70 => ?_) (fun c_70 => ?_)
                        · have c_70 := b2_0.mp c_70
                          refine lv_iconst (v := 0) hx hb dX8_findLevels_77 (by decide) ?_
                          refine lv_istore (lv' := [(4, .int (0 : Int32)), (3, .int (nI j)), (2, .int (nI i)), (1, .int (nI s_)), (0, .ref h0)]) hx hb dX8_findLevels_78 hl (by decide) rfl (fun ls hl => ?_)
                          refine lv_aload_n hx hb dX8_findLevels_80 rfl (lv_at hl 4 rfl) ?_
                          refine va_get (D := D) (ci := 7) (v := .ref h7) (C := RX8) (T := TX8) (N := 18) hx hb hts (by decide +kernel) hown hK hP 0 rfl rfl 7 (by decide) (hts (.fieldLink RX8 27 "ConceptTableModel" "level" "[I") (by decide +kernel)) (fun _ h9 => h9) rfl dX8_findLevels_81 ?_
                          refine lv_iload_n hx hb dX8_findLevels_84 rfl (lv_at hl 2 rfl) ?_
                          refine lv_iload hx hb dX8_findLevels_85 (lv_at hl 0 rfl) ?_
                          refine lv_if_eq (tgt := 118) hx hb dX8_findLevels_87 (by decide) (fun c_87 => ?_) (fun c_87 => ?_)
                          · refine lv_aload_n hx hb dX8_findLevels_118 rfl (lv_at hl 4 rfl) ?_
                            refine va_get (D := D) (ci := 7) (v := .ref h7) (C := RX8) (T := TX8) (N := 18) hx hb hts (by decide +kernel) hown hK hP 0 rfl rfl 7 (by decide) (hts (.fieldLink RX8 27 "ConceptTableModel" "level" "[I") (by decide +kernel)) (fun _ h9 => h9) rfl dX8_findLevels_119 ?_
                            refine lv_iload_n hx hb dX8_findLevels_122 rfl (lv_at hl 2 rfl) ?_
                            refine va_iald hx hb hK hP 2 0 rfl rfl (vp_in_nI (by omega) (by omega)) dX8_findLevels_123 ?_
                            refine lv_re (y := (nI ((va_up lv2 i m_) i))) (by rw [nI_clamp (by omega)]) ?_
                            refine lv_re (y := (nI m_)) (by rw [va_up_self]) ?_
                            refine va_iast hx hb hK hP hD hS 2 0 rfl rfl (vp_in_nI (by omega) (by omega)) dX8_findLevels_124 (fun H locs hP hD hS => ?_)
                            have e_up : (upd (fun i_ => nI ((va_up lv2 i m_) i_)) (nI i).toNatClampNeg (nI m_)) = (fun i_ => nI ((va_up (va_up lv2 i m_) i m_) i_)) := by rw [show (nI i).toNatClampNeg = i from nI_clamp (by omega)]; exact up_nI (va_up lv2 i m_) i m_
                            have hP : va_P D vwCl [(h0, .inr (7, [.int (nI n), .int (nI o), .ref h2, .ref h3, .ref h4, .int (nI co), .ref h6, .ref h7, .int (nI ba), .ref h9, .ref h10, .int (b2 kn), .int (b2 ak), .int qu, .int (nI ac), .ref h15, .ref h16, .ref h17])), (h6, .inl (cI, 4096, .inl (fun i_ => nI (conc i_)))), (h7, .inl (cI, 4096, .inl (fun i_ => nI ((va_up (va_up lv2 i m_) i m_) i_))))] H := by rw [← e_up]; exact hP
                            have hD : va_D A [(h0, .inr (7, [.int (nI n), .int (nI o), .ref h2, .ref h3, .ref h4, .int (nI co), .ref h6, .ref h7, .int (nI ba), .ref h9, .ref h10, .int (b2 kn), .int (b2 ak), .int qu, .int (nI ac), .ref h15, .ref h16, .ref h17])), (h6, .inl (cI, 4096, .inl (fun i_ => nI (conc i_)))), (h7, .inl (cI, 4096, .inl (fun i_ => nI ((va_up (va_up lv2 i m_) i m_) i_))))] := by rw [← e_up]; exact hD
                            clear e_up
                            refine lv_iinc (v := (nI (j + 1))) (lv' := [(3, .int (nI (j + 1))), (4, .int (0 : Int32)), (2, .int (nI i)), (1, .int (nI s_)), (0, .ref h0)]) hx hb dX8_findLevels_125 hl (k := 1) rfl (nI_add _ 1) (by decide) rfl (fun ls hl => ?_)
                            refine lv_goto (tgt := 42) hx hb dX8_findLevels_128 (by decide) ?_
                            rw [bx_uu] at hP hD
                            exact ih_42 (j + 1) m_ (by omega) (by omega) (by rw [mlv, if_neg (fun z => Bool.noConfusion (c_70.symm.trans z.2.1))]; exact hm_) _ rfl _ _ (hP.sub [0, 1, 2] rfl) (hD.sub [0, 1, 2] (by decide) rfl) hS _ (lv_sub hl [0, 2, 3, 4] rfl)
                          · exact absurd c_87 (by decide)
                        · have c_70 := b2_n0.mp c_70
                          refine lv_iconst (v := 1) hx hb dX8_findLevels_73 (by decide) ?_
                          refine lv_goto (tgt := 78) hx hb dX8_findLevels_74 (by decide) ?_
                          refine lv_istore (lv' := [(4, .int (1 : Int32)), (3, .int (nI j)), (2, .int (nI i)), (1, .int (nI s_)), (0, .ref h0)]) hx hb dX8_findLevels_78 hl (by decide) rfl (fun ls hl => ?_)
                          refine lv_aload_n hx hb dX8_findLevels_80 rfl (lv_at hl 4 rfl) ?_
                          refine va_get (D := D) (ci := 7) (v := .ref h7) (C := RX8) (T := TX8) (N := 18) hx hb hts (by decide +kernel) hown hK hP 0 rfl rfl 7 (by decide) (hts (.fieldLink RX8 27 "ConceptTableModel" "level" "[I") (by decide +kernel)) (fun _ h9 => h9) rfl dX8_findLevels_81 ?_
                          refine lv_iload_n hx hb dX8_findLevels_84 rfl (lv_at hl 2 rfl) ?_
                          refine lv_iload hx hb dX8_findLevels_85 (lv_at hl 0 rfl) ?_
                          refine lv_if_eq (tgt := 118) hx hb dX8_findLevels_87 (by decide) (fun c_87 => ?_) (fun c_87 => ?_)
                          · exact absurd c_87 (by decide)
                          · refine lv_aload_n hx hb dX8_findLevels_90 rfl (lv_at hl 4 rfl) ?_
                            refine va_get (D := D) (ci := 7) (v := .ref h7) (C := RX8) (T := TX8) (N := 18) hx hb hts (by decide +kernel) hown hK hP 0 rfl rfl 7 (by decide) (hts (.fieldLink RX8 27 "ConceptTableModel" "level" "[I") (by decide +kernel)) (fun _ h9 => h9) rfl dX8_findLevels_91 ?_
                            refine lv_iload_n hx hb dX8_findLevels_94 rfl (lv_at hl 1 rfl) ?_
                            refine va_iald hx hb hK hP 2 0 rfl rfl (vp_in_nI (by omega) (by omega)) dX8_findLevels_95 ?_
                            refine lv_re (y := (nI ((va_up lv2 i m_) j))) (by rw [nI_clamp (by omega)]) ?_
                            refine lv_re (y := (nI (lv (conc j)))) (by rw [va_up_ne _ _ c_52, hlow2 j (by omega) (by have := hbs i j (by omega) (by omega) c_52 c_70; omega)]) ?_
                            refine lv_iconst (v := 1) hx hb dX8_findLevels_96 (by decide) ?_
                            refine lv_iadd hx hb dX8_findLevels_97 ?_
                            refine lv_re (y := (nI ((lv (conc j)) + 1))) (nI_add (lv (conc j)) 1) ?_
                            refine lv_aload_n hx hb dX8_findLevels_98 rfl (lv_at hl 4 rfl) ?_
                            refine va_get (D := D) (ci := 7) (v := .ref h7) (C := RX8) (T := TX8) (N := 18) hx hb hts (by decide +kernel) hown hK hP 0 rfl rfl 7 (by decide) (hts (.fieldLink RX8 27 "ConceptTableModel" "level" "[I") (by decide +kernel)) (fun _ h9 => h9) rfl dX8_findLevels_99 ?_
                            refine lv_iload_n hx hb dX8_findLevels_102 rfl (lv_at hl 2 rfl) ?_
                            refine va_iald hx hb hK hP 2 0 rfl rfl (vp_in_nI (by omega) (by omega)) dX8_findLevels_103 ?_
                            refine lv_re (y := (nI ((va_up lv2 i m_) i))) (by rw [nI_clamp (by omega)]) ?_
                            refine lv_re (y := (nI m_)) (by rw [va_up_self]) ?_
                            refine lv_icmp_le (tgt := 118) hx hb dX8_findLevels_104 (by decide) (fun c_104 => ?_) (fun c_104 => ?_)
                            · have c_104 : ((lv (conc j)) + 1) ≤ m_ := (nI_leI (a := ((lv (conc j)) + 1)) (b := m_) (hlb2 _) (by rw [hm_]; exact hmb _ _)).mp c_104
                              refine lv_aload_n hx hb dX8_findLevels_118 rfl (lv_at hl 4 rfl) ?_
                              refine va_get (D := D) (ci := 7) (v := .ref h7) (C := RX8) (T := TX8) (N := 18) hx hb hts (by decide +kernel) hown hK hP 0 rfl rfl 7 (by decide) (hts (.fieldLink RX8 27 "ConceptTableModel" "level" "[I") (by decide +kernel)) (fun _ h9 => h9) rfl dX8_findLevels_119 ?_
                              refine lv_iload_n hx hb dX8_findLevels_122 rfl (lv_at hl 2 rfl) ?_
                              refine va_iald hx hb hK hP 2 0 rfl rfl (vp_in_nI (by omega) (by omega)) dX8_findLevels_123 ?_
                              refine lv_re (y := (nI ((va_up lv2 i m_) i))) (by rw [nI_clamp (by omega)]) ?_
                              refine lv_re (y := (nI m_)) (by rw [va_up_self]) ?_
                              refine va_iast hx hb hK hP hD hS 2 0 rfl rfl (vp_in_nI (by omega) (by omega)) dX8_findLevels_124 (fun H locs hP hD hS => ?_)
                              have e_up : (upd (fun i_ => nI ((va_up lv2 i m_) i_)) (nI i).toNatClampNeg (nI m_)) = (fun i_ => nI ((va_up (va_up lv2 i m_) i m_) i_)) := by rw [show (nI i).toNatClampNeg = i from nI_clamp (by omega)]; exact up_nI (va_up lv2 i m_) i m_
                              have hP : va_P D vwCl [(h0, .inr (7, [.int (nI n), .int (nI o), .ref h2, .ref h3, .ref h4, .int (nI co), .ref h6, .ref h7, .int (nI ba), .ref h9, .ref h10, .int (b2 kn), .int (b2 ak), .int qu, .int (nI ac), .ref h15, .ref h16, .ref h17])), (h6, .inl (cI, 4096, .inl (fun i_ => nI (conc i_)))), (h7, .inl (cI, 4096, .inl (fun i_ => nI ((va_up (va_up lv2 i m_) i m_) i_))))] H := by rw [← e_up]; exact hP
                              have hD : va_D A [(h0, .inr (7, [.int (nI n), .int (nI o), .ref h2, .ref h3, .ref h4, .int (nI co), .ref h6, .ref h7, .int (nI ba), .ref h9, .ref h10, .int (b2 kn), .int (b2 ak), .int qu, .int (nI ac), .ref h15, .ref h16, .ref h17])), (h6, .inl (cI, 4096, .inl (fun i_ => nI (conc i_)))), (h7, .inl (cI, 4096, .inl (fun i_ => nI ((va_up (va_up lv2 i m_) i m_) i_))))] := by rw [← e_up]; exact hD
                              clear e_up
                              refine lv_iinc (v := (nI (j + 1))) (lv' := [(3, .int (nI (j + 1))), (4, .int (1 : Int32)), (2, .int (nI i)), (1, .int (nI s_)), (0, .ref h0)]) hx hb dX8_findLevels_125 hl (k := 1) rfl (nI_add _ 1) (by decide) rfl (fun ls hl => ?_)
                              refine lv_goto (tgt := 42) hx hb dX8_findLevels_128 (by decide) ?_
                              rw [bx_uu] at hP hD
                              exact ih_42 (j + 1) m_ (by omega) (by omega) (by rw [mlv, if_neg (fun z => absurd z.2.2 (by rw [← hm_]; omega))]; exact hm_) _ rfl _ _ (hP.sub [0, 1, 2] rfl) (hD.sub [0, 1, 2] (by decide) rfl) hS _ (lv_sub hl [0, 2, 3, 4] rfl)
                            · have c_104 : m_ < ((lv (conc j)) + 1) := Nat.lt_of_not_le (fun h_ => c_104 ((nI_leI (a := ((lv (conc j)) + 1)) (b := m_) (hlb2 _) (by rw [hm_]; exact hmb _ _)).mpr h_))
                              refine lv_aload_n hx hb dX8_findLevels_107 rfl (lv_at hl 4 rfl) ?_
                              refine va_get (D := D) (ci := 7) (v := .ref h7) (C := RX8) (T := TX8) (N := 18) hx hb hts (by decide +kernel) hown hK hP 0 rfl rfl 7 (by decide) (hts (.fieldLink RX8 27 "ConceptTableModel" "level" "[I") (by decide +kernel)) (fun _ h9 => h9) rfl dX8_findLevels_108 ?_
                              refine lv_iload_n hx hb dX8_findLevels_111 rfl (lv_at hl 1 rfl) ?_
                              refine va_iald hx hb hK hP 2 0 rfl rfl (vp_in_nI (by omega) (by omega)) dX8_findLevels_112 ?_
                              refine lv_re (y := (nI ((va_up lv2 i m_) j))) (by rw [nI_clamp (by omega)]) ?_
                              refine lv_re (y := (nI (lv (conc j)))) (by rw [va_up_ne _ _ c_52, hlow2 j (by omega) (by have := hbs i j (by omega) (by omega) c_52 c_70; omega)]) ?_
                              refine lv_iconst (v := 1) hx hb dX8_findLevels_113 (by decide) ?_
                              refine lv_iadd hx hb dX8_findLevels_114 ?_
                              refine lv_re (y := (nI ((lv (conc j)) + 1))) (nI_add (lv (conc j)) 1) ?_
                              refine lv_goto (tgt := 124) hx hb dX8_findLevels_115 (by decide) ?_
                              refine va_iast hx hb hK hP hD hS 2 0 rfl rfl (vp_in_nI (by omega) (by omega)) dX8_findLevels_124 (fun H locs hP hD hS => ?_)
                              have e_up : (upd (fun i_ => nI ((va_up lv2 i m_) i_)) (nI i).toNatClampNeg (nI ((lv (conc j)) + 1))) = (fun i_ => nI ((va_up (va_up lv2 i m_) i ((lv (conc j)) + 1)) i_)) := by rw [show (nI i).toNatClampNeg = i from nI_clamp (by omega)]; exact up_nI (va_up lv2 i m_) i ((lv (conc j)) + 1)
                              have hP : va_P D vwCl [(h0, .inr (7, [.int (nI n), .int (nI o), .ref h2, .ref h3, .ref h4, .int (nI co), .ref h6, .ref h7, .int (nI ba), .ref h9, .ref h10, .int (b2 kn), .int (b2 ak), .int qu, .int (nI ac), .ref h15, .ref h16, .ref h17])), (h6, .inl (cI, 4096, .inl (fun i_ => nI (conc i_)))), (h7, .inl (cI, 4096, .inl (fun i_ => nI ((va_up (va_up lv2 i m_) i ((lv (conc j)) + 1)) i_))))] H := by rw [← e_up]; exact hP
                              have hD : va_D A [(h0, .inr (7, [.int (nI n), .int (nI o), .ref h2, .ref h3, .ref h4, .int (nI co), .ref h6, .ref h7, .int (nI ba), .ref h9, .ref h10, .int (b2 kn), .int (b2 ak), .int qu, .int (nI ac), .ref h15, .ref h16, .ref h17])), (h6, .inl (cI, 4096, .inl (fun i_ => nI (conc i_)))), (h7, .inl (cI, 4096, .inl (fun i_ => nI ((va_up (va_up lv2 i m_) i ((lv (conc j)) + 1)) i_))))] := by rw [← e_up]; exact hD
                              clear e_up
                              refine lv_iinc (v := (nI (j + 1))) (lv' := [(3, .int (nI (j + 1))), (4, .int (1 : Int32)), (2, .int (nI i)), (1, .int (nI s_)), (0, .ref h0)]) hx hb dX8_findLevels_125 hl (k := 1) rfl (nI_add _ 1) (by decide) rfl (fun ls hl => ?_)
                              refine lv_goto (tgt := 42) hx hb dX8_findLevels_128 (by decide) ?_
                              rw [bx_uu] at hP hD
                              exact ih_42 (j + 1) (lv (conc j) + 1) (by omega) (by omega) (by rw [mlv, if_pos ⟨c_52, c_70, by rw [← hm_]; exact c_104⟩]) _ rfl _ _ (hP.sub [0, 1, 2] rfl) (hD.sub [0, 1, 2] (by decide) rfl) hS _ (lv_sub hl [0, 2, 3, 4] rfl)
                exact lp_42 _ 0 0 (Nat.lt_succ_self _) (Nat.zero_le _) rfl _ rfl _ _ hP hD hS _ (lv_sub hl [0, 1, 2, 3] rfl)
        exact lp_12 _ 0 lv1 (Nat.lt_succ_self _) (Nat.zero_le _) hlow (fun i h => absurd h (Nat.not_lt_zero _)) _ rfl _ _ hP hD hS _ (lv_sub hl [0, 1, 2] rfl)
  exact lp_2 _ 0 lev (Nat.lt_succ_self _) (Nat.zero_le _) (fun i _ h => absurd h (Nat.not_lt_zero _)) _ rfl _ _ hP hD hS _ (lv_sub hl [0, 1] rfl)
