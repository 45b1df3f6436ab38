set_option maxHeartbeats 4000000 in
set_option maxRecDepth 100000 in
theorem c_X7_baseRules (l : Launch) (D : va_G) (sz : Nat) (h0 : Nat) (fs : List Value) (ht : Nat) (ft : List Value) (hro : Nat) (n : Nat) (o : Nat) (cI : ClassId) (r : Nat → Nat) (hbs : Nat) (hru : Nat) (hjo : Nat) (bt : Bool) (hpr : Nat) (hcn : Nat) (bz : Nat) (N : Nat) (pr : Nat → Nat) (cn : Nat → Nat) (jo : Nat → Nat) (hf : Nat) (ff : List Value) (hle : Nat) (g : Nat → Option Nat) (c0 : fs[0]? = some (.ref ht)) (c3 : fs[3]? = some (.ref hf)) (c4 : fs[4]? = some (.ref hbs)) (t0 : ft[0]? = some (.ref hro)) (t1 : ft[1]? = some (.int (nI n))) (t2 : ft[2]? = some (.int (nI o))) (g1 : ff[1]? = some (.ref hle)) (hn : n ≤ 12) (ho : o ≤ 20) (hN : 2 ^ n ≤ N) (hN2 : N ≤ 4096) (hgb : ∀ j v, g j = some v → v ≤ 4096) (hgc : ∀ q, q < 2 ^ n → (gB g q = true ↔ clo r n o q = q)) (hbt : bt = true → bz = (BL r n o).length ∧ lstAt pr (BL r n o) ∧ ∀ j, j < bz → cn j = clo r n o (pr j)) : Met l yX7_baseRules wsX7_baseRules ({ frames := 4, cells := 0, slots := 0, locals := 94 }) (va_Pc [.ref h0] (fun U => U.heap.size = sz ∧ va_P D vwCl [(h0, .inr (6, fs)), (hbs, .inr (0, [.ref hru, .ref hjo, .int (b2 bt)])), (hru, .inr (4, [.ref hpr, .ref hcn, .int (nI bz)])), (hpr, .inl (cI, N, .inl (fun i_ => nI (pr i_)))), (hcn, .inl (cI, N, .inl (fun i_ => nI (cn i_)))), (hjo, .inl (cI, N, .inl (fun i_ => nI (jo i_)))), (ht, .inr (5, ft)), (hro, .inl (cI, 20, .inl (fun i_ => nI (r i_)))), (hf, .inr (1, ff)), (hle, .inl (cI, N, .inl (fun i_ => lvO (g i_))))] U.heap ∧ va_K D vwCl [(cI, .int)] U ∧ va_D (fun _ => True) [(h0, .inr (6, fs)), (hbs, .inr (0, [.ref hru, .ref hjo, .int (b2 bt)])), (hru, .inr (4, [.ref hpr, .ref hcn, .int (nI bz)])), (hpr, .inl (cI, N, .inl (fun i_ => nI (pr i_)))), (hcn, .inl (cI, N, .inl (fun i_ => nI (cn i_)))), (hjo, .inl (cI, N, .inl (fun i_ => nI (jo i_)))), (ht, .inr (5, ft)), (hro, .inl (cI, 20, .inl (fun i_ => nI (r i_)))), (hf, .inr (1, ff)), (hle, .inl (cI, N, .inl (fun i_ => lvO (g i_))))])) (mxQ (fun u_ : Nat × (Nat → Nat) × (Nat → Nat) × (Nat → Nat) => match u_ with | (bz', pr', cn', jo') => (some (.ref hru))) (fun u_ : Nat × (Nat → Nat) × (Nat → Nat) × (Nat → Nat) => match u_ with | (bz', pr', cn', jo') => (bz' = (BL r n o).length ∧ lstAt pr' (BL r n o) ∧ ∀ j, j < bz' → cn' j = clo r n o (pr' j))) (fun u_ : Nat × (Nat → Nat) × (Nat → Nat) × (Nat → Nat) => match u_ with | (bz', pr', cn', jo') => [(h0, .inr (6, fs)), (hbs, .inr (0, [.ref hru, .ref hjo, .int (b2 true)])), (hru, .inr (4, [.ref hpr, .ref hcn, .int (nI bz')])), (hpr, .inl (cI, N, .inl (fun i_ => nI (pr' i_)))), (hcn, .inl (cI, N, .inl (fun i_ => nI (cn' i_)))), (hjo, .inl (cI, N, .inl (fun i_ => nI (jo' i_)))), (ht, .inr (5, ft)), (hro, .inl (cI, 20, .inl (fun i_ => nI (r i_)))), (hf, .inr (1, ff)), (hle, .inl (cI, N, .inl (fun i_ => lvO (g i_))))]) D vwCl (va_A [(h0, .inr (6, fs)), (hbs, .inr (0, [.ref hru, .ref hjo, .int (b2 bt)])), (hru, .inr (4, [.ref hpr, .ref hcn, .int (nI bz)])), (hpr, .inl (cI, N, .inl (fun i_ => nI (pr i_)))), (hcn, .inl (cI, N, .inl (fun i_ => nI (cn i_)))), (hjo, .inl (cI, N, .inl (fun i_ => nI (jo i_)))), (ht, .inr (5, ft)), (hro, .inl (cI, 20, .inl (fun i_ => nI (r i_)))), (hf, .inr (1, ff)), (hle, .inl (cI, N, .inl (fun i_ => lvO (g i_))))] sz)) 0 0 (va_A [(h0, .inr (6, fs)), (hbs, .inr (0, [.ref hru, .ref hjo, .int (b2 bt)])), (hru, .inr (4, [.ref hpr, .ref hcn, .int (nI bz)])), (hpr, .inl (cI, N, .inl (fun i_ => nI (pr i_)))), (hcn, .inl (cI, N, .inl (fun i_ => nI (cn i_)))), (hjo, .inl (cI, N, .inl (fun i_ => nI (jo i_)))), (ht, .inr (5, ft)), (hro, .inl (cI, 20, .inl (fun i_ => nI (r i_)))), (hf, .inr (1, ff)), (hle, .inl (cI, N, .inl (fun i_ => lvO (g i_))))] sz) := by
  refine Met.ofW (cc := cX7_baseRules) (maxL := 1) (ret := (some (.object "ConceptTable$Rules"))) (by decide) rfl ?_
  intro p e s m args below meth c s₁ B hml hv
  obtain ⟨rfl, hsz, hP, hK, hD0⟩ := hv
  have hx := B.exec
  have hb := B.bytes
  have hr := B.returns
  have hts := atoms_spec (ws := wsX7_baseRules) B.pre
  have hown : s.vm.findClass RX7 = some m.cls := findClass_of_methodNamed B.named
  have hlocks := B.notSynchronized
  subst hsz
  have hD := hD0.self (sz := s.heap.size)
  generalize hAe : va_A [(h0, .inr (6, fs)), (hbs, .inr (0, [.ref hru, .ref hjo, .int (b2 bt)])), (hru, .inr (4, [.ref hpr, .ref hcn, .int (nI bz)])), (hpr, .inl (cI, N, .inl (fun i_ => nI (pr i_)))), (hcn, .inl (cI, N, .inl (fun i_ => nI (cn i_)))), (hjo, .inl (cI, N, .inl (fun i_ => nI (jo i_)))), (ht, .inr (5, ft)), (hro, .inl (cI, 20, .inl (fun i_ => nI (r i_)))), (hf, .inr (1, ff)), (hle, .inl (cI, N, .inl (fun i_ => lvO (g i_))))] s.heap.size = A at hD ⊢
  have hA : ∀ q : Nat, s.heap.size ≤ q → A q := fun q h => by rw [← hAe]; exact Or.inr h
  have hS : va_S A s.heap s.heap [] := va_S.rf
  have hl := lv_entry ([.ref h0]) (n := 1) (Nat.le_of_ble_eq_true rfl)
  rw [lg_entry_eq]
  generalize (lg_sl ([.ref h0]) ++ List.replicate (1 - (lg_sl ([.ref h0])).length) Slot.unset).toArray = ls at hl ⊢
  have hl : lv_has ls 1 [(0, .ref h0)] := hl
  refine lv_aload_n hx hb dX7_baseRules_0 rfl (lv_at hl 0 rfl) ?_
  refine va_get (D := D) (ci := 6) (v := .ref hbs) (C := RX7) (T := TX7) (N := 5) hx hb hts (by decide +kernel) hown hK hP 0 rfl rfl 4 (by decide) (hts (.fieldLink RX7 40 "ConceptTable" "stem" "LConceptTable$Base;") (by decide +kernel)) (fun _ h9 => h9) c4 dX7_baseRules_1 ?_
  refine lv_aload_n hx hb dX7_baseRules_4 rfl (lv_at hl 0 rfl) ?_
  refine va_get (D := D) (ci := 6) (v := .ref ht) (C := RX7) (T := TX7) (N := 5) hx hb hts (by decide +kernel) hown hK hP 0 rfl rfl 0 (by decide) (hts (.fieldLink RX7 12 "ConceptTable" "table" "LConceptTable$Table;") (by decide +kernel)) (fun _ h9 => h9) c0 dX7_baseRules_5 ?_
  refine lv_aload_n hx hb dX7_baseRules_8 rfl (lv_at hl 0 rfl) ?_
  refine va_get (D := D) (ci := 6) (v := .ref hf) (C := RX7) (T := TX7) (N := 5) hx hb hts (by decide +kernel) hown hK hP 0 rfl rfl 3 (by decide) (hts (.fieldLink RX7 33 "ConceptTable" "family" "LConceptTable$Family;") (by decide +kernel)) (fun _ h9 => h9) c3 dX7_baseRules_9 ?_
  have hPc := hP.sub (ws' := [(hbs, .inr (0, [.ref hru, .ref hjo, .int (b2 bt)])), (hru, .inr (4, [.ref hpr, .ref hcn, .int (nI bz)])), (hpr, .inl (cI, N, .inl (fun i_ => nI (pr i_)))), (hcn, .inl (cI, N, .inl (fun i_ => nI (cn i_)))), (hjo, .inl (cI, N, .inl (fun i_ => nI (jo i_)))), (ht, .inr (5, ft)), (hro, .inl (cI, 20, .inl (fun i_ => nI (r i_)))), (hf, .inr (1, ff)), (hle, .inl (cI, N, .inl (fun i_ => lvO (g i_))))]) [1, 2, 3, 4, 5, 6, 7, 8, 9] rfl
  have hDc := hD.sub (ws' := [(hbs, .inr (0, [.ref hru, .ref hjo, .int (b2 bt)])), (hru, .inr (4, [.ref hpr, .ref hcn, .int (nI bz)])), (hpr, .inl (cI, N, .inl (fun i_ => nI (pr i_)))), (hcn, .inl (cI, N, .inl (fun i_ => nI (cn i_)))), (hjo, .inl (cI, N, .inl (fun i_ => nI (jo i_)))), (ht, .inr (5, ft)), (hro, .inl (cI, 20, .inl (fun i_ => nI (r i_)))), (hf, .inr (1, ff)), (hle, .inl (cI, N, .inl (fun i_ => lvO (g i_))))]) [1, 2, 3, 4, 5, 6, 7, 8, 9] (by decide) rfl
  have hKc := hK.sub (tys' := [(cI, .int)]) [0] rfl
  have hFc := va_free (wc := [(hbs, .inr (0, [.ref hru, .ref hjo, .int (b2 bt)])), (hru, .inr (4, [.ref hpr, .ref hcn, .int (nI bz)])), (hpr, .inl (cI, N, .inl (fun i_ => nI (pr i_)))), (hcn, .inl (cI, N, .inl (fun i_ => nI (cn i_)))), (hjo, .inl (cI, N, .inl (fun i_ => nI (jo i_)))), (ht, .inr (5, ft)), (hro, .inl (cI, 20, .inl (fun i_ => nI (r i_)))), (hf, .inr (1, ff)), (hle, .inl (cI, N, .inl (fun i_ => lvO (g i_))))]) hD hS hA [1, 2, 3, 4, 5, 6, 7, 8, 9] rfl
  refine mx_call (va_runV (As := [.ref ht, .ref hf]) (rest := []) ⟨hx, hb, hml, hown, hts⟩ (c_X0_build l D s.heap.size hbs hpr hcn hru hjo bt bz cI N pr cn jo ht ft hro n o r hf ff hle N g (ISP r n o) (JOs r n o) t0 t1 t2 g1 hn ho hN hN2 hN hN2 hgb hgc (fun q hq => ISP_jo hq) (fun q hq => JO_eq hq) (JO_lt r n o) hbt) (cwV 2 hts gX7_baseRules_X0_build rfl rfl rfl (by decide +kernel) ⟨Nat.le_of_ble_eq_true rfl, Nat.le_of_ble_eq_true rfl⟩) ⟨mu_bl, va_recv hKc hPc (ci := 0) (q0 := 0) rfl rfl, fun U hU hW => ⟨rfl, by rw [hU], by rw [hU]; exact hPc, va_K.moved hW.alike hKc, hDc.weaken (fun _ _ _ _ => trivial)⟩⟩ rfl rfl hl.1 rfl (lv_room (Nat.le_of_ble_eq_true rfl)) dX7_baseRules_12 ⟨Nat.le_of_ble_eq_true rfl, Nat.le_of_ble_eq_true rfl⟩) hS (fun q _ h => hFc q h) hFc (fun u_ H1 locs hq_ hP1 hD1 hk1 hS => ?_)
  obtain ⟨bz', pr', cn', jo'⟩ := u_
  have hP1 : va_P D vwCl [(hbs, .inr (0, [.ref hru, .ref hjo, .int (b2 true)])), (hru, .inr (4, [.ref hpr, .ref hcn, .int (nI bz')])), (hpr, .inl (cI, N, .inl (fun i_ => nI (pr' i_)))), (hcn, .inl (cI, N, .inl (fun i_ => nI (cn' i_)))), (hjo, .inl (cI, N, .inl (fun i_ => nI (jo' i_)))), (ht, .inr (5, ft)), (hro, .inl (cI, 20, .inl (fun i_ => nI (r i_)))), (hf, .inr (1, ff)), (hle, .inl (cI, N, .inl (fun i_ => lvO (g i_))))] H1 := hP1
  have hD1 : va_D (va_A [(hbs, .inr (0, [.ref hru, .ref hjo, .int (b2 bt)])), (hru, .inr (4, [.ref hpr, .ref hcn, .int (nI bz)])), (hpr, .inl (cI, N, .inl (fun i_ => nI (pr i_)))), (hcn, .inl (cI, N, .inl (fun i_ => nI (cn i_)))), (hjo, .inl (cI, N, .inl (fun i_ => nI (jo i_)))), (ht, .inr (5, ft)), (hro, .inl (cI, 20, .inl (fun i_ => nI (r i_)))), (hf, .inr (1, ff)), (hle, .inl (cI, N, .inl (fun i_ => lvO (g i_))))] s.heap.size) [(hbs, .inr (0, [.ref hru, .ref hjo, .int (b2 true)])), (hru, .inr (4, [.ref hpr, .ref hcn, .int (nI bz')])), (hpr, .inl (cI, N, .inl (fun i_ => nI (pr' i_)))), (hcn, .inl (cI, N, .inl (fun i_ => nI (cn' i_)))), (hjo, .inl (cI, N, .inl (fun i_ => nI (jo' i_)))), (ht, .inr (5, ft)), (hro, .inl (cI, 20, .inl (fun i_ => nI (r i_)))), (hf, .inr (1, ff)), (hle, .inl (cI, N, .inl (fun i_ => lvO (g i_))))] := hD1
  have hB := hq_
  have hB : bz' = (BLp (ISP r n o) n (2 ^ n)).length ∧ lstAt pr' (BLp (ISP r n o) n (2 ^ n)) ∧ ∀ j, j < bz' → cn' j = clo r n o (pr' j) := hB
  obtain ⟨hP, hD⟩ := va_join (wr := [(h0, .inr (6, fs))]) (w1 := [(hbs, .inr (0, [.ref hru, .ref hjo, .int (b2 true)])), (hru, .inr (4, [.ref hpr, .ref hcn, .int (nI bz')])), (hpr, .inl (cI, N, .inl (fun i_ => nI (pr' i_)))), (hcn, .inl (cI, N, .inl (fun i_ => nI (cn' i_)))), (hjo, .inl (cI, N, .inl (fun i_ => nI (jo' i_)))), (ht, .inr (5, ft)), (hro, .inl (cI, 20, .inl (fun i_ => nI (r i_)))), (hf, .inr (1, ff)), (hle, .inl (cI, N, .inl (fun i_ => lvO (g i_))))]) hP hD [1, 2, 3, 4, 5, 6, 7, 8, 9] [0] rfl rfl (by decide) (by decide) hk1 hFc hP1 hD1
  generalize H1 = H at hP hS ⊢
  have hP : va_P D vwCl [(h0, .inr (6, fs)), (hbs, .inr (0, [.ref hru, .ref hjo, .int (b2 true)])), (hru, .inr (4, [.ref hpr, .ref hcn, .int (nI bz')])), (hpr, .inl (cI, N, .inl (fun i_ => nI (pr' i_)))), (hcn, .inl (cI, N, .inl (fun i_ => nI (cn' i_)))), (hjo, .inl (cI, N, .inl (fun i_ => nI (jo' i_)))), (ht, .inr (5, ft)), (hro, .inl (cI, 20, .inl (fun i_ => nI (r i_)))), (hf, .inr (1, ff)), (hle, .inl (cI, N, .inl (fun i_ => lvO (g i_))))] H := hP
  have hD : va_D A [(h0, .inr (6, fs)), (hbs, .inr (0, [.ref hru, .ref hjo, .int (b2 true)])), (hru, .inr (4, [.ref hpr, .ref hcn, .int (nI bz')])), (hpr, .inl (cI, N, .inl (fun i_ => nI (pr' i_)))), (hcn, .inl (cI, N, .inl (fun i_ => nI (cn' i_)))), (hjo, .inl (cI, N, .inl (fun i_ => nI (jo' i_)))), (ht, .inr (5, ft)), (hro, .inl (cI, 20, .inl (fun i_ => nI (r i_)))), (hf, .inr (1, ff)), (hle, .inl (cI, N, .inl (fun i_ => lvO (g i_))))] := hD
  refine lv_aload_n hx hb dX7_baseRules_15 rfl (lv_at hl 0 rfl) ?_
  refine va_get (D := D) (ci := 6) (v := .ref hbs) (C := RX7) (T := TX7) (N := 5) hx hb hts (by decide +kernel) hown hK hP 0 rfl rfl 4 (by decide) (hts (.fieldLink RX7 40 "ConceptTable" "stem" "LConceptTable$Base;") (by decide +kernel)) (fun _ h9 => h9) c4 dX7_baseRules_16 ?_
  refine rd_VR (As := []) (rest := []) ⟨hx, hb, hml, hown, hts⟩ (c_X0_rules l D hbs ([.ref hru, .ref hjo, .int (b2 true)]) hru rfl) (cwV 0 hts gX7_baseRules_X0_rules rfl rfl rfl (by decide +kernel) ⟨Nat.le_of_ble_eq_true rfl, Nat.le_of_ble_eq_true rfl⟩) (hP.sub (ws' := [(hbs, .inr (0, [.ref hru, .ref hjo, .int (b2 true)]))]) [1] rfl) (hK.sub (tys' := []) [] rfl) (va_recv hK hP (ci := 0) (q0 := 1) rfl rfl) rfl rfl hl.1 rfl (lv_room (Nat.le_of_ble_eq_true rfl)) dX7_baseRules_19 ⟨Nat.le_of_ble_eq_true rfl, Nat.le_of_ble_eq_true rfl⟩ ?_
  have hP := hP.sub (ws' := [(h0, .inr (6, fs)), (hbs, .inr (0, [.ref hru, .ref hjo, .int (b2 true)])), (hru, .inr (4, [.ref hpr, .ref hcn, .int (nI bz')])), (hpr, .inl (cI, N, .inl (fun i_ => nI (pr' i_)))), (hcn, .inl (cI, N, .inl (fun i_ => nI (cn' i_)))), (hjo, .inl (cI, N, .inl (fun i_ => nI (jo' i_)))), (ht, .inr (5, ft)), (hro, .inl (cI, 20, .inl (fun i_ => nI (r i_)))), (hf, .inr (1, ff)), (hle, .inl (cI, N, .inl (fun i_ => lvO (g i_))))]) [0, 1, 2, 3, 4, 5, 6, 7, 8, 9] rfl
  have hD := hD.sub (ws' := [(h0, .inr (6, fs)), (hbs, .inr (0, [.ref hru, .ref hjo, .int (b2 true)])), (hru, .inr (4, [.ref hpr, .ref hcn, .int (nI bz')])), (hpr, .inl (cI, N, .inl (fun i_ => nI (pr' i_)))), (hcn, .inl (cI, N, .inl (fun i_ => nI (cn' i_)))), (hjo, .inl (cI, N, .inl (fun i_ => nI (jo' i_)))), (ht, .inr (5, ft)), (hro, .inl (cI, 20, .inl (fun i_ => nI (r i_)))), (hf, .inr (1, ff)), (hle, .inl (cI, N, .inl (fun i_ => lvO (g i_))))]) [0, 1, 2, 3, 4, 5, 6, 7, 8, 9] (by decide) rfl
  exact W.aret (v := .ref hru) hx hb hr (Or.inl ⟨_, rfl⟩) (Or.inr ⟨_, rfl⟩) (fun t ht hW => ⟨⟨(bz', pr', cn', jo'), rfl, hB, by rw [ht]; exact hP, hD⟩, hS.F ht⟩) hS.2.2 dX7_baseRules_22

set_option maxHeartbeats 4000000 in
set_option maxRecDepth 100000 in
theorem c_X7_base (l : Launch) (D : va_G) (sz : Nat) (h0 : Nat) (fs : List Value) (ht : Nat) (ft : List Value) (hro : Nat) (n : Nat) (o : Nat) (cI : ClassId) (r : Nat → Nat) (hbs : Nat) (hru : Nat) (hjo : Nat) (bt : Bool) (hpr : Nat) (hcn : Nat) (bz : Nat) (N : Nat) (pr : Nat → Nat) (cn : Nat → Nat) (jo : Nat → Nat) (hf : Nat) (ff : List Value) (hle : Nat) (g : Nat → Option Nat) (c0 : fs[0]? = some (.ref ht)) (c3 : fs[3]? = some (.ref hf)) (c4 : fs[4]? = some (.ref hbs)) (t0 : ft[0]? = some (.ref hro)) (t1 : ft[1]? = some (.int (nI n))) (t2 : ft[2]? = some (.int (nI o))) (g1 : ff[1]? = some (.ref hle)) (hn : n ≤ 12) (ho : o ≤ 20) (hN : 2 ^ n ≤ N) (hN2 : N ≤ 4096) (hgb : ∀ j v, g j = some v → v ≤ 4096) (hgc : ∀ q, q < 2 ^ n → (gB g q = true ↔ clo r n o q = q)) (hbt : bt = true → bz = (BL r n o).length ∧ lstAt pr (BL r n o) ∧ ∀ j, j < bz → cn j = clo r n o (pr j)) : Met l yX7_base wsX7_base ({ frames := 5, cells := 0, slots := 0, locals := 114 }) (va_Pc [.ref h0] (fun U => U.heap.size = sz ∧ va_P D vwCl [(h0, .inr (6, fs)), (hbs, .inr (0, [.ref hru, .ref hjo, .int (b2 bt)])), (hru, .inr (4, [.ref hpr, .ref hcn, .int (nI bz)])), (hpr, .inl (cI, N, .inl (fun i_ => nI (pr i_)))), (hcn, .inl (cI, N, .inl (fun i_ => nI (cn i_)))), (hjo, .inl (cI, N, .inl (fun i_ => nI (jo i_)))), (ht, .inr (5, ft)), (hro, .inl (cI, 20, .inl (fun i_ => nI (r i_)))), (hf, .inr (1, ff)), (hle, .inl (cI, N, .inl (fun i_ => lvO (g i_))))] U.heap ∧ va_K D vwCl [(cI, .int)] U ∧ va_D (fun _ => True) [(h0, .inr (6, fs)), (hbs, .inr (0, [.ref hru, .ref hjo, .int (b2 bt)])), (hru, .inr (4, [.ref hpr, .ref hcn, .int (nI bz)])), (hpr, .inl (cI, N, .inl (fun i_ => nI (pr i_)))), (hcn, .inl (cI, N, .inl (fun i_ => nI (cn i_)))), (hjo, .inl (cI, N, .inl (fun i_ => nI (jo i_)))), (ht, .inr (5, ft)), (hro, .inl (cI, 20, .inl (fun i_ => nI (r i_)))), (hf, .inr (1, ff)), (hle, .inl (cI, N, .inl (fun i_ => lvO (g i_))))])) (mxQ (fun u_ : Nat × (Nat → Nat) × (Nat → Nat) × (Nat → Nat) => match u_ with | (bz', pr', cn', jo') => (some (.int (nI bz')))) (fun u_ : Nat × (Nat → Nat) × (Nat → Nat) × (Nat → Nat) => match u_ with | (bz', pr', cn', jo') => (bz' = (BL r n o).length ∧ lstAt pr' (BL r n o) ∧ ∀ j, j < bz' → cn' j = clo r n o (pr' j))) (fun u_ : Nat × (Nat → Nat) × (Nat → Nat) × (Nat → Nat) => match u_ with | (bz', pr', cn', jo') => [(h0, .inr (6, fs)), (hbs, .inr (0, [.ref hru, .ref hjo, .int (b2 true)])), (hru, .inr (4, [.ref hpr, .ref hcn, .int (nI bz')])), (hpr, .inl (cI, N, .inl (fun i_ => nI (pr' i_)))), (hcn, .inl (cI, N, .inl (fun i_ => nI (cn' i_)))), (hjo, .inl (cI, N, .inl (fun i_ => nI (jo' i_)))), (ht, .inr (5, ft)), (hro, .inl (cI, 20, .inl (fun i_ => nI (r i_)))), (hf, .inr (1, ff)), (hle, .inl (cI, N, .inl (fun i_ => lvO (g i_))))]) D vwCl (va_A [(h0, .inr (6, fs)), (hbs, .inr (0, [.ref hru, .ref hjo, .int (b2 bt)])), (hru, .inr (4, [.ref hpr, .ref hcn, .int (nI bz)])), (hpr, .inl (cI, N, .inl (fun i_ => nI (pr i_)))), (hcn, .inl (cI, N, .inl (fun i_ => nI (cn i_)))), (hjo, .inl (cI, N, .inl (fun i_ => nI (jo i_)))), (ht, .inr (5, ft)), (hro, .inl (cI, 20, .inl (fun i_ => nI (r i_)))), (hf, .inr (1, ff)), (hle, .inl (cI, N, .inl (fun i_ => lvO (g i_))))] sz)) 0 0 (va_A [(h0, .inr (6, fs)), (hbs, .inr (0, [.ref hru, .ref hjo, .int (b2 bt)])), (hru, .inr (4, [.ref hpr, .ref hcn, .int (nI bz)])), (hpr, .inl (cI, N, .inl (fun i_ => nI (pr i_)))), (hcn, .inl (cI, N, .inl (fun i_ => nI (cn i_)))), (hjo, .inl (cI, N, .inl (fun i_ => nI (jo i_)))), (ht, .inr (5, ft)), (hro, .inl (cI, 20, .inl (fun i_ => nI (r i_)))), (hf, .inr (1, ff)), (hle, .inl (cI, N, .inl (fun i_ => lvO (g i_))))] sz) := by
  refine Met.ofW (cc := cX7_base) (maxL := 1) (ret := (some .int)) (by decide) rfl ?_
  intro p e s m args below meth c s₁ B hml hv
  obtain ⟨rfl, hsz, hP, hK, hD0⟩ := hv
  have hx := B.exec
  have hb := B.bytes
  have hr := B.returns
  have hts := atoms_spec (ws := wsX7_base) B.pre
  have hown : s.vm.findClass RX7 = some m.cls := findClass_of_methodNamed B.named
  have hlocks := B.notSynchronized
  subst hsz
  have hD := hD0.self (sz := s.heap.size)
  generalize hAe : va_A [(h0, .inr (6, fs)), (hbs, .inr (0, [.ref hru, .ref hjo, .int (b2 bt)])), (hru, .inr (4, [.ref hpr, .ref hcn, .int (nI bz)])), (hpr, .inl (cI, N, .inl (fun i_ => nI (pr i_)))), (hcn, .inl (cI, N, .inl (fun i_ => nI (cn i_)))), (hjo, .inl (cI, N, .inl (fun i_ => nI (jo i_)))), (ht, .inr (5, ft)), (hro, .inl (cI, 20, .inl (fun i_ => nI (r i_)))), (hf, .inr (1, ff)), (hle, .inl (cI, N, .inl (fun i_ => lvO (g i_))))] s.heap.size = A at hD ⊢
  have hA : ∀ q : Nat, s.heap.size ≤ q → A q := fun q h => by rw [← hAe]; exact Or.inr h
  have hS : va_S A s.heap s.heap [] := va_S.rf
  have hl := lv_entry ([.ref h0]) (n := 1) (Nat.le_of_ble_eq_true rfl)
  rw [lg_entry_eq]
  generalize (lg_sl ([.ref h0]) ++ List.replicate (1 - (lg_sl ([.ref h0])).length) Slot.unset).toArray = ls at hl ⊢
  have hl : lv_has ls 1 [(0, .ref h0)] := hl
  refine lv_aload_n hx hb dX7_base_0 rfl (lv_at hl 0 rfl) ?_
  have hPc := hP.sub (ws' := [(h0, .inr (6, fs)), (hbs, .inr (0, [.ref hru, .ref hjo, .int (b2 bt)])), (hru, .inr (4, [.ref hpr, .ref hcn, .int (nI bz)])), (hpr, .inl (cI, N, .inl (fun i_ => nI (pr i_)))), (hcn, .inl (cI, N, .inl (fun i_ => nI (cn i_)))), (hjo, .inl (cI, N, .inl (fun i_ => nI (jo i_)))), (ht, .inr (5, ft)), (hro, .inl (cI, 20, .inl (fun i_ => nI (r i_)))), (hf, .inr (1, ff)), (hle, .inl (cI, N, .inl (fun i_ => lvO (g i_))))]) [0, 1, 2, 3, 4, 5, 6, 7, 8, 9] rfl
  have hDc := hD.sub (ws' := [(h0, .inr (6, fs)), (hbs, .inr (0, [.ref hru, .ref hjo, .int (b2 bt)])), (hru, .inr (4, [.ref hpr, .ref hcn, .int (nI bz)])), (hpr, .inl (cI, N, .inl (fun i_ => nI (pr i_)))), (hcn, .inl (cI, N, .inl (fun i_ => nI (cn i_)))), (hjo, .inl (cI, N, .inl (fun i_ => nI (jo i_)))), (ht, .inr (5, ft)), (hro, .inl (cI, 20, .inl (fun i_ => nI (r i_)))), (hf, .inr (1, ff)), (hle, .inl (cI, N, .inl (fun i_ => lvO (g i_))))]) [0, 1, 2, 3, 4, 5, 6, 7, 8, 9] (by decide) rfl
  have hKc := hK.sub (tys' := [(cI, .int)]) [0] rfl
  have hFc := va_free (wc := [(h0, .inr (6, fs)), (hbs, .inr (0, [.ref hru, .ref hjo, .int (b2 bt)])), (hru, .inr (4, [.ref hpr, .ref hcn, .int (nI bz)])), (hpr, .inl (cI, N, .inl (fun i_ => nI (pr i_)))), (hcn, .inl (cI, N, .inl (fun i_ => nI (cn i_)))), (hjo, .inl (cI, N, .inl (fun i_ => nI (jo i_)))), (ht, .inr (5, ft)), (hro, .inl (cI, 20, .inl (fun i_ => nI (r i_)))), (hf, .inr (1, ff)), (hle, .inl (cI, N, .inl (fun i_ => lvO (g i_))))]) hD hS hA [0, 1, 2, 3, 4, 5, 6, 7, 8, 9] rfl
  refine mx_call (va_runV (As := []) (rest := []) ⟨hx, hb, hml, hown, hts⟩ (c_X7_baseRules l D s.heap.size h0 fs ht ft hro n o cI r hbs hru hjo bt hpr hcn bz N pr cn jo hf ff hle g c0 c3 c4 t0 t1 t2 g1 hn ho hN hN2 hgb hgc hbt) (cwV 0 hts gX7_base_X7_baseRules rfl rfl rfl (by decide +kernel) ⟨Nat.le_of_ble_eq_true rfl, Nat.le_of_ble_eq_true rfl⟩) ⟨mu_bl, va_recv hKc hPc (ci := 6) (q0 := 0) rfl rfl, fun U hU hW => ⟨rfl, by rw [hU], by rw [hU]; exact hPc, va_K.moved hW.alike hKc, hDc.weaken (fun _ _ _ _ => trivial)⟩⟩ rfl rfl hl.1 rfl (lv_room (Nat.le_of_ble_eq_true rfl)) dX7_base_1 ⟨Nat.le_of_ble_eq_true rfl, Nat.le_of_ble_eq_true rfl⟩) hS (fun q _ h => hFc q h) hFc (fun u_ H1 locs hq_ hP1 hD1 hk1 hS => ?_)
  obtain ⟨bz', pr', cn', jo'⟩ := u_
  have hP1 : va_P D vwCl [(h0, .inr (6, fs)), (hbs, .inr (0, [.ref hru, .ref hjo, .int (b2 true)])), (hru, .inr (4, [.ref hpr, .ref hcn, .int (nI bz')])), (hpr, .inl (cI, N, .inl (fun i_ => nI (pr' i_)))), (hcn, .inl (cI, N, .inl (fun i_ => nI (cn' i_)))), (hjo, .inl (cI, N, .inl (fun i_ => nI (jo' i_)))), (ht, .inr (5, ft)), (hro, .inl (cI, 20, .inl (fun i_ => nI (r i_)))), (hf, .inr (1, ff)), (hle, .inl (cI, N, .inl (fun i_ => lvO (g i_))))] H1 := hP1
  have hD1 : va_D (va_A [(h0, .inr (6, fs)), (hbs, .inr (0, [.ref hru, .ref hjo, .int (b2 bt)])), (hru, .inr (4, [.ref hpr, .ref hcn, .int (nI bz)])), (hpr, .inl (cI, N, .inl (fun i_ => nI (pr i_)))), (hcn, .inl (cI, N, .inl (fun i_ => nI (cn i_)))), (hjo, .inl (cI, N, .inl (fun i_ => nI (jo i_)))), (ht, .inr (5, ft)), (hro, .inl (cI, 20, .inl (fun i_ => nI (r i_)))), (hf, .inr (1, ff)), (hle, .inl (cI, N, .inl (fun i_ => lvO (g i_))))] s.heap.size) [(h0, .inr (6, fs)), (hbs, .inr (0, [.ref hru, .ref hjo, .int (b2 true)])), (hru, .inr (4, [.ref hpr, .ref hcn, .int (nI bz')])), (hpr, .inl (cI, N, .inl (fun i_ => nI (pr' i_)))), (hcn, .inl (cI, N, .inl (fun i_ => nI (cn' i_)))), (hjo, .inl (cI, N, .inl (fun i_ => nI (jo' i_)))), (ht, .inr (5, ft)), (hro, .inl (cI, 20, .inl (fun i_ => nI (r i_)))), (hf, .inr (1, ff)), (hle, .inl (cI, N, .inl (fun i_ => lvO (g i_))))] := hD1
  have hB := hq_
  have hB : bz' = (BL r n o).length ∧ lstAt pr' (BL r n o) ∧ ∀ j, j < bz' → cn' j = clo r n o (pr' j) := hB
  obtain ⟨hP, hD⟩ := va_join (wr := []) (w1 := [(h0, .inr (6, fs)), (hbs, .inr (0, [.ref hru, .ref hjo, .int (b2 true)])), (hru, .inr (4, [.ref hpr, .ref hcn, .int (nI bz')])), (hpr, .inl (cI, N, .inl (fun i_ => nI (pr' i_)))), (hcn, .inl (cI, N, .inl (fun i_ => nI (cn' i_)))), (hjo, .inl (cI, N, .inl (fun i_ => nI (jo' i_)))), (ht, .inr (5, ft)), (hro, .inl (cI, 20, .inl (fun i_ => nI (r i_)))), (hf, .inr (1, ff)), (hle, .inl (cI, N, .inl (fun i_ => lvO (g i_))))]) hP hD [0, 1, 2, 3, 4, 5, 6, 7, 8, 9] [] rfl rfl (by decide) (by decide) hk1 hFc hP1 hD1
  generalize H1 = H at hP hS ⊢
  have hP : va_P D vwCl [(h0, .inr (6, fs)), (hbs, .inr (0, [.ref hru, .ref hjo, .int (b2 true)])), (hru, .inr (4, [.ref hpr, .ref hcn, .int (nI bz')])), (hpr, .inl (cI, N, .inl (fun i_ => nI (pr' i_)))), (hcn, .inl (cI, N, .inl (fun i_ => nI (cn' i_)))), (hjo, .inl (cI, N, .inl (fun i_ => nI (jo' i_)))), (ht, .inr (5, ft)), (hro, .inl (cI, 20, .inl (fun i_ => nI (r i_)))), (hf, .inr (1, ff)), (hle, .inl (cI, N, .inl (fun i_ => lvO (g i_))))] H := hP
  have hD : va_D A [(h0, .inr (6, fs)), (hbs, .inr (0, [.ref hru, .ref hjo, .int (b2 true)])), (hru, .inr (4, [.ref hpr, .ref hcn, .int (nI bz')])), (hpr, .inl (cI, N, .inl (fun i_ => nI (pr' i_)))), (hcn, .inl (cI, N, .inl (fun i_ => nI (cn' i_)))), (hjo, .inl (cI, N, .inl (fun i_ => nI (jo' i_)))), (ht, .inr (5, ft)), (hro, .inl (cI, 20, .inl (fun i_ => nI (r i_)))), (hf, .inr (1, ff)), (hle, .inl (cI, N, .inl (fun i_ => lvO (g i_))))] := hD
  have h2n := p2_le hn
  have hbl : bz' ≤ 2 ^ n := by rw [hB.1]; exact BLp_len _ n _
  have hbp : ∀ j, j < bz' → pr' j < 2 ^ n := fun j hj => BLp_lt _ _ _ _ (lstAt_mem hB.2.1 (Nat.lt_of_lt_of_eq hj hB.1))
  have hbc : ∀ j, j < bz' → cn' j < 2 ^ n := fun j hj => by rw [hB.2.2 j hj]; exact clo_lt _ _ _ _
  refine rd_V (As := []) (rest := []) ⟨hx, hb, hml, hown, hts⟩ (c_X4_size l D hru ([.ref hpr, .ref hcn, .int (nI bz')]) bz' rfl) (cwV 0 hts gX7_base_X4_size rfl rfl rfl (by decide +kernel) ⟨Nat.le_of_ble_eq_true rfl, Nat.le_of_ble_eq_true rfl⟩) (hP.sub (ws' := [(hru, .inr (4, [.ref hpr, .ref hcn, .int (nI bz')]))]) [2] rfl) (hK.sub (tys' := []) [] rfl) (va_recv hK hP (ci := 4) (q0 := 2) rfl rfl) rfl rfl hl.1 rfl (lv_room (Nat.le_of_ble_eq_true rfl)) dX7_base_4 ⟨Nat.le_of_ble_eq_true rfl, Nat.le_of_ble_eq_true rfl⟩ ?_
  have hP := hP.sub (ws' := [(h0, .inr (6, fs)), (hbs, .inr (0, [.ref hru, .ref hjo, .int (b2 true)])), (hru, .inr (4, [.ref hpr, .ref hcn, .int (nI bz')])), (hpr, .inl (cI, N, .inl (fun i_ => nI (pr' i_)))), (hcn, .inl (cI, N, .inl (fun i_ => nI (cn' i_)))), (hjo, .inl (cI, N, .inl (fun i_ => nI (jo' i_)))), (ht, .inr (5, ft)), (hro, .inl (cI, 20, .inl (fun i_ => nI (r i_)))), (hf, .inr (1, ff)), (hle, .inl (cI, N, .inl (fun i_ => lvO (g i_))))]) [0, 1, 2, 3, 4, 5, 6, 7, 8, 9] rfl
  have hD := hD.sub (ws' := [(h0, .inr (6, fs)), (hbs, .inr (0, [.ref hru, .ref hjo, .int (b2 true)])), (hru, .inr (4, [.ref hpr, .ref hcn, .int (nI bz')])), (hpr, .inl (cI, N, .inl (fun i_ => nI (pr' i_)))), (hcn, .inl (cI, N, .inl (fun i_ => nI (cn' i_)))), (hjo, .inl (cI, N, .inl (fun i_ => nI (jo' i_)))), (ht, .inr (5, ft)), (hro, .inl (cI, 20, .inl (fun i_ => nI (r i_)))), (hf, .inr (1, ff)), (hle, .inl (cI, N, .inl (fun i_ => lvO (g i_))))]) [0, 1, 2, 3, 4, 5, 6, 7, 8, 9] (by decide) rfl
  exact W.iret (v := (nI bz')) hx hb hr (fun t ht hW => ⟨⟨(bz', pr', cn', jo'), rfl, hB, by rw [ht]; exact hP, hD⟩, hS.F ht⟩) hS.2.2 dX7_base_7

set_option maxHeartbeats 4000000 in
set_option maxRecDepth 100000 in
theorem c_X7_rule_bad (l : Launch) (D : va_G) (h0 : Nat) (fs : List Value) (i : Int32) (w : Int32) (hb_ : (decide (¬ w < 0) && decide (¬ (2 : Int32) < w)) = false) : Met l yX7_rule wsX7_rule ({ frames := 0, cells := 0, slots := 0, locals := 0 }) (va_Pc [.ref h0, .int i, .int w] (fun U => va_P D vwCl [(h0, .inr (6, fs))] U.heap ∧ va_K D vwCl [] U)) (QcRead (-2)) 0 0 (fun _ => False) := by
  refine Met.ofW (cc := cX7_rule) (maxL := 5) (ret := (some .int)) (by decide) rfl ?_
  intro p e s m args below meth c s₁ B hml hv
  obtain ⟨rfl, hP, hK⟩ := hv
  have hx := B.exec
  have hb := B.bytes
  have hr := B.returns
  have hts := atoms_spec (ws := wsX7_rule) B.pre
  have hown : s.vm.findClass RX7 = some m.cls := findClass_of_methodNamed B.named
  have hlocks := B.notSynchronized
  have hl := lv_entry ([.ref h0, .int i, .int w]) (n := 5) (Nat.le_of_ble_eq_true rfl)
  rw [lg_entry_eq]
  generalize (lg_sl ([.ref h0, .int i, .int w]) ++ List.replicate (5 - (lg_sl ([.ref h0, .int i, .int w])).length) Slot.unset).toArray = ls at hl ⊢
  have hl : lv_has ls 5 [(0, .ref h0), (1, .int i), (2, .int w)] := hl
  refine lv_iload_n hx hb dX7_rule_0 rfl (lv_at hl 2 rfl) ?_
  refine lv_if_lt (tgt := 9) hx hb dX7_rule_1 (by decide) (fun c_1 => ?_) (fun c_1 => ?_)
  · refine lv_bipush (v := -2) hx hb dX7_rule_9 (by decide) ?_
    have e_ret : (-2 : Int32) = (-2) := by rfl
    exact W.iret (v := (-2 : Int32)) hx hb hr (fun t ht hW => ⟨congrArg (fun z_ => Outcome.returned (some (Value.int z_))) e_ret, ht⟩) (fun q h => by cases h) dX7_rule_11
  · refine lv_iload_n hx hb dX7_rule_4 rfl (lv_at hl 2 rfl) ?_
    refine lv_iconst (v := 2) hx hb dX7_rule_5 (by decide) ?_
    refine lv_icmp_le (tgt := 12) hx hb dX7_rule_6 (by decide) (fun c_6 => ?_) (fun c_6 => ?_)
    · exact absurd hb_ (by rw [decide_eq_true c_1, decide_eq_true (Int32.not_lt.mpr c_6)]; decide)
    · refine lv_bipush (v := -2) hx hb dX7_rule_9 (by decide) ?_
      have e_ret : (-2 : Int32) = (-2) := by rfl
      exact W.iret (v := (-2 : Int32)) hx hb hr (fun t ht hW => ⟨congrArg (fun z_ => Outcome.returned (some (Value.int z_))) e_ret, ht⟩) (fun q h => by cases h) dX7_rule_11

set_option maxHeartbeats 4000000 in
set_option maxRecDepth 100000 in
theorem c_X7_rule_0 (l : Launch) (D : va_G) (sz : Nat) (h0 : Nat) (fs : List Value) (ht : Nat) (ft : List Value) (hro : Nat) (n : Nat) (o : Nat) (cI : ClassId) (r : Nat → Nat) (hbs : Nat) (hru : Nat) (hjo : Nat) (bt : Bool) (hpr : Nat) (hcn : Nat) (bz : Nat) (N : Nat) (pr : Nat → Nat) (cn : Nat → Nat) (jo : Nat → Nat) (hf : Nat) (ff : List Value) (hle : Nat) (g : Nat → Option Nat) (i : Int32) (c0 : fs[0]? = some (.ref ht)) (c3 : fs[3]? = some (.ref hf)) (c4 : fs[4]? = some (.ref hbs)) (t0 : ft[0]? = some (.ref hro)) (t1 : ft[1]? = some (.int (nI n))) (t2 : ft[2]? = some (.int (nI o))) (g1 : ff[1]? = some (.ref hle)) (hn : n ≤ 12) (ho : o ≤ 20) (hN : 2 ^ n ≤ N) (hN2 : N ≤ 4096) (hgb : ∀ j v, g j = some v → v ≤ 4096) (hgc : ∀ q, q < 2 ^ n → (gB g q = true ↔ clo r n o q = q)) (hbt : bt = true → bz = (BL r n o).length ∧ lstAt pr (BL r n o) ∧ ∀ j, j < bz → cn j = clo r n o (pr j)) : Met l yX7_rule wsX7_rule ({ frames := 5, cells := 0, slots := 0, locals := 114 }) (va_Pc [.ref h0, .int i, .int (0 : Int32)] (fun U => U.heap.size = sz ∧ va_P D vwCl [(h0, .inr (6, fs)), (hbs, .inr (0, [.ref hru, .ref hjo, .int (b2 bt)])), (hru, .inr (4, [.ref hpr, .ref hcn, .int (nI bz)])), (hpr, .inl (cI, N, .inl (fun i_ => nI (pr i_)))), (hcn, .inl (cI, N, .inl (fun i_ => nI (cn i_)))), (hjo, .inl (cI, N, .inl (fun i_ => nI (jo i_)))), (ht, .inr (5, ft)), (hro, .inl (cI, 20, .inl (fun i_ => nI (r i_)))), (hf, .inr (1, ff)), (hle, .inl (cI, N, .inl (fun i_ => lvO (g i_))))] U.heap ∧ va_K D vwCl [(cI, .int)] U ∧ va_D (fun _ => True) [(h0, .inr (6, fs)), (hbs, .inr (0, [.ref hru, .ref hjo, .int (b2 bt)])), (hru, .inr (4, [.ref hpr, .ref hcn, .int (nI bz)])), (hpr, .inl (cI, N, .inl (fun i_ => nI (pr i_)))), (hcn, .inl (cI, N, .inl (fun i_ => nI (cn i_)))), (hjo, .inl (cI, N, .inl (fun i_ => nI (jo i_)))), (ht, .inr (5, ft)), (hro, .inl (cI, 20, .inl (fun i_ => nI (r i_)))), (hf, .inr (1, ff)), (hle, .inl (cI, N, .inl (fun i_ => lvO (g i_))))])) (mxQ (fun u_ : Nat × (Nat → Nat) × (Nat → Nat) × (Nat → Nat) => match u_ with | (bz', pr', cn', jo') => (some (.int (if (decide (¬ i < 0) && decide (¬ nI bz' ≤ i)) = true then nI (pr' i.toNatClampNeg) else -1)))) (fun u_ : Nat × (Nat → Nat) × (Nat → Nat) × (Nat → Nat) => match u_ with | (bz', pr', cn', jo') => (bz' = (BL r n o).length ∧ lstAt pr' (BL r n o) ∧ ∀ j, j < bz' → cn' j = clo r n o (pr' j))) (fun u_ : Nat × (Nat → Nat) × (Nat → Nat) × (Nat → Nat) => match u_ with | (bz', pr', cn', jo') => [(h0, .inr (6, fs)), (hbs, .inr (0, [.ref hru, .ref hjo, .int (b2 true)])), (hru, .inr (4, [.ref hpr, .ref hcn, .int (nI bz')])), (hpr, .inl (cI, N, .inl (fun i_ => nI (pr' i_)))), (hcn, .inl (cI, N, .inl (fun i_ => nI (cn' i_)))), (hjo, .inl (cI, N, .inl (fun i_ => nI (jo' i_)))), (ht, .inr (5, ft)), (hro, .inl (cI, 20, .inl (fun i_ => nI (r i_)))), (hf, .inr (1, ff)), (hle, .inl (cI, N, .inl (fun i_ => lvO (g i_))))]) D vwCl (va_A [(h0, .inr (6, fs)), (hbs, .inr (0, [.ref hru, .ref hjo, .int (b2 bt)])), (hru, .inr (4, [.ref hpr, .ref hcn, .int (nI bz)])), (hpr, .inl (cI, N, .inl (fun i_ => nI (pr i_)))), (hcn, .inl (cI, N, .inl (fun i_ => nI (cn i_)))), (hjo, .inl (cI, N, .inl (fun i_ => nI (jo i_)))), (ht, .inr (5, ft)), (hro, .inl (cI, 20, .inl (fun i_ => nI (r i_)))), (hf, .inr (1, ff)), (hle, .inl (cI, N, .inl (fun i_ => lvO (g i_))))] sz)) 0 0 (va_A [(h0, .inr (6, fs)), (hbs, .inr (0, [.ref hru, .ref hjo, .int (b2 bt)])), (hru, .inr (4, [.ref hpr, .ref hcn, .int (nI bz)])), (hpr, .inl (cI, N, .inl (fun i_ => nI (pr i_)))), (hcn, .inl (cI, N, .inl (fun i_ => nI (cn i_)))), (hjo, .inl (cI, N, .inl (fun i_ => nI (jo i_)))), (ht, .inr (5, ft)), (hro, .inl (cI, 20, .inl (fun i_ => nI (r i_)))), (hf, .inr (1, ff)), (hle, .inl (cI, N, .inl (fun i_ => lvO (g i_))))] sz) := by
  refine Met.ofW (cc := cX7_rule) (maxL := 5) (ret := (some .int)) (by decide) rfl ?_
  intro p e s m args below meth c s₁ B hml hv
  obtain ⟨rfl, hsz, hP, hK, hD0⟩ := hv
  have hx := B.exec
  have hb := B.bytes
  have hr := B.returns
  have hts := atoms_spec (ws := wsX7_rule) B.pre
  have hown : s.vm.findClass RX7 = some m.cls := findClass_of_methodNamed B.named
  have hlocks := B.notSynchronized
  subst hsz
  have hD := hD0.self (sz := s.heap.size)
  generalize hAe : va_A [(h0, .inr (6, fs)), (hbs, .inr (0, [.ref hru, .ref hjo, .int (b2 bt)])), (hru, .inr (4, [.ref hpr, .ref hcn, .int (nI bz)])), (hpr, .inl (cI, N, .inl (fun i_ => nI (pr i_)))), (hcn, .inl (cI, N, .inl (fun i_ => nI (cn i_)))), (hjo, .inl (cI, N, .inl (fun i_ => nI (jo i_)))), (ht, .inr (5, ft)), (hro, .inl (cI, 20, .inl (fun i_ => nI (r i_)))), (hf, .inr (1, ff)), (hle, .inl (cI, N, .inl (fun i_ => lvO (g i_))))] s.heap.size = A at hD ⊢
  have hA : ∀ q : Nat, s.heap.size ≤ q → A q := fun q h => by rw [← hAe]; exact Or.inr h
  have hS : va_S A s.heap s.heap [] := va_S.rf
  have hl := lv_entry ([.ref h0, .int i, .int (0 : Int32)]) (n := 5) (Nat.le_of_ble_eq_true rfl)
  rw [lg_entry_eq]
  generalize (lg_sl ([.ref h0, .int i, .int (0 : Int32)]) ++ List.replicate (5 - (lg_sl ([.ref h0, .int i, .int (0 : Int32)])).length) Slot.unset).toArray = ls at hl ⊢
  have hl : lv_has ls 5 [(0, .ref h0), (1, .int i), (2, .int (0 : Int32))] := hl
  refine lv_iload_n hx hb dX7_rule_0 rfl (lv_at hl 2 rfl) ?_
  refine lv_if_lt (tgt := 9) hx hb dX7_rule_1 (by decide) (fun c_1 => ?_) (fun c_1 => ?_)
  · exact absurd c_1 (by decide)
  · refine lv_iload_n hx hb dX7_rule_4 rfl (lv_at hl 2 rfl) ?_
    refine lv_iconst (v := 2) hx hb dX7_rule_5 (by decide) ?_
    refine lv_icmp_le (tgt := 12) hx hb dX7_rule_6 (by decide) (fun c_6 => ?_) (fun c_6 => ?_)
    · refine lv_aload_n hx hb dX7_rule_12 rfl (lv_at hl 0 rfl) ?_
      have hPc := hP.sub (ws' := [(h0, .inr (6, fs)), (hbs, .inr (0, [.ref hru, .ref hjo, .int (b2 bt)])), (hru, .inr (4, [.ref hpr, .ref hcn, .int (nI bz)])), (hpr, .inl (cI, N, .inl (fun i_ => nI (pr i_)))), (hcn, .inl (cI, N, .inl (fun i_ => nI (cn i_)))), (hjo, .inl (cI, N, .inl (fun i_ => nI (jo i_)))), (ht, .inr (5, ft)), (hro, .inl (cI, 20, .inl (fun i_ => nI (r i_)))), (hf, .inr (1, ff)), (hle, .inl (cI, N, .inl (fun i_ => lvO (g i_))))]) [0, 1, 2, 3, 4, 5, 6, 7, 8, 9] rfl
      have hDc := hD.sub (ws' := [(h0, .inr (6, fs)), (hbs, .inr (0, [.ref hru, .ref hjo, .int (b2 bt)])), (hru, .inr (4, [.ref hpr, .ref hcn, .int (nI bz)])), (hpr, .inl (cI, N, .inl (fun i_ => nI (pr i_)))), (hcn, .inl (cI, N, .inl (fun i_ => nI (cn i_)))), (hjo, .inl (cI, N, .inl (fun i_ => nI (jo i_)))), (ht, .inr (5, ft)), (hro, .inl (cI, 20, .inl (fun i_ => nI (r i_)))), (hf, .inr (1, ff)), (hle, .inl (cI, N, .inl (fun i_ => lvO (g i_))))]) [0, 1, 2, 3, 4, 5, 6, 7, 8, 9] (by decide) rfl
      have hKc := hK.sub (tys' := [(cI, .int)]) [0] rfl
      have hFc := va_free (wc := [(h0, .inr (6, fs)), (hbs, .inr (0, [.ref hru, .ref hjo, .int (b2 bt)])), (hru, .inr (4, [.ref hpr, .ref hcn, .int (nI bz)])), (hpr, .inl (cI, N, .inl (fun i_ => nI (pr i_)))), (hcn, .inl (cI, N, .inl (fun i_ => nI (cn i_)))), (hjo, .inl (cI, N, .inl (fun i_ => nI (jo i_)))), (ht, .inr (5, ft)), (hro, .inl (cI, 20, .inl (fun i_ => nI (r i_)))), (hf, .inr (1, ff)), (hle, .inl (cI, N, .inl (fun i_ => lvO (g i_))))]) hD hS hA [0, 1, 2, 3, 4, 5, 6, 7, 8, 9] rfl
      refine mx_call (va_runV (As := []) (rest := []) ⟨hx, hb, hml, hown, hts⟩ (c_X7_baseRules l D s.heap.size h0 fs ht ft hro n o cI r hbs hru hjo bt hpr hcn bz N pr cn jo hf ff hle g c0 c3 c4 t0 t1 t2 g1 hn ho hN hN2 hgb hgc hbt) (cwV 0 hts gX7_rule_X7_baseRules rfl rfl rfl (by decide +kernel) ⟨Nat.le_of_ble_eq_true rfl, Nat.le_of_ble_eq_true rfl⟩) ⟨mu_bl, va_recv hKc hPc (ci := 6) (q0 := 0) rfl rfl, fun U hU hW => ⟨rfl, by rw [hU], by rw [hU]; exact hPc, va_K.moved hW.alike hKc, hDc.weaken (fun _ _ _ _ => trivial)⟩⟩ rfl rfl hl.1 rfl (lv_room (Nat.le_of_ble_eq_true rfl)) dX7_rule_13 ⟨Nat.le_of_ble_eq_true rfl, Nat.le_of_ble_eq_true rfl⟩) hS (fun q _ h => hFc q h) hFc (fun u_ H1 locs hq_ hP1 hD1 hk1 hS => ?_)
      obtain ⟨bz', pr', cn', jo'⟩ := u_
      have hP1 : va_P D vwCl [(h0, .inr (6, fs)), (hbs, .inr (0, [.ref hru, .ref hjo, .int (b2 true)])), (hru, .inr (4, [.ref hpr, .ref hcn, .int (nI bz')])), (hpr, .inl (cI, N, .inl (fun i_ => nI (pr' i_)))), (hcn, .inl (cI, N, .inl (fun i_ => nI (cn' i_)))), (hjo, .inl (cI, N, .inl (fun i_ => nI (jo' i_)))), (ht, .inr (5, ft)), (hro, .inl (cI, 20, .inl (fun i_ => nI (r i_)))), (hf, .inr (1, ff)), (hle, .inl (cI, N, .inl (fun i_ => lvO (g i_))))] H1 := hP1
      have hD1 : va_D (va_A [(h0, .inr (6, fs)), (hbs, .inr (0, [.ref hru, .ref hjo, .int (b2 bt)])), (hru, .inr (4, [.ref hpr, .ref hcn, .int (nI bz)])), (hpr, .inl (cI, N, .inl (fun i_ => nI (pr i_)))), (hcn, .inl (cI, N, .inl (fun i_ => nI (cn i_)))), (hjo, .inl (cI, N, .inl (fun i_ => nI (jo i_)))), (ht, .inr (5, ft)), (hro, .inl (cI, 20, .inl (fun i_ => nI (r i_)))), (hf, .inr (1, ff)), (hle, .inl (cI, N, .inl (fun i_ => lvO (g i_))))] s.heap.size) [(h0, .inr (6, fs)), (hbs, .inr (0, [.ref hru, .ref hjo, .int (b2 true)])), (hru, .inr (4, [.ref hpr, .ref hcn, .int (nI bz')])), (hpr, .inl (cI, N, .inl (fun i_ => nI (pr' i_)))), (hcn, .inl (cI, N, .inl (fun i_ => nI (cn' i_)))), (hjo, .inl (cI, N, .inl (fun i_ => nI (jo' i_)))), (ht, .inr (5, ft)), (hro, .inl (cI, 20, .inl (fun i_ => nI (r i_)))), (hf, .inr (1, ff)), (hle, .inl (cI, N, .inl (fun i_ => lvO (g i_))))] := hD1
      have hB := hq_
      have hB : bz' = (BL r n o).length ∧ lstAt pr' (BL r n o) ∧ ∀ j, j < bz' → cn' j = clo r n o (pr' j) := hB
      obtain ⟨hP, hD⟩ := va_join (wr := []) (w1 := [(h0, .inr (6, fs)), (hbs, .inr (0, [.ref hru, .ref hjo, .int (b2 true)])), (hru, .inr (4, [.ref hpr, .ref hcn, .int (nI bz')])), (hpr, .inl (cI, N, .inl (fun i_ => nI (pr' i_)))), (hcn, .inl (cI, N, .inl (fun i_ => nI (cn' i_)))), (hjo, .inl (cI, N, .inl (fun i_ => nI (jo' i_)))), (ht, .inr (5, ft)), (hro, .inl (cI, 20, .inl (fun i_ => nI (r i_)))), (hf, .inr (1, ff)), (hle, .inl (cI, N, .inl (fun i_ => lvO (g i_))))]) hP hD [0, 1, 2, 3, 4, 5, 6, 7, 8, 9] [] rfl rfl (by decide) (by decide) hk1 hFc hP1 hD1
      generalize H1 = H at hP hS ⊢
      have hP : va_P D vwCl [(h0, .inr (6, fs)), (hbs, .inr (0, [.ref hru, .ref hjo, .int (b2 true)])), (hru, .inr (4, [.ref hpr, .ref hcn, .int (nI bz')])), (hpr, .inl (cI, N, .inl (fun i_ => nI (pr' i_)))), (hcn, .inl (cI, N, .inl (fun i_ => nI (cn' i_)))), (hjo, .inl (cI, N, .inl (fun i_ => nI (jo' i_)))), (ht, .inr (5, ft)), (hro, .inl (cI, 20, .inl (fun i_ => nI (r i_)))), (hf, .inr (1, ff)), (hle, .inl (cI, N, .inl (fun i_ => lvO (g i_))))] H := hP
      have hD : va_D A [(h0, .inr (6, fs)), (hbs, .inr (0, [.ref hru, .ref hjo, .int (b2 true)])), (hru, .inr (4, [.ref hpr, .ref hcn, .int (nI bz')])), (hpr, .inl (cI, N, .inl (fun i_ => nI (pr' i_)))), (hcn, .inl (cI, N, .inl (fun i_ => nI (cn' i_)))), (hjo, .inl (cI, N, .inl (fun i_ => nI (jo' i_)))), (ht, .inr (5, ft)), (hro, .inl (cI, 20, .inl (fun i_ => nI (r i_)))), (hf, .inr (1, ff)), (hle, .inl (cI, N, .inl (fun i_ => lvO (g i_))))] := hD
      have h2n := p2_le hn
      have hbl : bz' ≤ 2 ^ n := by rw [hB.1]; exact BLp_len _ n _
      have hbp : ∀ j, j < bz' → pr' j < 2 ^ n := fun j hj => BLp_lt _ _ _ _ (lstAt_mem hB.2.1 (Nat.lt_of_lt_of_eq hj hB.1))
      have hbc : ∀ j, j < bz' → cn' j < 2 ^ n := fun j hj => by rw [hB.2.2 j hj]; exact clo_lt _ _ _ _
      refine lv_astore_n (lv' := [(3, .ref hru), (0, .ref h0), (1, .int i), (2, .int (0 : Int32))]) hx hb dX7_rule_16 rfl hl (by decide) rfl (fun ls hl => ?_)
      refine lv_iload_n hx hb dX7_rule_17 rfl (lv_at hl 3 rfl) ?_
      refine lv_iconst (v := 2) hx hb dX7_rule_18 (by decide) ?_
      refine lv_icmp_ne (tgt := 52) hx hb dX7_rule_19 (by decide) (fun c_19 => ?_) (fun c_19 => ?_)
      · refine lv_iload_n hx hb dX7_rule_52 rfl (lv_at hl 3 rfl) ?_
        refine lv_if_ne (tgt := 64) hx hb dX7_rule_53 (by decide) (fun c_53 => ?_) (fun c_53 => ?_)
        · exact absurd c_53 (by decide)
        · refine lv_aload_n hx hb dX7_rule_56 rfl (lv_at hl 0 rfl) ?_
          refine lv_iload_n hx hb dX7_rule_57 rfl (lv_at hl 2 rfl) ?_
          refine rd_V (As := [.int i]) (rest := []) ⟨hx, hb, hml, hown, hts⟩ (c_X4_premise l D hru ([.ref hpr, .ref hcn, .int (nI bz')]) hpr cI N bz' pr' i rfl rfl (by omega) hN2) (cwV 1 hts gX7_rule_X4_premise rfl rfl rfl (by decide +kernel) ⟨Nat.le_of_ble_eq_true rfl, Nat.le_of_ble_eq_true rfl⟩) (hP.sub (ws' := [(hru, .inr (4, [.ref hpr, .ref hcn, .int (nI bz')])), (hpr, .inl (cI, N, .inl (fun i_ => nI (pr' i_))))]) [2, 3] rfl) (hK.sub (tys' := [(cI, .int)]) [0] rfl) (va_recv hK hP (ci := 4) (q0 := 2) rfl rfl) rfl rfl hl.1 rfl (lv_room (Nat.le_of_ble_eq_true rfl)) dX7_rule_58 ⟨Nat.le_of_ble_eq_true rfl, Nat.le_of_ble_eq_true rfl⟩ ?_
          refine lv_goto (tgt := 69) hx hb dX7_rule_61 (by decide) ?_
          have hP := hP.sub (ws' := [(h0, .inr (6, fs)), (hbs, .inr (0, [.ref hru, .ref hjo, .int (b2 true)])), (hru, .inr (4, [.ref hpr, .ref hcn, .int (nI bz')])), (hpr, .inl (cI, N, .inl (fun i_ => nI (pr' i_)))), (hcn, .inl (cI, N, .inl (fun i_ => nI (cn' i_)))), (hjo, .inl (cI, N, .inl (fun i_ => nI (jo' i_)))), (ht, .inr (5, ft)), (hro, .inl (cI, 20, .inl (fun i_ => nI (r i_)))), (hf, .inr (1, ff)), (hle, .inl (cI, N, .inl (fun i_ => lvO (g i_))))]) [0, 1, 2, 3, 4, 5, 6, 7, 8, 9] rfl
          have hD := hD.sub (ws' := [(h0, .inr (6, fs)), (hbs, .inr (0, [.ref hru, .ref hjo, .int (b2 true)])), (hru, .inr (4, [.ref hpr, .ref hcn, .int (nI bz')])), (hpr, .inl (cI, N, .inl (fun i_ => nI (pr' i_)))), (hcn, .inl (cI, N, .inl (fun i_ => nI (cn' i_)))), (hjo, .inl (cI, N, .inl (fun i_ => nI (jo' i_)))), (ht, .inr (5, ft)), (hro, .inl (cI, 20, .inl (fun i_ => nI (r i_)))), (hf, .inr (1, ff)), (hle, .inl (cI, N, .inl (fun i_ => lvO (g i_))))]) [0, 1, 2, 3, 4, 5, 6, 7, 8, 9] (by decide) rfl
          exact W.iret (v := (if (decide (¬ i < 0) && decide (¬ nI bz' ≤ i)) = true then nI (pr' i.toNatClampNeg) else -1)) hx hb hr (fun t ht hW => ⟨⟨(bz', pr', cn', jo'), rfl, hB, by rw [ht]; exact hP, hD⟩, hS.F ht⟩) hS.2.2 dX7_rule_69
      · exact absurd c_19 (by decide)
    · exact absurd c_6 (by decide)

set_option maxHeartbeats 4000000 in
set_option maxRecDepth 100000 in
theorem c_X7_rule_1 (l : Launch) (D : va_G) (sz : Nat) (h0 : Nat) (fs : List Value) (ht : Nat) (ft : List Value) (hro : Nat) (n : Nat) (o : Nat) (cI : ClassId) (r : Nat → Nat) (hbs : Nat) (hru : Nat) (hjo : Nat) (bt : Bool) (hpr : Nat) (hcn : Nat) (bz : Nat) (N : Nat) (pr : Nat → Nat) (cn : Nat → Nat) (jo : Nat → Nat) (hf : Nat) (ff : List Value) (hle : Nat) (g : Nat → Option Nat) (i : Int32) (c0 : fs[0]? = some (.ref ht)) (c3 : fs[3]? = some (.ref hf)) (c4 : fs[4]? = some (.ref hbs)) (t0 : ft[0]? = some (.ref hro)) (t1 : ft[1]? = some (.int (nI n))) (t2 : ft[2]? = some (.int (nI o))) (g1 : ff[1]? = some (.ref hle)) (hn : n ≤ 12) (ho : o ≤ 20) (hN : 2 ^ n ≤ N) (hN2 : N ≤ 4096) (hgb : ∀ j v, g j = some v → v ≤ 4096) (hgc : ∀ q, q < 2 ^ n → (gB g q = true ↔ clo r n o q = q)) (hbt : bt = true → bz = (BL r n o).length ∧ lstAt pr (BL r n o) ∧ ∀ j, j < bz → cn j = clo r n o (pr j)) : Met l yX7_rule wsX7_rule ({ frames := 5, cells := 0, slots := 0, locals := 114 }) (va_Pc [.ref h0, .int i, .int (1 : Int32)] (fun U => U.heap.size = sz ∧ va_P D vwCl [(h0, .inr (6, fs)), (hbs, .inr (0, [.ref hru, .ref hjo, .int (b2 bt)])), (hru, .inr (4, [.ref hpr, .ref hcn, .int (nI bz)])), (hpr, .inl (cI, N, .inl (fun i_ => nI (pr i_)))), (hcn, .inl (cI, N, .inl (fun i_ => nI (cn i_)))), (hjo, .inl (cI, N, .inl (fun i_ => nI (jo i_)))), (ht, .inr (5, ft)), (hro, .inl (cI, 20, .inl (fun i_ => nI (r i_)))), (hf, .inr (1, ff)), (hle, .inl (cI, N, .inl (fun i_ => lvO (g i_))))] U.heap ∧ va_K D vwCl [(cI, .int)] U ∧ va_D (fun _ => True) [(h0, .inr (6, fs)), (hbs, .inr (0, [.ref hru, .ref hjo, .int (b2 bt)])), (hru, .inr (4, [.ref hpr, .ref hcn, .int (nI bz)])), (hpr, .inl (cI, N, .inl (fun i_ => nI (pr i_)))), (hcn, .inl (cI, N, .inl (fun i_ => nI (cn i_)))), (hjo, .inl (cI, N, .inl (fun i_ => nI (jo i_)))), (ht, .inr (5, ft)), (hro, .inl (cI, 20, .inl (fun i_ => nI (r i_)))), (hf, .inr (1, ff)), (hle, .inl (cI, N, .inl (fun i_ => lvO (g i_))))])) (mxQ (fun u_ : Nat × (Nat → Nat) × (Nat → Nat) × (Nat → Nat) => match u_ with | (bz', pr', cn', jo') => (some (.int (if (decide (¬ i < 0) && decide (¬ nI bz' ≤ i)) = true then nI (cn' i.toNatClampNeg) else -1)))) (fun u_ : Nat × (Nat → Nat) × (Nat → Nat) × (Nat → Nat) => match u_ with | (bz', pr', cn', jo') => (bz' = (BL r n o).length ∧ lstAt pr' (BL r n o) ∧ ∀ j, j < bz' → cn' j = clo r n o (pr' j))) (fun u_ : Nat × (Nat → Nat) × (Nat → Nat) × (Nat → Nat) => match u_ with | (bz', pr', cn', jo') => [(h0, .inr (6, fs)), (hbs, .inr (0, [.ref hru, .ref hjo, .int (b2 true)])), (hru, .inr (4, [.ref hpr, .ref hcn, .int (nI bz')])), (hpr, .inl (cI, N, .inl (fun i_ => nI (pr' i_)))), (hcn, .inl (cI, N, .inl (fun i_ => nI (cn' i_)))), (hjo, .inl (cI, N, .inl (fun i_ => nI (jo' i_)))), (ht, .inr (5, ft)), (hro, .inl (cI, 20, .inl (fun i_ => nI (r i_)))), (hf, .inr (1, ff)), (hle, .inl (cI, N, .inl (fun i_ => lvO (g i_))))]) D vwCl (va_A [(h0, .inr (6, fs)), (hbs, .inr (0, [.ref hru, .ref hjo, .int (b2 bt)])), (hru, .inr (4, [.ref hpr, .ref hcn, .int (nI bz)])), (hpr, .inl (cI, N, .inl (fun i_ => nI (pr i_)))), (hcn, .inl (cI, N, .inl (fun i_ => nI (cn i_)))), (hjo, .inl (cI, N, .inl (fun i_ => nI (jo i_)))), (ht, .inr (5, ft)), (hro, .inl (cI, 20, .inl (fun i_ => nI (r i_)))), (hf, .inr (1, ff)), (hle, .inl (cI, N, .inl (fun i_ => lvO (g i_))))] sz)) 0 0 (va_A [(h0, .inr (6, fs)), (hbs, .inr (0, [.ref hru, .ref hjo, .int (b2 bt)])), (hru, .inr (4, [.ref hpr, .ref hcn, .int (nI bz)])), (hpr, .inl (cI, N, .inl (fun i_ => nI (pr i_)))), (hcn, .inl (cI, N, .inl (fun i_ => nI (cn i_)))), (hjo, .inl (cI, N, .inl (fun i_ => nI (jo i_)))), (ht, .inr (5, ft)), (hro, .inl (cI, 20, .inl (fun i_ => nI (r i_)))), (hf, .inr (1, ff)), (hle, .inl (cI, N, .inl (fun i_ => lvO (g i_))))] sz) := by
  refine Met.ofW (cc := cX7_rule) (maxL := 5) (ret := (some .int)) (by decide) rfl ?_
  intro p e s m args below meth c s₁ B hml hv
  obtain ⟨rfl, hsz, hP, hK, hD0⟩ := hv
  have hx := B.exec
  have hb := B.bytes
  have hr := B.returns
  have hts := atoms_spec (ws := wsX7_rule) B.pre
  have hown : s.vm.findClass RX7 = some m.cls := findClass_of_methodNamed B.named
  have hlocks := B.notSynchronized
  subst hsz
  have hD := hD0.self (sz := s.heap.size)
  generalize hAe : va_A [(h0, .inr (6, fs)), (hbs, .inr (0, [.ref hru, .ref hjo, .int (b2 bt)])), (hru, .inr (4, [.ref hpr, .ref hcn, .int (nI bz)])), (hpr, .inl (cI, N, .inl (fun i_ => nI (pr i_)))), (hcn, .inl (cI, N, .inl (fun i_ => nI (cn i_)))), (hjo, .inl (cI, N, .inl (fun i_ => nI (jo i_)))), (ht, .inr (5, ft)), (hro, .inl (cI, 20, .inl (fun i_ => nI (r i_)))), (hf, .inr (1, ff)), (hle, .inl (cI, N, .inl (fun i_ => lvO (g i_))))] s.heap.size = A at hD ⊢
  have hA : ∀ q : Nat, s.heap.size ≤ q → A q := fun q h => by rw [← hAe]; exact Or.inr h
  have hS : va_S A s.heap s.heap [] := va_S.rf
  have hl := lv_entry ([.ref h0, .int i, .int (1 : Int32)]) (n := 5) (Nat.le_of_ble_eq_true rfl)
  rw [lg_entry_eq]
  generalize (lg_sl ([.ref h0, .int i, .int (1 : Int32)]) ++ List.replicate (5 - (lg_sl ([.ref h0, .int i, .int (1 : Int32)])).length) Slot.unset).toArray = ls at hl ⊢
  have hl : lv_has ls 5 [(0, .ref h0), (1, .int i), (2, .int (1 : Int32))] := hl
  refine lv_iload_n hx hb dX7_rule_0 rfl (lv_at hl 2 rfl) ?_
  refine lv_if_lt (tgt := 9) hx hb dX7_rule_1 (by decide) (fun c_1 => ?_) (fun c_1 => ?_)
  · exact absurd c_1 (by decide)
  · refine lv_iload_n hx hb dX7_rule_4 rfl (lv_at hl 2 rfl) ?_
    refine lv_iconst (v := 2) hx hb dX7_rule_5 (by decide) ?_
    refine lv_icmp_le (tgt := 12) hx hb dX7_rule_6 (by decide) (fun c_6 => ?_) (fun c_6 => ?_)
    · refine lv_aload_n hx hb dX7_rule_12 rfl (lv_at hl 0 rfl) ?_
      have hPc := hP.sub (ws' := [(h0, .inr (6, fs)), (hbs, .inr (0, [.ref hru, .ref hjo, .int (b2 bt)])), (hru, .inr (4, [.ref hpr, .ref hcn, .int (nI bz)])), (hpr, .inl (cI, N, .inl (fun i_ => nI (pr i_)))), (hcn, .inl (cI, N, .inl (fun i_ => nI (cn i_)))), (hjo, .inl (cI, N, .inl (fun i_ => nI (jo i_)))), (ht, .inr (5, ft)), (hro, .inl (cI, 20, .inl (fun i_ => nI (r i_)))), (hf, .inr (1, ff)), (hle, .inl (cI, N, .inl (fun i_ => lvO (g i_))))]) [0, 1, 2, 3, 4, 5, 6, 7, 8, 9] rfl
      have hDc := hD.sub (ws' := [(h0, .inr (6, fs)), (hbs, .inr (0, [.ref hru, .ref hjo, .int (b2 bt)])), (hru, .inr (4, [.ref hpr, .ref hcn, .int (nI bz)])), (hpr, .inl (cI, N, .inl (fun i_ => nI (pr i_)))), (hcn, .inl (cI, N, .inl (fun i_ => nI (cn i_)))), (hjo, .inl (cI, N, .inl (fun i_ => nI (jo i_)))), (ht, .inr (5, ft)), (hro, .inl (cI, 20, .inl (fun i_ => nI (r i_)))), (hf, .inr (1, ff)), (hle, .inl (cI, N, .inl (fun i_ => lvO (g i_))))]) [0, 1, 2, 3, 4, 5, 6, 7, 8, 9] (by decide) rfl
      have hKc := hK.sub (tys' := [(cI, .int)]) [0] rfl
      have hFc := va_free (wc := [(h0, .inr (6, fs)), (hbs, .inr (0, [.ref hru, .ref hjo, .int (b2 bt)])), (hru, .inr (4, [.ref hpr, .ref hcn, .int (nI bz)])), (hpr, .inl (cI, N, .inl (fun i_ => nI (pr i_)))), (hcn, .inl (cI, N, .inl (fun i_ => nI (cn i_)))), (hjo, .inl (cI, N, .inl (fun i_ => nI (jo i_)))), (ht, .inr (5, ft)), (hro, .inl (cI, 20, .inl (fun i_ => nI (r i_)))), (hf, .inr (1, ff)), (hle, .inl (cI, N, .inl (fun i_ => lvO (g i_))))]) hD hS hA [0, 1, 2, 3, 4, 5, 6, 7, 8, 9] rfl
      refine mx_call (va_runV (As := []) (rest := []) ⟨hx, hb, hml, hown, hts⟩ (c_X7_baseRules l D s.heap.size h0 fs ht ft hro n o cI r hbs hru hjo bt hpr hcn bz N pr cn jo hf ff hle g c0 c3 c4 t0 t1 t2 g1 hn ho hN hN2 hgb hgc hbt) (cwV 0 hts gX7_rule_X7_baseRules rfl rfl rfl (by decide +kernel) ⟨Nat.le_of_ble_eq_true rfl, Nat.le_of_ble_eq_true rfl⟩) ⟨mu_bl, va_recv hKc hPc (ci := 6) (q0 := 0) rfl rfl, fun U hU hW => ⟨rfl, by rw [hU], by rw [hU]; exact hPc, va_K.moved hW.alike hKc, hDc.weaken (fun _ _ _ _ => trivial)⟩⟩ rfl rfl hl.1 rfl (lv_room (Nat.le_of_ble_eq_true rfl)) dX7_rule_13 ⟨Nat.le_of_ble_eq_true rfl, Nat.le_of_ble_eq_true rfl⟩) hS (fun q _ h => hFc q h) hFc (fun u_ H1 locs hq_ hP1 hD1 hk1 hS => ?_)
      obtain ⟨bz', pr', cn', jo'⟩ := u_
      have hP1 : va_P D vwCl [(h0, .inr (6, fs)), (hbs, .inr (0, [.ref hru, .ref hjo, .int (b2 true)])), (hru, .inr (4, [.ref hpr, .ref hcn, .int (nI bz')])), (hpr, .inl (cI, N, .inl (fun i_ => nI (pr' i_)))), (hcn, .inl (cI, N, .inl (fun i_ => nI (cn' i_)))), (hjo, .inl (cI, N, .inl (fun i_ => nI (jo' i_)))), (ht, .inr (5, ft)), (hro, .inl (cI, 20, .inl (fun i_ => nI (r i_)))), (hf, .inr (1, ff)), (hle, .inl (cI, N, .inl (fun i_ => lvO (g i_))))] H1 := hP1
      have hD1 : va_D (va_A [(h0, .inr (6, fs)), (hbs, .inr (0, [.ref hru, .ref hjo, .int (b2 bt)])), (hru, .inr (4, [.ref hpr, .ref hcn, .int (nI bz)])), (hpr, .inl (cI, N, .inl (fun i_ => nI (pr i_)))), (hcn, .inl (cI, N, .inl (fun i_ => nI (cn i_)))), (hjo, .inl (cI, N, .inl (fun i_ => nI (jo i_)))), (ht, .inr (5, ft)), (hro, .inl (cI, 20, .inl (fun i_ => nI (r i_)))), (hf, .inr (1, ff)), (hle, .inl (cI, N, .inl (fun i_ => lvO (g i_))))] s.heap.size) [(h0, .inr (6, fs)), (hbs, .inr (0, [.ref hru, .ref hjo, .int (b2 true)])), (hru, .inr (4, [.ref hpr, .ref hcn, .int (nI bz')])), (hpr, .inl (cI, N, .inl (fun i_ => nI (pr' i_)))), (hcn, .inl (cI, N, .inl (fun i_ => nI (cn' i_)))), (hjo, .inl (cI, N, .inl (fun i_ => nI (jo' i_)))), (ht, .inr (5, ft)), (hro, .inl (cI, 20, .inl (fun i_ => nI (r i_)))), (hf, .inr (1, ff)), (hle, .inl (cI, N, .inl (fun i_ => lvO (g i_))))] := hD1
      have hB := hq_
      have hB : bz' = (BL r n o).length ∧ lstAt pr' (BL r n o) ∧ ∀ j, j < bz' → cn' j = clo r n o (pr' j) := hB
      obtain ⟨hP, hD⟩ := va_join (wr := []) (w1 := [(h0, .inr (6, fs)), (hbs, .inr (0, [.ref hru, .ref hjo, .int (b2 true)])), (hru, .inr (4, [.ref hpr, .ref hcn, .int (nI bz')])), (hpr, .inl (cI, N, .inl (fun i_ => nI (pr' i_)))), (hcn, .inl (cI, N, .inl (fun i_ => nI (cn' i_)))), (hjo, .inl (cI, N, .inl (fun i_ => nI (jo' i_)))), (ht, .inr (5, ft)), (hro, .inl (cI, 20, .inl (fun i_ => nI (r i_)))), (hf, .inr (1, ff)), (hle, .inl (cI, N, .inl (fun i_ => lvO (g i_))))]) hP hD [0, 1, 2, 3, 4, 5, 6, 7, 8, 9] [] rfl rfl (by decide) (by decide) hk1 hFc hP1 hD1
      generalize H1 = H at hP hS ⊢
      have hP : va_P D vwCl [(h0, .inr (6, fs)), (hbs, .inr (0, [.ref hru, .ref hjo, .int (b2 true)])), (hru, .inr (4, [.ref hpr, .ref hcn, .int (nI bz')])), (hpr, .inl (cI, N, .inl (fun i_ => nI (pr' i_)))), (hcn, .inl (cI, N, .inl (fun i_ => nI (cn' i_)))), (hjo, .inl (cI, N, .inl (fun i_ => nI (jo' i_)))), (ht, .inr (5, ft)), (hro, .inl (cI, 20, .inl (fun i_ => nI (r i_)))), (hf, .inr (1, ff)), (hle, .inl (cI, N, .inl (fun i_ => lvO (g i_))))] H := hP
      have hD : va_D A [(h0, .inr (6, fs)), (hbs, .inr (0, [.ref hru, .ref hjo, .int (b2 true)])), (hru, .inr (4, [.ref hpr, .ref hcn, .int (nI bz')])), (hpr, .inl (cI, N, .inl (fun i_ => nI (pr' i_)))), (hcn, .inl (cI, N, .inl (fun i_ => nI (cn' i_)))), (hjo, .inl (cI, N, .inl (fun i_ => nI (jo' i_)))), (ht, .inr (5, ft)), (hro, .inl (cI, 20, .inl (fun i_ => nI (r i_)))), (hf, .inr (1, ff)), (hle, .inl (cI, N, .inl (fun i_ => lvO (g i_))))] := hD
      have h2n := p2_le hn
      have hbl : bz' ≤ 2 ^ n := by rw [hB.1]; exact BLp_len _ n _
      have hbp : ∀ j, j < bz' → pr' j < 2 ^ n := fun j hj => BLp_lt _ _ _ _ (lstAt_mem hB.2.1 (Nat.lt_of_lt_of_eq hj hB.1))
      have hbc : ∀ j, j < bz' → cn' j < 2 ^ n := fun j hj => by rw [hB.2.2 j hj]; exact clo_lt _ _ _ _
      refine lv_astore_n (lv' := [(3, .ref hru), (0, .ref h0), (1, .int i), (2, .int (1 : Int32))]) hx hb dX7_rule_16 rfl hl (by decide) rfl (fun ls hl => ?_)
      refine lv_iload_n hx hb dX7_rule_17 rfl (lv_at hl 3 rfl) ?_
      refine lv_iconst (v := 2) hx hb dX7_rule_18 (by decide) ?_
      refine lv_icmp_ne (tgt := 52) hx hb dX7_rule_19 (by decide) (fun c_19 => ?_) (fun c_19 => ?_)
      · refine lv_iload_n hx hb dX7_rule_52 rfl (lv_at hl 3 rfl) ?_
        refine lv_if_ne (tgt := 64) hx hb dX7_rule_53 (by decide) (fun c_53 => ?_) (fun c_53 => ?_)
        · refine lv_aload_n hx hb dX7_rule_64 rfl (lv_at hl 0 rfl) ?_
          refine lv_iload_n hx hb dX7_rule_65 rfl (lv_at hl 2 rfl) ?_
          refine rd_V (As := [.int i]) (rest := []) ⟨hx, hb, hml, hown, hts⟩ (c_X4_conclusion l D hru ([.ref hpr, .ref hcn, .int (nI bz')]) hcn cI N bz' cn' i rfl rfl (by omega) hN2) (cwV 1 hts gX7_rule_X4_conclusion rfl rfl rfl (by decide +kernel) ⟨Nat.le_of_ble_eq_true rfl, Nat.le_of_ble_eq_true rfl⟩) (hP.sub (ws' := [(hru, .inr (4, [.ref hpr, .ref hcn, .int (nI bz')])), (hcn, .inl (cI, N, .inl (fun i_ => nI (cn' i_))))]) [2, 4] rfl) (hK.sub (tys' := [(cI, .int)]) [0] rfl) (va_recv hK hP (ci := 4) (q0 := 2) rfl rfl) rfl rfl hl.1 rfl (lv_room (Nat.le_of_ble_eq_true rfl)) dX7_rule_66 ⟨Nat.le_of_ble_eq_true rfl, Nat.le_of_ble_eq_true rfl⟩ ?_
          have hP := hP.sub (ws' := [(h0, .inr (6, fs)), (hbs, .inr (0, [.ref hru, .ref hjo, .int (b2 true)])), (hru, .inr (4, [.ref hpr, .ref hcn, .int (nI bz')])), (hpr, .inl (cI, N, .inl (fun i_ => nI (pr' i_)))), (hcn, .inl (cI, N, .inl (fun i_ => nI (cn' i_)))), (hjo, .inl (cI, N, .inl (fun i_ => nI (jo' i_)))), (ht, .inr (5, ft)), (hro, .inl (cI, 20, .inl (fun i_ => nI (r i_)))), (hf, .inr (1, ff)), (hle, .inl (cI, N, .inl (fun i_ => lvO (g i_))))]) [0, 1, 2, 3, 4, 5, 6, 7, 8, 9] rfl
          have hD := hD.sub (ws' := [(h0, .inr (6, fs)), (hbs, .inr (0, [.ref hru, .ref hjo, .int (b2 true)])), (hru, .inr (4, [.ref hpr, .ref hcn, .int (nI bz')])), (hpr, .inl (cI, N, .inl (fun i_ => nI (pr' i_)))), (hcn, .inl (cI, N, .inl (fun i_ => nI (cn' i_)))), (hjo, .inl (cI, N, .inl (fun i_ => nI (jo' i_)))), (ht, .inr (5, ft)), (hro, .inl (cI, 20, .inl (fun i_ => nI (r i_)))), (hf, .inr (1, ff)), (hle, .inl (cI, N, .inl (fun i_ => lvO (g i_))))]) [0, 1, 2, 3, 4, 5, 6, 7, 8, 9] (by decide) rfl
          exact W.iret (v := (if (decide (¬ i < 0) && decide (¬ nI bz' ≤ i)) = true then nI (cn' i.toNatClampNeg) else -1)) hx hb hr (fun t ht hW => ⟨⟨(bz', pr', cn', jo'), rfl, hB, by rw [ht]; exact hP, hD⟩, hS.F ht⟩) hS.2.2 dX7_rule_69
        · exact absurd c_53 (by decide)
      · exact absurd c_19 (by decide)
    · exact absurd c_6 (by decide)

set_option maxHeartbeats 4000000 in
set_option maxRecDepth 100000 in
theorem c_X7_rule_2 (l : Launch) (D : va_G) (sz : Nat) (h0 : Nat) (fs : List Value) (ht : Nat) (ft : List Value) (hro : Nat) (n : Nat) (o : Nat) (cI : ClassId) (r : Nat → Nat) (hbs : Nat) (hru : Nat) (hjo : Nat) (bt : Bool) (hpr : Nat) (hcn : Nat) (bz : Nat) (N : Nat) (pr : Nat → Nat) (cn : Nat → Nat) (jo : Nat → Nat) (hf : Nat) (ff : List Value) (hle : Nat) (g : Nat → Option Nat) (i : Int32) (c0 : fs[0]? = some (.ref ht)) (c3 : fs[3]? = some (.ref hf)) (c4 : fs[4]? = some (.ref hbs)) (t0 : ft[0]? = some (.ref hro)) (t1 : ft[1]? = some (.int (nI n))) (t2 : ft[2]? = some (.int (nI o))) (g1 : ff[1]? = some (.ref hle)) (hn : n ≤ 12) (ho : o ≤ 20) (hN : 2 ^ n ≤ N) (hN2 : N ≤ 4096) (hgb : ∀ j v, g j = some v → v ≤ 4096) (hgc : ∀ q, q < 2 ^ n → (gB g q = true ↔ clo r n o q = q)) (hbt : bt = true → bz = (BL r n o).length ∧ lstAt pr (BL r n o) ∧ ∀ j, j < bz → cn j = clo r n o (pr j)) : Met l yX7_rule wsX7_rule ({ frames := 5, cells := 0, slots := 0, locals := 114 }) (va_Pc [.ref h0, .int i, .int (2 : Int32)] (fun U => U.heap.size = sz ∧ va_P D vwCl [(h0, .inr (6, fs)), (hbs, .inr (0, [.ref hru, .ref hjo, .int (b2 bt)])), (hru, .inr (4, [.ref hpr, .ref hcn, .int (nI bz)])), (hpr, .inl (cI, N, .inl (fun i_ => nI (pr i_)))), (hcn, .inl (cI, N, .inl (fun i_ => nI (cn i_)))), (hjo, .inl (cI, N, .inl (fun i_ => nI (jo i_)))), (ht, .inr (5, ft)), (hro, .inl (cI, 20, .inl (fun i_ => nI (r i_)))), (hf, .inr (1, ff)), (hle, .inl (cI, N, .inl (fun i_ => lvO (g i_))))] U.heap ∧ va_K D vwCl [(cI, .int)] U ∧ va_D (fun _ => True) [(h0, .inr (6, fs)), (hbs, .inr (0, [.ref hru, .ref hjo, .int (b2 bt)])), (hru, .inr (4, [.ref hpr, .ref hcn, .int (nI bz)])), (hpr, .inl (cI, N, .inl (fun i_ => nI (pr i_)))), (hcn, .inl (cI, N, .inl (fun i_ => nI (cn i_)))), (hjo, .inl (cI, N, .inl (fun i_ => nI (jo i_)))), (ht, .inr (5, ft)), (hro, .inl (cI, 20, .inl (fun i_ => nI (r i_)))), (hf, .inr (1, ff)), (hle, .inl (cI, N, .inl (fun i_ => lvO (g i_))))])) (mxQ (fun u_ : Nat × (Nat → Nat) × (Nat → Nat) × (Nat → Nat) => match u_ with | (bz', pr', cn', jo') => (some (.int (if (decide (¬ i < 0) && decide (¬ nI bz' ≤ i)) = true then nI (bits (ext r (pr' i.toNatClampNeg) o) 20) else -1)))) (fun u_ : Nat × (Nat → Nat) × (Nat → Nat) × (Nat → Nat) => match u_ with | (bz', pr', cn', jo') => (bz' = (BL r n o).length ∧ lstAt pr' (BL r n o) ∧ ∀ j, j < bz' → cn' j = clo r n o (pr' j))) (fun u_ : Nat × (Nat → Nat) × (Nat → Nat) × (Nat → Nat) => match u_ with | (bz', pr', cn', jo') => [(h0, .inr (6, fs)), (hbs, .inr (0, [.ref hru, .ref hjo, .int (b2 true)])), (hru, .inr (4, [.ref hpr, .ref hcn, .int (nI bz')])), (hpr, .inl (cI, N, .inl (fun i_ => nI (pr' i_)))), (hcn, .inl (cI, N, .inl (fun i_ => nI (cn' i_)))), (hjo, .inl (cI, N, .inl (fun i_ => nI (jo' i_)))), (ht, .inr (5, ft)), (hro, .inl (cI, 20, .inl (fun i_ => nI (r i_)))), (hf, .inr (1, ff)), (hle, .inl (cI, N, .inl (fun i_ => lvO (g i_))))]) D vwCl (va_A [(h0, .inr (6, fs)), (hbs, .inr (0, [.ref hru, .ref hjo, .int (b2 bt)])), (hru, .inr (4, [.ref hpr, .ref hcn, .int (nI bz)])), (hpr, .inl (cI, N, .inl (fun i_ => nI (pr i_)))), (hcn, .inl (cI, N, .inl (fun i_ => nI (cn i_)))), (hjo, .inl (cI, N, .inl (fun i_ => nI (jo i_)))), (ht, .inr (5, ft)), (hro, .inl (cI, 20, .inl (fun i_ => nI (r i_)))), (hf, .inr (1, ff)), (hle, .inl (cI, N, .inl (fun i_ => lvO (g i_))))] sz)) 0 0 (va_A [(h0, .inr (6, fs)), (hbs, .inr (0, [.ref hru, .ref hjo, .int (b2 bt)])), (hru, .inr (4, [.ref hpr, .ref hcn, .int (nI bz)])), (hpr, .inl (cI, N, .inl (fun i_ => nI (pr i_)))), (hcn, .inl (cI, N, .inl (fun i_ => nI (cn i_)))), (hjo, .inl (cI, N, .inl (fun i_ => nI (jo i_)))), (ht, .inr (5, ft)), (hro, .inl (cI, 20, .inl (fun i_ => nI (r i_)))), (hf, .inr (1, ff)), (hle, .inl (cI, N, .inl (fun i_ => lvO (g i_))))] sz) := by
  refine Met.ofW (cc := cX7_rule) (maxL := 5) (ret := (some .int)) (by decide) rfl ?_
  intro p e s m args below meth c s₁ B hml hv
  obtain ⟨rfl, hsz, hP, hK, hD0⟩ := hv
  have hx := B.exec
  have hb := B.bytes
  have hr := B.returns
  have hts := atoms_spec (ws := wsX7_rule) B.pre
  have hown : s.vm.findClass RX7 = some m.cls := findClass_of_methodNamed B.named
  have hlocks := B.notSynchronized
  subst hsz
  have hD := hD0.self (sz := s.heap.size)
  generalize hAe : va_A [(h0, .inr (6, fs)), (hbs, .inr (0, [.ref hru, .ref hjo, .int (b2 bt)])), (hru, .inr (4, [.ref hpr, .ref hcn, .int (nI bz)])), (hpr, .inl (cI, N, .inl (fun i_ => nI (pr i_)))), (hcn, .inl (cI, N, .inl (fun i_ => nI (cn i_)))), (hjo, .inl (cI, N, .inl (fun i_ => nI (jo i_)))), (ht, .inr (5, ft)), (hro, .inl (cI, 20, .inl (fun i_ => nI (r i_)))), (hf, .inr (1, ff)), (hle, .inl (cI, N, .inl (fun i_ => lvO (g i_))))] s.heap.size = A at hD ⊢
  have hA : ∀ q : Nat, s.heap.size ≤ q → A q := fun q h => by rw [← hAe]; exact Or.inr h
  have hS : va_S A s.heap s.heap [] := va_S.rf
  have hl := lv_entry ([.ref h0, .int i, .int (2 : Int32)]) (n := 5) (Nat.le_of_ble_eq_true rfl)
  rw [lg_entry_eq]
  generalize (lg_sl ([.ref h0, .int i, .int (2 : Int32)]) ++ List.replicate (5 - (lg_sl ([.ref h0, .int i, .int (2 : Int32)])).length) Slot.unset).toArray = ls at hl ⊢
  have hl : lv_has ls 5 [(0, .ref h0), (1, .int i), (2, .int (2 : Int32))] := hl
  refine lv_iload_n hx hb dX7_rule_0 rfl (lv_at hl 2 rfl) ?_
  refine lv_if_lt (tgt := 9) hx hb dX7_rule_1 (by decide) (fun c_1 => ?_) (fun c_1 => ?_)
  · exact absurd c_1 (by decide)
  · refine lv_iload_n hx hb dX7_rule_4 rfl (lv_at hl 2 rfl) ?_
    refine lv_iconst (v := 2) hx hb dX7_rule_5 (by decide) ?_
    refine lv_icmp_le (tgt := 12) hx hb dX7_rule_6 (by decide) (fun c_6 => ?_) (fun c_6 => ?_)
    · refine lv_aload_n hx hb dX7_rule_12 rfl (lv_at hl 0 rfl) ?_
      have hPc := hP.sub (ws' := [(h0, .inr (6, fs)), (hbs, .inr (0, [.ref hru, .ref hjo, .int (b2 bt)])), (hru, .inr (4, [.ref hpr, .ref hcn, .int (nI bz)])), (hpr, .inl (cI, N, .inl (fun i_ => nI (pr i_)))), (hcn, .inl (cI, N, .inl (fun i_ => nI (cn i_)))), (hjo, .inl (cI, N, .inl (fun i_ => nI (jo i_)))), (ht, .inr (5, ft)), (hro, .inl (cI, 20, .inl (fun i_ => nI (r i_)))), (hf, .inr (1, ff)), (hle, .inl (cI, N, .inl (fun i_ => lvO (g i_))))]) [0, 1, 2, 3, 4, 5, 6, 7, 8, 9] rfl
      have hDc := hD.sub (ws' := [(h0, .inr (6, fs)), (hbs, .inr (0, [.ref hru, .ref hjo, .int (b2 bt)])), (hru, .inr (4, [.ref hpr, .ref hcn, .int (nI bz)])), (hpr, .inl (cI, N, .inl (fun i_ => nI (pr i_)))), (hcn, .inl (cI, N, .inl (fun i_ => nI (cn i_)))), (hjo, .inl (cI, N, .inl (fun i_ => nI (jo i_)))), (ht, .inr (5, ft)), (hro, .inl (cI, 20, .inl (fun i_ => nI (r i_)))), (hf, .inr (1, ff)), (hle, .inl (cI, N, .inl (fun i_ => lvO (g i_))))]) [0, 1, 2, 3, 4, 5, 6, 7, 8, 9] (by decide) rfl
      have hKc := hK.sub (tys' := [(cI, .int)]) [0] rfl
      have hFc := va_free (wc := [(h0, .inr (6, fs)), (hbs, .inr (0, [.ref hru, .ref hjo, .int (b2 bt)])), (hru, .inr (4, [.ref hpr, .ref hcn, .int (nI bz)])), (hpr, .inl (cI, N, .inl (fun i_ => nI (pr i_)))), (hcn, .inl (cI, N, .inl (fun i_ => nI (cn i_)))), (hjo, .inl (cI, N, .inl (fun i_ => nI (jo i_)))), (ht, .inr (5, ft)), (hro, .inl (cI, 20, .inl (fun i_ => nI (r i_)))), (hf, .inr (1, ff)), (hle, .inl (cI, N, .inl (fun i_ => lvO (g i_))))]) hD hS hA [0, 1, 2, 3, 4, 5, 6, 7, 8, 9] rfl
      refine mx_call (va_runV (As := []) (rest := []) ⟨hx, hb, hml, hown, hts⟩ (c_X7_baseRules l D s.heap.size h0 fs ht ft hro n o cI r hbs hru hjo bt hpr hcn bz N pr cn jo hf ff hle g c0 c3 c4 t0 t1 t2 g1 hn ho hN hN2 hgb hgc hbt) (cwV 0 hts gX7_rule_X7_baseRules rfl rfl rfl (by decide +kernel) ⟨Nat.le_of_ble_eq_true rfl, Nat.le_of_ble_eq_true rfl⟩) ⟨mu_bl, va_recv hKc hPc (ci := 6) (q0 := 0) rfl rfl, fun U hU hW => ⟨rfl, by rw [hU], by rw [hU]; exact hPc, va_K.moved hW.alike hKc, hDc.weaken (fun _ _ _ _ => trivial)⟩⟩ rfl rfl hl.1 rfl (lv_room (Nat.le_of_ble_eq_true rfl)) dX7_rule_13 ⟨Nat.le_of_ble_eq_true rfl, Nat.le_of_ble_eq_true rfl⟩) hS (fun q _ h => hFc q h) hFc (fun u_ H1 locs hq_ hP1 hD1 hk1 hS => ?_)
      obtain ⟨bz', pr', cn', jo'⟩ := u_
      have hP1 : va_P D vwCl [(h0, .inr (6, fs)), (hbs, .inr (0, [.ref hru, .ref hjo, .int (b2 true)])), (hru, .inr (4, [.ref hpr, .ref hcn, .int (nI bz')])), (hpr, .inl (cI, N, .inl (fun i_ => nI (pr' i_)))), (hcn, .inl (cI, N, .inl (fun i_ => nI (cn' i_)))), (hjo, .inl (cI, N, .inl (fun i_ => nI (jo' i_)))), (ht, .inr (5, ft)), (hro, .inl (cI, 20, .inl (fun i_ => nI (r i_)))), (hf, .inr (1, ff)), (hle, .inl (cI, N, .inl (fun i_ => lvO (g i_))))] H1 := hP1
      have hD1 : va_D (va_A [(h0, .inr (6, fs)), (hbs, .inr (0, [.ref hru, .ref hjo, .int (b2 bt)])), (hru, .inr (4, [.ref hpr, .ref hcn, .int (nI bz)])), (hpr, .inl (cI, N, .inl (fun i_ => nI (pr i_)))), (hcn, .inl (cI, N, .inl (fun i_ => nI (cn i_)))), (hjo, .inl (cI, N, .inl (fun i_ => nI (jo i_)))), (ht, .inr (5, ft)), (hro, .inl (cI, 20, .inl (fun i_ => nI (r i_)))), (hf, .inr (1, ff)), (hle, .inl (cI, N, .inl (fun i_ => lvO (g i_))))] s.heap.size) [(h0, .inr (6, fs)), (hbs, .inr (0, [.ref hru, .ref hjo, .int (b2 true)])), (hru, .inr (4, [.ref hpr, .ref hcn, .int (nI bz')])), (hpr, .inl (cI, N, .inl (fun i_ => nI (pr' i_)))), (hcn, .inl (cI, N, .inl (fun i_ => nI (cn' i_)))), (hjo, .inl (cI, N, .inl (fun i_ => nI (jo' i_)))), (ht, .inr (5, ft)), (hro, .inl (cI, 20, .inl (fun i_ => nI (r i_)))), (hf, .inr (1, ff)), (hle, .inl (cI, N, .inl (fun i_ => lvO (g i_))))] := hD1
      have hB := hq_
      have hB : bz' = (BL r n o).length ∧ lstAt pr' (BL r n o) ∧ ∀ j, j < bz' → cn' j = clo r n o (pr' j) := hB
      obtain ⟨hP, hD⟩ := va_join (wr := []) (w1 := [(h0, .inr (6, fs)), (hbs, .inr (0, [.ref hru, .ref hjo, .int (b2 true)])), (hru, .inr (4, [.ref hpr, .ref hcn, .int (nI bz')])), (hpr, .inl (cI, N, .inl (fun i_ => nI (pr' i_)))), (hcn, .inl (cI, N, .inl (fun i_ => nI (cn' i_)))), (hjo, .inl (cI, N, .inl (fun i_ => nI (jo' i_)))), (ht, .inr (5, ft)), (hro, .inl (cI, 20, .inl (fun i_ => nI (r i_)))), (hf, .inr (1, ff)), (hle, .inl (cI, N, .inl (fun i_ => lvO (g i_))))]) hP hD [0, 1, 2, 3, 4, 5, 6, 7, 8, 9] [] rfl rfl (by decide) (by decide) hk1 hFc hP1 hD1
      generalize H1 = H at hP hS ⊢
      have hP : va_P D vwCl [(h0, .inr (6, fs)), (hbs, .inr (0, [.ref hru, .ref hjo, .int (b2 true)])), (hru, .inr (4, [.ref hpr, .ref hcn, .int (nI bz')])), (hpr, .inl (cI, N, .inl (fun i_ => nI (pr' i_)))), (hcn, .inl (cI, N, .inl (fun i_ => nI (cn' i_)))), (hjo, .inl (cI, N, .inl (fun i_ => nI (jo' i_)))), (ht, .inr (5, ft)), (hro, .inl (cI, 20, .inl (fun i_ => nI (r i_)))), (hf, .inr (1, ff)), (hle, .inl (cI, N, .inl (fun i_ => lvO (g i_))))] H := hP
      have hD : va_D A [(h0, .inr (6, fs)), (hbs, .inr (0, [.ref hru, .ref hjo, .int (b2 true)])), (hru, .inr (4, [.ref hpr, .ref hcn, .int (nI bz')])), (hpr, .inl (cI, N, .inl (fun i_ => nI (pr' i_)))), (hcn, .inl (cI, N, .inl (fun i_ => nI (cn' i_)))), (hjo, .inl (cI, N, .inl (fun i_ => nI (jo' i_)))), (ht, .inr (5, ft)), (hro, .inl (cI, 20, .inl (fun i_ => nI (r i_)))), (hf, .inr (1, ff)), (hle, .inl (cI, N, .inl (fun i_ => lvO (g i_))))] := hD
      have h2n := p2_le hn
      have hbl : bz' ≤ 2 ^ n := by rw [hB.1]; exact BLp_len _ n _
      have hbp : ∀ j, j < bz' → pr' j < 2 ^ n := fun j hj => BLp_lt _ _ _ _ (lstAt_mem hB.2.1 (Nat.lt_of_lt_of_eq hj hB.1))
      have hbc : ∀ j, j < bz' → cn' j < 2 ^ n := fun j hj => by rw [hB.2.2 j hj]; exact clo_lt _ _ _ _
      refine lv_astore_n (lv' := [(3, .ref hru), (0, .ref h0), (1, .int i), (2, .int (2 : Int32))]) hx hb dX7_rule_16 rfl hl (by decide) rfl (fun ls hl => ?_)
      refine lv_iload_n hx hb dX7_rule_17 rfl (lv_at hl 3 rfl) ?_
      refine lv_iconst (v := 2) hx hb dX7_rule_18 (by decide) ?_
      refine lv_icmp_ne (tgt := 52) hx hb dX7_rule_19 (by decide) (fun c_19 => ?_) (fun c_19 => ?_)
      · exact absurd c_19 (by decide)
      · refine lv_aload_n hx hb dX7_rule_22 rfl (lv_at hl 0 rfl) ?_
        refine lv_iload_n hx hb dX7_rule_23 rfl (lv_at hl 2 rfl) ?_
        refine rd_V (As := [.int i]) (rest := []) ⟨hx, hb, hml, hown, hts⟩ (c_X4_premise l D hru ([.ref hpr, .ref hcn, .int (nI bz')]) hpr cI N bz' pr' i rfl rfl (by omega) hN2) (cwV 1 hts gX7_rule_X4_premise rfl rfl rfl (by decide +kernel) ⟨Nat.le_of_ble_eq_true rfl, Nat.le_of_ble_eq_true rfl⟩) (hP.sub (ws' := [(hru, .inr (4, [.ref hpr, .ref hcn, .int (nI bz')])), (hpr, .inl (cI, N, .inl (fun i_ => nI (pr' i_))))]) [2, 3] rfl) (hK.sub (tys' := [(cI, .int)]) [0] rfl) (va_recv hK hP (ci := 4) (q0 := 2) rfl rfl) rfl rfl hl.1 rfl (lv_room (Nat.le_of_ble_eq_true rfl)) dX7_rule_24 ⟨Nat.le_of_ble_eq_true rfl, Nat.le_of_ble_eq_true rfl⟩ ?_
        have hil : ∀ h_ : (decide (¬ i < 0) && decide (¬ nI bz' ≤ i)) = true, i.toNatClampNeg < bz' := fun h_ => iB_lt (by omega) (by rw [← ib_iB (by omega)]; exact h_)
        refine lv_istore (lv' := [(4, .int (if (decide (¬ i < 0) && decide (¬ nI bz' ≤ i)) = true then nI (pr' i.toNatClampNeg) else -1)), (3, .ref hru), (0, .ref h0), (1, .int i), (2, .int (2 : Int32))]) hx hb dX7_rule_27 hl (by decide) rfl (fun ls hl => ?_)
        refine lv_iload hx hb dX7_rule_29 (lv_at hl 0 rfl) ?_
        refine lv_iconst (v := -1) hx hb dX7_rule_31 (by decide) ?_
        refine lv_icmp_ne (tgt := 39) hx hb dX7_rule_32 (by decide) (fun c_32 => ?_) (fun c_32 => ?_)
        · have hin_ : (decide (¬ i < 0) && decide (¬ nI bz' ≤ i)) = true := Classical.byContradiction (fun z_ => c_32 (if_neg z_))
          refine lv_aload_n hx hb dX7_rule_39 rfl (lv_at hl 2 rfl) ?_
          refine va_get (D := D) (ci := 6) (v := .ref ht) (C := RX7) (T := TX7) (N := 5) hx hb hts (by decide +kernel) hown hK hP 0 rfl rfl 0 (by decide) (hts (.fieldLink RX7 12 "ConceptTable" "table" "LConceptTable$Table;") (by decide +kernel)) (fun _ h9 => h9) c0 dX7_rule_40 ?_
          refine lv_iload hx hb dX7_rule_43 (lv_at hl 0 rfl) ?_
          refine lv_re (y := (nI (pr' i.toNatClampNeg))) (if_pos hin_) ?_
          refine rd_V (As := [.int (nI (pr' i.toNatClampNeg))]) (rest := []) ⟨hx, hb, hml, hown, hts⟩ (c_X6_extentOf l D ht ft hro cI o r (pr' i.toNatClampNeg) t0 t2 ho (by have := hbp _ (hil hin_); omega)) (cwV 1 hts gX7_rule_X6_extentOf rfl rfl rfl (by decide +kernel) ⟨Nat.le_of_ble_eq_true rfl, Nat.le_of_ble_eq_true rfl⟩) (hP.sub (ws' := [(ht, .inr (5, ft)), (hro, .inl (cI, 20, .inl (fun i_ => nI (r i_))))]) [6, 7] rfl) (hK.sub (tys' := [(cI, .int)]) [0] rfl) (va_recv hK hP (ci := 5) (q0 := 6) rfl rfl) rfl rfl hl.1 rfl (lv_room (Nat.le_of_ble_eq_true rfl)) dX7_rule_45 ⟨Nat.le_of_ble_eq_true rfl, Nat.le_of_ble_eq_true rfl⟩ ?_
          refine rd_S (As := [.int (nI (ext r (pr' i.toNatClampNeg) o))]) (rest := []) ⟨hx, hb, hml, hown, hts⟩ (c_J6_bitCount_0f7a4 l D (ext r (pr' i.toNatClampNeg) o) (Nat.lt_of_lt_of_le (ext_lt r _ o) (p2_le20 ho))) (va_cwS 1 hts gX7_rule_J6_bitCount_0f7a4 rfl rfl rfl (by decide +kernel) ⟨Nat.le_of_ble_eq_true rfl, Nat.le_of_ble_eq_true rfl⟩) (hP.sub (ws' := []) [] rfl) (hK.sub (tys' := []) [] rfl) rfl rfl hl.1 rfl (lv_room (Nat.le_of_ble_eq_true rfl)) dX7_rule_48 ⟨Nat.le_of_ble_eq_true rfl, Nat.le_of_ble_eq_true rfl⟩ ?_
          have hP := hP.sub (ws' := [(h0, .inr (6, fs)), (hbs, .inr (0, [.ref hru, .ref hjo, .int (b2 true)])), (hru, .inr (4, [.ref hpr, .ref hcn, .int (nI bz')])), (hpr, .inl (cI, N, .inl (fun i_ => nI (pr' i_)))), (hcn, .inl (cI, N, .inl (fun i_ => nI (cn' i_)))), (hjo, .inl (cI, N, .inl (fun i_ => nI (jo' i_)))), (ht, .inr (5, ft)), (hro, .inl (cI, 20, .inl (fun i_ => nI (r i_)))), (hf, .inr (1, ff)), (hle, .inl (cI, N, .inl (fun i_ => lvO (g i_))))]) [0, 1, 2, 3, 4, 5, 6, 7, 8, 9] rfl
          have hD := hD.sub (ws' := [(h0, .inr (6, fs)), (hbs, .inr (0, [.ref hru, .ref hjo, .int (b2 true)])), (hru, .inr (4, [.ref hpr, .ref hcn, .int (nI bz')])), (hpr, .inl (cI, N, .inl (fun i_ => nI (pr' i_)))), (hcn, .inl (cI, N, .inl (fun i_ => nI (cn' i_)))), (hjo, .inl (cI, N, .inl (fun i_ => nI (jo' i_)))), (ht, .inr (5, ft)), (hro, .inl (cI, 20, .inl (fun i_ => nI (r i_)))), (hf, .inr (1, ff)), (hle, .inl (cI, N, .inl (fun i_ => lvO (g i_))))]) [0, 1, 2, 3, 4, 5, 6, 7, 8, 9] (by decide) rfl
          exact W.iret (v := (nI (bits (ext r (pr' i.toNatClampNeg) o) 20))) hx hb hr (fun t ht hW => ⟨⟨(bz', pr', cn', jo'), (congrArg (fun z_ => Outcome.returned (some (Value.int z_))) (by rw [if_pos hin_])), hB, by rw [ht]; exact hP, hD⟩, hS.F ht⟩) hS.2.2 dX7_rule_51
        · have hout_ : ¬ (decide (¬ i < 0) && decide (¬ nI bz' ≤ i)) = true := fun z_ => by rw [if_pos z_] at c_32; exact nI_ne1 (by have := hbp _ (hil z_); omega) c_32
          refine lv_iconst (v := -1) hx hb dX7_rule_35 (by decide) ?_
          refine lv_goto (tgt := 51) hx hb dX7_rule_36 (by decide) ?_
          have hP := hP.sub (ws' := [(h0, .inr (6, fs)), (hbs, .inr (0, [.ref hru, .ref hjo, .int (b2 true)])), (hru, .inr (4, [.ref hpr, .ref hcn, .int (nI bz')])), (hpr, .inl (cI, N, .inl (fun i_ => nI (pr' i_)))), (hcn, .inl (cI, N, .inl (fun i_ => nI (cn' i_)))), (hjo, .inl (cI, N, .inl (fun i_ => nI (jo' i_)))), (ht, .inr (5, ft)), (hro, .inl (cI, 20, .inl (fun i_ => nI (r i_)))), (hf, .inr (1, ff)), (hle, .inl (cI, N, .inl (fun i_ => lvO (g i_))))]) [0, 1, 2, 3, 4, 5, 6, 7, 8, 9] rfl
          have hD := hD.sub (ws' := [(h0, .inr (6, fs)), (hbs, .inr (0, [.ref hru, .ref hjo, .int (b2 true)])), (hru, .inr (4, [.ref hpr, .ref hcn, .int (nI bz')])), (hpr, .inl (cI, N, .inl (fun i_ => nI (pr' i_)))), (hcn, .inl (cI, N, .inl (fun i_ => nI (cn' i_)))), (hjo, .inl (cI, N, .inl (fun i_ => nI (jo' i_)))), (ht, .inr (5, ft)), (hro, .inl (cI, 20, .inl (fun i_ => nI (r i_)))), (hf, .inr (1, ff)), (hle, .inl (cI, N, .inl (fun i_ => lvO (g i_))))]) [0, 1, 2, 3, 4, 5, 6, 7, 8, 9] (by decide) rfl
          exact W.iret (v := (-1 : Int32)) hx hb hr (fun t ht hW => ⟨⟨(bz', pr', cn', jo'), (congrArg (fun z_ => Outcome.returned (some (Value.int z_))) (by rw [if_neg hout_])), hB, by rw [ht]; exact hP, hD⟩, hS.F ht⟩) hS.2.2 dX7_rule_51
    · exact absurd c_6 (by decide)

set_option maxHeartbeats 4000000 in
set_option maxRecDepth 100000 in
theorem c_X7_follows_bad (l : Launch) (D : va_G) (h0 : Nat) (fs : List Value) (ht : Nat) (ft : List Value) (n : Nat) (x : Int32) (w : Int32) (c0 : fs[0]? = some (.ref ht)) (t1 : ft[1]? = some (.int (nI n))) (hn : n ≤ 12) (hb_ : sb x (nI (2 ^ n - 1)) = false ∨ w < 0) : Met l yX7_follows wsX7_follows ({ frames := 3, cells := 0, slots := 0, locals := 61 }) (va_Pc [.ref h0, .int x, .int w] (fun U => va_P D vwCl [(h0, .inr (6, fs)), (ht, .inr (5, ft))] U.heap ∧ va_K D vwCl [] U)) (QcRead (-2)) 0 0 (fun _ => False) := by
  refine Met.ofW (cc := cX7_follows) (maxL := 3) (ret := (some .int)) (by decide) rfl ?_
  intro p e s m args below meth c s₁ B hml hv
  obtain ⟨rfl, hP, hK⟩ := hv
  have hx := B.exec
  have hb := B.bytes
  have hr := B.returns
  have hts := atoms_spec (ws := wsX7_follows) B.pre
  have hown : s.vm.findClass RX7 = some m.cls := findClass_of_methodNamed B.named
  have hlocks := B.notSynchronized
  have hl := lv_entry ([.ref h0, .int x, .int w]) (n := 3) (Nat.le_of_ble_eq_true rfl)
  rw [lg_entry_eq]
  generalize (lg_sl ([.ref h0, .int x, .int w]) ++ List.replicate (3 - (lg_sl ([.ref h0, .int x, .int w])).length) Slot.unset).toArray = ls at hl ⊢
  have hl : lv_has ls 3 [(0, .ref h0), (1, .int x), (2, .int w)] := hl
  refine lv_aload_n hx hb dX7_follows_0 rfl (lv_at hl 0 rfl) ?_
  refine va_get (D := D) (ci := 6) (v := .ref ht) (C := RX7) (T := TX7) (N := 5) hx hb hts (by decide +kernel) hown hK hP 0 rfl rfl 0 (by decide) (hts (.fieldLink RX7 12 "ConceptTable" "table" "LConceptTable$Table;") (by decide +kernel)) (fun _ h9 => h9) c0 dX7_follows_1 ?_
  refine lv_iload_n hx hb dX7_follows_4 rfl (lv_at hl 1 rfl) ?_
  refine rd_V (As := [.int x]) (rest := []) ⟨hx, hb, hml, hown, hts⟩ (c_X6_isAttributeSet l D ht ft n x t1 (by assumption)) (cwV 1 hts gX7_follows_X6_isAttributeSet rfl rfl rfl (by decide +kernel) ⟨Nat.le_of_ble_eq_true rfl, Nat.le_of_ble_eq_true rfl⟩) (hP.sub (ws' := [(ht, .inr (5, ft))]) [1] rfl) (hK.sub (tys' := []) [] rfl) (va_recv hK hP (ci := 5) (q0 := 1) rfl rfl) rfl rfl hl.1 rfl (lv_room (Nat.le_of_ble_eq_true rfl)) dX7_follows_5 ⟨Nat.le_of_ble_eq_true rfl, Nat.le_of_ble_eq_true rfl⟩ ?_
  refine lv_if_eq (tgt := 15) hx hb dX7_follows_8 (by decide) (fun c_8 => ?_) (fun c_8 => ?_)
  · have c_8 := b2_0.mp c_8
    refine lv_bipush (v := -2) hx hb dX7_follows_15 (by decide) ?_
    have e_ret : (-2 : Int32) = (-2) := by rfl
    exact W.iret (v := (-2 : Int32)) hx hb hr (fun t ht hW => ⟨congrArg (fun z_ => Outcome.returned (some (Value.int z_))) e_ret, ht⟩) (fun q h => by cases h) dX7_follows_17
  · have c_8 := b2_n0.mp c_8
    refine lv_iload_n hx hb dX7_follows_11 rfl (lv_at hl 2 rfl) ?_
    refine lv_if_ge (tgt := 18) hx hb dX7_follows_12 (by decide) (fun c_12 => ?_) (fun c_12 => ?_)
    · exact absurd hb_ (by rw [c_8]; rintro (h | h); cases h; exact absurd h (Int32.not_lt.mpr c_12))
    · refine lv_bipush (v := -2) hx hb dX7_follows_15 (by decide) ?_
      have e_ret : (-2 : Int32) = (-2) := by rfl
      exact W.iret (v := (-2 : Int32)) hx hb hr (fun t ht hW => ⟨congrArg (fun z_ => Outcome.returned (some (Value.int z_))) e_ret, ht⟩) (fun q h => by cases h) dX7_follows_17

set_option maxHeartbeats 4000000 in
set_option maxRecDepth 100000 in
theorem c_X7_follows_ok (l : Launch) (D : va_G) (sz : Nat) (h0 : Nat) (fs : List Value) (ht : Nat) (ft : List Value) (hro : Nat) (n : Nat) (o : Nat) (cI : ClassId) (r : Nat → Nat) (hbs : Nat) (hru : Nat) (hjo : Nat) (bt : Bool) (hpr : Nat) (hcn : Nat) (bz : Nat) (N : Nat) (pr : Nat → Nat) (cn : Nat → Nat) (jo : Nat → Nat) (hf : Nat) (ff : List Value) (hle : Nat) (g : Nat → Option Nat) (q : Nat) (m_ : Nat) (c0 : fs[0]? = some (.ref ht)) (c3 : fs[3]? = some (.ref hf)) (c4 : fs[4]? = some (.ref hbs)) (t0 : ft[0]? = some (.ref hro)) (t1 : ft[1]? = some (.int (nI n))) (t2 : ft[2]? = some (.int (nI o))) (g1 : ff[1]? = some (.ref hle)) (hn : n ≤ 12) (ho : o ≤ 20) (hN : 2 ^ n ≤ N) (hN2 : N ≤ 4096) (hgb : ∀ j v, g j = some v → v ≤ 4096) (hgc : ∀ q, q < 2 ^ n → (gB g q = true ↔ clo r n o q = q)) (hbt : bt = true → bz = (BL r n o).length ∧ lstAt pr (BL r n o) ∧ ∀ j, j < bz → cn j = clo r n o (pr j)) (hq : q < 2 ^ n) (hm : m_ < 2 ^ 31) (hb_ : sb (nI q) (nI (2 ^ n - 1)) = true) : Met l yX7_follows wsX7_follows ({ frames := 5, cells := 0, slots := 0, locals := 114 }) (va_Pc [.ref h0, .int (nI q), .int (nI m_)] (fun U => U.heap.size = sz ∧ va_P D vwCl [(h0, .inr (6, fs)), (hbs, .inr (0, [.ref hru, .ref hjo, .int (b2 bt)])), (hru, .inr (4, [.ref hpr, .ref hcn, .int (nI bz)])), (hpr, .inl (cI, N, .inl (fun i_ => nI (pr i_)))), (hcn, .inl (cI, N, .inl (fun i_ => nI (cn i_)))), (hjo, .inl (cI, N, .inl (fun i_ => nI (jo i_)))), (ht, .inr (5, ft)), (hro, .inl (cI, 20, .inl (fun i_ => nI (r i_)))), (hf, .inr (1, ff)), (hle, .inl (cI, N, .inl (fun i_ => lvO (g i_))))] U.heap ∧ va_K D vwCl [(cI, .int)] U ∧ va_D (fun _ => True) [(h0, .inr (6, fs)), (hbs, .inr (0, [.ref hru, .ref hjo, .int (b2 bt)])), (hru, .inr (4, [.ref hpr, .ref hcn, .int (nI bz)])), (hpr, .inl (cI, N, .inl (fun i_ => nI (pr i_)))), (hcn, .inl (cI, N, .inl (fun i_ => nI (cn i_)))), (hjo, .inl (cI, N, .inl (fun i_ => nI (jo i_)))), (ht, .inr (5, ft)), (hro, .inl (cI, 20, .inl (fun i_ => nI (r i_)))), (hf, .inr (1, ff)), (hle, .inl (cI, N, .inl (fun i_ => lvO (g i_))))])) (mxQ (fun u_ : Nat × (Nat → Nat) × (Nat → Nat) × (Nat → Nat) => match u_ with | (bz', pr', cn', jo') => (some (.int (nI (lkF pr' cn' (min m_ bz') 13 q))))) (fun u_ : Nat × (Nat → Nat) × (Nat → Nat) × (Nat → Nat) => match u_ with | (bz', pr', cn', jo') => (bz' = (BL r n o).length ∧ lstAt pr' (BL r n o) ∧ ∀ j, j < bz' → cn' j = clo r n o (pr' j))) (fun u_ : Nat × (Nat → Nat) × (Nat → Nat) × (Nat → Nat) => match u_ with | (bz', pr', cn', jo') => [(h0, .inr (6, fs)), (hbs, .inr (0, [.ref hru, .ref hjo, .int (b2 true)])), (hru, .inr (4, [.ref hpr, .ref hcn, .int (nI bz')])), (hpr, .inl (cI, N, .inl (fun i_ => nI (pr' i_)))), (hcn, .inl (cI, N, .inl (fun i_ => nI (cn' i_)))), (hjo, .inl (cI, N, .inl (fun i_ => nI (jo' i_)))), (ht, .inr (5, ft)), (hro, .inl (cI, 20, .inl (fun i_ => nI (r i_)))), (hf, .inr (1, ff)), (hle, .inl (cI, N, .inl (fun i_ => lvO (g i_))))]) D vwCl (va_A [(h0, .inr (6, fs)), (hbs, .inr (0, [.ref hru, .ref hjo, .int (b2 bt)])), (hru, .inr (4, [.ref hpr, .ref hcn, .int (nI bz)])), (hpr, .inl (cI, N, .inl (fun i_ => nI (pr i_)))), (hcn, .inl (cI, N, .inl (fun i_ => nI (cn i_)))), (hjo, .inl (cI, N, .inl (fun i_ => nI (jo i_)))), (ht, .inr (5, ft)), (hro, .inl (cI, 20, .inl (fun i_ => nI (r i_)))), (hf, .inr (1, ff)), (hle, .inl (cI, N, .inl (fun i_ => lvO (g i_))))] sz)) 0 0 (va_A [(h0, .inr (6, fs)), (hbs, .inr (0, [.ref hru, .ref hjo, .int (b2 bt)])), (hru, .inr (4, [.ref hpr, .ref hcn, .int (nI bz)])), (hpr, .inl (cI, N, .inl (fun i_ => nI (pr i_)))), (hcn, .inl (cI, N, .inl (fun i_ => nI (cn i_)))), (hjo, .inl (cI, N, .inl (fun i_ => nI (jo i_)))), (ht, .inr (5, ft)), (hro, .inl (cI, 20, .inl (fun i_ => nI (r i_)))), (hf, .inr (1, ff)), (hle, .inl (cI, N, .inl (fun i_ => lvO (g i_))))] sz) := by
  refine Met.ofW (cc := cX7_follows) (maxL := 3) (ret := (some .int)) (by decide) rfl ?_
  intro p e s m args below meth c s₁ B hml hv
  obtain ⟨rfl, hsz, hP, hK, hD0⟩ := hv
  have hx := B.exec
  have hb := B.bytes
  have hr := B.returns
  have hts := atoms_spec (ws := wsX7_follows) B.pre
  have hown : s.vm.findClass RX7 = some m.cls := findClass_of_methodNamed B.named
  have hlocks := B.notSynchronized
  subst hsz
  have hD := hD0.self (sz := s.heap.size)
  generalize hAe : va_A [(h0, .inr (6, fs)), (hbs, .inr (0, [.ref hru, .ref hjo, .int (b2 bt)])), (hru, .inr (4, [.ref hpr, .ref hcn, .int (nI bz)])), (hpr, .inl (cI, N, .inl (fun i_ => nI (pr i_)))), (hcn, .inl (cI, N, .inl (fun i_ => nI (cn i_)))), (hjo, .inl (cI, N, .inl (fun i_ => nI (jo i_)))), (ht, .inr (5, ft)), (hro, .inl (cI, 20, .inl (fun i_ => nI (r i_)))), (hf, .inr (1, ff)), (hle, .inl (cI, N, .inl (fun i_ => lvO (g i_))))] s.heap.size = A at hD ⊢
  have hA : ∀ q : Nat, s.heap.size ≤ q → A q := fun q h => by rw [← hAe]; exact Or.inr h
  have hS : va_S A s.heap s.heap [] := va_S.rf
  have hl := lv_entry ([.ref h0, .int (nI q), .int (nI m_)]) (n := 3) (Nat.le_of_ble_eq_true rfl)
  rw [lg_entry_eq]
  generalize (lg_sl ([.ref h0, .int (nI q), .int (nI m_)]) ++ List.replicate (3 - (lg_sl ([.ref h0, .int (nI q), .int (nI m_)])).length) Slot.unset).toArray = ls at hl ⊢
  have hl : lv_has ls 3 [(0, .ref h0), (1, .int (nI q)), (2, .int (nI m_))] := hl
  refine lv_aload_n hx hb dX7_follows_0 rfl (lv_at hl 0 rfl) ?_
  refine va_get (D := D) (ci := 6) (v := .ref ht) (C := RX7) (T := TX7) (N := 5) hx hb hts (by decide +kernel) hown hK hP 0 rfl rfl 0 (by decide) (hts (.fieldLink RX7 12 "ConceptTable" "table" "LConceptTable$Table;") (by decide +kernel)) (fun _ h9 => h9) c0 dX7_follows_1 ?_
  refine lv_iload_n hx hb dX7_follows_4 rfl (lv_at hl 1 rfl) ?_
  refine rd_V (As := [.int (nI q)]) (rest := []) ⟨hx, hb, hml, hown, hts⟩ (c_X6_isAttributeSet l D ht ft n (nI q) t1 (by assumption)) (cwV 1 hts gX7_follows_X6_isAttributeSet rfl rfl rfl (by decide +kernel) ⟨Nat.le_of_ble_eq_true rfl, Nat.le_of_ble_eq_true rfl⟩) (hP.sub (ws' := [(ht, .inr (5, ft))]) [6] rfl) (hK.sub (tys' := []) [] rfl) (va_recv hK hP (ci := 5) (q0 := 6) rfl rfl) rfl rfl hl.1 rfl (lv_room (Nat.le_of_ble_eq_true rfl)) dX7_follows_5 ⟨Nat.le_of_ble_eq_true rfl, Nat.le_of_ble_eq_true rfl⟩ ?_
  refine lv_if_eq (tgt := 15) hx hb dX7_follows_8 (by decide) (fun c_8 => ?_) (fun c_8 => ?_)
  · have c_8 := b2_0.mp c_8
    exact Bool.noConfusion (hb_.symm.trans c_8)
  · have c_8 := b2_n0.mp c_8
    refine lv_iload_n hx hb dX7_follows_11 rfl (lv_at hl 2 rfl) ?_
    refine lv_if_ge (tgt := 18) hx hb dX7_follows_12 (by decide) (fun c_12 => ?_) (fun c_12 => ?_)
    · have c_12 : 0 ≤ m_ := (nI_leI (a := 0) (b := m_) (by omega) (by omega)).mp c_12
      refine lv_aload_n hx hb dX7_follows_18 rfl (lv_at hl 0 rfl) ?_
      have hPc := hP.sub (ws' := [(h0, .inr (6, fs)), (hbs, .inr (0, [.ref hru, .ref hjo, .int (b2 bt)])), (hru, .inr (4, [.ref hpr, .ref hcn, .int (nI bz)])), (hpr, .inl (cI, N, .inl (fun i_ => nI (pr i_)))), (hcn, .inl (cI, N, .inl (fun i_ => nI (cn i_)))), (hjo, .inl (cI, N, .inl (fun i_ => nI (jo i_)))), (ht, .inr (5, ft)), (hro, .inl (cI, 20, .inl (fun i_ => nI (r i_)))), (hf, .inr (1, ff)), (hle, .inl (cI, N, .inl (fun i_ => lvO (g i_))))]) [0, 1, 2, 3, 4, 5, 6, 7, 8, 9] rfl
      have hDc := hD.sub (ws' := [(h0, .inr (6, fs)), (hbs, .inr (0, [.ref hru, .ref hjo, .int (b2 bt)])), (hru, .inr (4, [.ref hpr, .ref hcn, .int (nI bz)])), (hpr, .inl (cI, N, .inl (fun i_ => nI (pr i_)))), (hcn, .inl (cI, N, .inl (fun i_ => nI (cn i_)))), (hjo, .inl (cI, N, .inl (fun i_ => nI (jo i_)))), (ht, .inr (5, ft)), (hro, .inl (cI, 20, .inl (fun i_ => nI (r i_)))), (hf, .inr (1, ff)), (hle, .inl (cI, N, .inl (fun i_ => lvO (g i_))))]) [0, 1, 2, 3, 4, 5, 6, 7, 8, 9] (by decide) rfl
      have hKc := hK.sub (tys' := [(cI, .int)]) [0] rfl
      have hFc := va_free (wc := [(h0, .inr (6, fs)), (hbs, .inr (0, [.ref hru, .ref hjo, .int (b2 bt)])), (hru, .inr (4, [.ref hpr, .ref hcn, .int (nI bz)])), (hpr, .inl (cI, N, .inl (fun i_ => nI (pr i_)))), (hcn, .inl (cI, N, .inl (fun i_ => nI (cn i_)))), (hjo, .inl (cI, N, .inl (fun i_ => nI (jo i_)))), (ht, .inr (5, ft)), (hro, .inl (cI, 20, .inl (fun i_ => nI (r i_)))), (hf, .inr (1, ff)), (hle, .inl (cI, N, .inl (fun i_ => lvO (g i_))))]) hD hS hA [0, 1, 2, 3, 4, 5, 6, 7, 8, 9] rfl
      refine mx_call (va_runV (As := []) (rest := []) ⟨hx, hb, hml, hown, hts⟩ (c_X7_baseRules l D s.heap.size h0 fs ht ft hro n o cI r hbs hru hjo bt hpr hcn bz N pr cn jo hf ff hle g c0 c3 c4 t0 t1 t2 g1 hn ho hN hN2 hgb hgc hbt) (cwV 0 hts gX7_follows_X7_baseRules rfl rfl rfl (by decide +kernel) ⟨Nat.le_of_ble_eq_true rfl, Nat.le_of_ble_eq_true rfl⟩) ⟨mu_bl, va_recv hKc hPc (ci := 6) (q0 := 0) rfl rfl, fun U hU hW => ⟨rfl, by rw [hU], by rw [hU]; exact hPc, va_K.moved hW.alike hKc, hDc.weaken (fun _ _ _ _ => trivial)⟩⟩ rfl rfl hl.1 rfl (lv_room (Nat.le_of_ble_eq_true rfl)) dX7_follows_19 ⟨Nat.le_of_ble_eq_true rfl, Nat.le_of_ble_eq_true rfl⟩) hS (fun q _ h => hFc q h) hFc (fun u_ H1 locs hq_ hP1 hD1 hk1 hS => ?_)
      obtain ⟨bz', pr', cn', jo'⟩ := u_
      have hP1 : va_P D vwCl [(h0, .inr (6, fs)), (hbs, .inr (0, [.ref hru, .ref hjo, .int (b2 true)])), (hru, .inr (4, [.ref hpr, .ref hcn, .int (nI bz')])), (hpr, .inl (cI, N, .inl (fun i_ => nI (pr' i_)))), (hcn, .inl (cI, N, .inl (fun i_ => nI (cn' i_)))), (hjo, .inl (cI, N, .inl (fun i_ => nI (jo' i_)))), (ht, .inr (5, ft)), (hro, .inl (cI, 20, .inl (fun i_ => nI (r i_)))), (hf, .inr (1, ff)), (hle, .inl (cI, N, .inl (fun i_ => lvO (g i_))))] H1 := hP1
      have hD1 : va_D (va_A [(h0, .inr (6, fs)), (hbs, .inr (0, [.ref hru, .ref hjo, .int (b2 bt)])), (hru, .inr (4, [.ref hpr, .ref hcn, .int (nI bz)])), (hpr, .inl (cI, N, .inl (fun i_ => nI (pr i_)))), (hcn, .inl (cI, N, .inl (fun i_ => nI (cn i_)))), (hjo, .inl (cI, N, .inl (fun i_ => nI (jo i_)))), (ht, .inr (5, ft)), (hro, .inl (cI, 20, .inl (fun i_ => nI (r i_)))), (hf, .inr (1, ff)), (hle, .inl (cI, N, .inl (fun i_ => lvO (g i_))))] s.heap.size) [(h0, .inr (6, fs)), (hbs, .inr (0, [.ref hru, .ref hjo, .int (b2 true)])), (hru, .inr (4, [.ref hpr, .ref hcn, .int (nI bz')])), (hpr, .inl (cI, N, .inl (fun i_ => nI (pr' i_)))), (hcn, .inl (cI, N, .inl (fun i_ => nI (cn' i_)))), (hjo, .inl (cI, N, .inl (fun i_ => nI (jo' i_)))), (ht, .inr (5, ft)), (hro, .inl (cI, 20, .inl (fun i_ => nI (r i_)))), (hf, .inr (1, ff)), (hle, .inl (cI, N, .inl (fun i_ => lvO (g i_))))] := hD1
      have hB := hq_
      have hB : bz' = (BL r n o).length ∧ lstAt pr' (BL r n o) ∧ ∀ j, j < bz' → cn' j = clo r n o (pr' j) := hB
      obtain ⟨hP, hD⟩ := va_join (wr := []) (w1 := [(h0, .inr (6, fs)), (hbs, .inr (0, [.ref hru, .ref hjo, .int (b2 true)])), (hru, .inr (4, [.ref hpr, .ref hcn, .int (nI bz')])), (hpr, .inl (cI, N, .inl (fun i_ => nI (pr' i_)))), (hcn, .inl (cI, N, .inl (fun i_ => nI (cn' i_)))), (hjo, .inl (cI, N, .inl (fun i_ => nI (jo' i_)))), (ht, .inr (5, ft)), (hro, .inl (cI, 20, .inl (fun i_ => nI (r i_)))), (hf, .inr (1, ff)), (hle, .inl (cI, N, .inl (fun i_ => lvO (g i_))))]) hP hD [0, 1, 2, 3, 4, 5, 6, 7, 8, 9] [] rfl rfl (by decide) (by decide) hk1 hFc hP1 hD1
      generalize H1 = H at hP hS ⊢
      have hP : va_P D vwCl [(h0, .inr (6, fs)), (hbs, .inr (0, [.ref hru, .ref hjo, .int (b2 true)])), (hru, .inr (4, [.ref hpr, .ref hcn, .int (nI bz')])), (hpr, .inl (cI, N, .inl (fun i_ => nI (pr' i_)))), (hcn, .inl (cI, N, .inl (fun i_ => nI (cn' i_)))), (hjo, .inl (cI, N, .inl (fun i_ => nI (jo' i_)))), (ht, .inr (5, ft)), (hro, .inl (cI, 20, .inl (fun i_ => nI (r i_)))), (hf, .inr (1, ff)), (hle, .inl (cI, N, .inl (fun i_ => lvO (g i_))))] H := hP
      have hD : va_D A [(h0, .inr (6, fs)), (hbs, .inr (0, [.ref hru, .ref hjo, .int (b2 true)])), (hru, .inr (4, [.ref hpr, .ref hcn, .int (nI bz')])), (hpr, .inl (cI, N, .inl (fun i_ => nI (pr' i_)))), (hcn, .inl (cI, N, .inl (fun i_ => nI (cn' i_)))), (hjo, .inl (cI, N, .inl (fun i_ => nI (jo' i_)))), (ht, .inr (5, ft)), (hro, .inl (cI, 20, .inl (fun i_ => nI (r i_)))), (hf, .inr (1, ff)), (hle, .inl (cI, N, .inl (fun i_ => lvO (g i_))))] := hD
      have h2n := p2_le hn
      have hbl : bz' ≤ 2 ^ n := by rw [hB.1]; exact BLp_len _ n _
      have hbp : ∀ j, j < bz' → pr' j < 2 ^ n := fun j hj => BLp_lt _ _ _ _ (lstAt_mem hB.2.1 (Nat.lt_of_lt_of_eq hj hB.1))
      have hbc : ∀ j, j < bz' → cn' j < 2 ^ n := fun j hj => by rw [hB.2.2 j hj]; exact clo_lt _ _ _ _
      refine lv_iload_n hx hb dX7_follows_22 rfl (lv_at hl 1 rfl) ?_
      refine lv_iload_n hx hb dX7_follows_23 rfl (lv_at hl 2 rfl) ?_
      refine rd_V (As := [.int (nI q), .int (nI m_)]) (rest := []) ⟨hx, hb, hml, hown, hts⟩ (c_X4_leastKeeping l D hru ([.ref hpr, .ref hcn, .int (nI bz')]) hpr hcn cI N bz' pr' cn' q m_ n rfl rfl rfl hn (by omega) hN2 hm hq hbp hbc) (cwV 2 hts gX7_follows_X4_leastKeeping rfl rfl rfl (by decide +kernel) ⟨Nat.le_of_ble_eq_true rfl, Nat.le_of_ble_eq_true rfl⟩) (hP.sub (ws' := [(hru, .inr (4, [.ref hpr, .ref hcn, .int (nI bz')])), (hpr, .inl (cI, N, .inl (fun i_ => nI (pr' i_)))), (hcn, .inl (cI, N, .inl (fun i_ => nI (cn' i_))))]) [2, 3, 4] rfl) (hK.sub (tys' := [(cI, .int)]) [0] rfl) (va_recv hK hP (ci := 4) (q0 := 2) rfl rfl) rfl rfl hl.1 rfl (lv_room (Nat.le_of_ble_eq_true rfl)) dX7_follows_24 ⟨Nat.le_of_ble_eq_true rfl, Nat.le_of_ble_eq_true rfl⟩ ?_
      have hP := hP.sub (ws' := [(h0, .inr (6, fs)), (hbs, .inr (0, [.ref hru, .ref hjo, .int (b2 true)])), (hru, .inr (4, [.ref hpr, .ref hcn, .int (nI bz')])), (hpr, .inl (cI, N, .inl (fun i_ => nI (pr' i_)))), (hcn, .inl (cI, N, .inl (fun i_ => nI (cn' i_)))), (hjo, .inl (cI, N, .inl (fun i_ => nI (jo' i_)))), (ht, .inr (5, ft)), (hro, .inl (cI, 20, .inl (fun i_ => nI (r i_)))), (hf, .inr (1, ff)), (hle, .inl (cI, N, .inl (fun i_ => lvO (g i_))))]) [0, 1, 2, 3, 4, 5, 6, 7, 8, 9] rfl
      have hD := hD.sub (ws' := [(h0, .inr (6, fs)), (hbs, .inr (0, [.ref hru, .ref hjo, .int (b2 true)])), (hru, .inr (4, [.ref hpr, .ref hcn, .int (nI bz')])), (hpr, .inl (cI, N, .inl (fun i_ => nI (pr' i_)))), (hcn, .inl (cI, N, .inl (fun i_ => nI (cn' i_)))), (hjo, .inl (cI, N, .inl (fun i_ => nI (jo' i_)))), (ht, .inr (5, ft)), (hro, .inl (cI, 20, .inl (fun i_ => nI (r i_)))), (hf, .inr (1, ff)), (hle, .inl (cI, N, .inl (fun i_ => lvO (g i_))))]) [0, 1, 2, 3, 4, 5, 6, 7, 8, 9] (by decide) rfl
      exact W.iret (v := (nI (lkF pr' cn' (min m_ bz') 13 q))) hx hb hr (fun t ht hW => ⟨⟨(bz', pr', cn', jo'), rfl, hB, by rw [ht]; exact hP, hD⟩, hS.F ht⟩) hS.2.2 dX7_follows_27
    · have c_12 : m_ < 0 := Nat.lt_of_not_le (fun h_ => c_12 ((nI_leI (a := 0) (b := m_) (by omega) (by omega)).mpr h_))
      exact absurd c_12 (by omega)

set_option maxHeartbeats 4000000 in
set_option maxRecDepth 100000 in
theorem c_X7_concept_bad (l : Launch) (D : va_G) (h0 : Nat) (fs : List Value) (i : Int32) (w : Int32) (hb_ : w < 0) : Met l yX7_concept wsX7_concept ({ frames := 0, cells := 0, slots := 0, locals := 0 }) (va_Pc [.ref h0, .int i, .int w] (fun U => va_P D vwCl [(h0, .inr (6, fs))] U.heap ∧ va_K D vwCl [] U)) (QcRead (-2)) 0 0 (fun _ => False) := by
  refine Met.ofW (cc := cX7_concept) (maxL := 4) (ret := (some .int)) (by decide) rfl ?_
  intro p e s m args below meth c s₁ B hml hv
  obtain ⟨rfl, hP, hK⟩ := hv
  have hx := B.exec
  have hb := B.bytes
  have hr := B.returns
  have hts := atoms_spec (ws := wsX7_concept) B.pre
  have hown : s.vm.findClass RX7 = some m.cls := findClass_of_methodNamed B.named
  have hlocks := B.notSynchronized
  have hl := lv_entry ([.ref h0, .int i, .int w]) (n := 4) (Nat.le_of_ble_eq_true rfl)
  rw [lg_entry_eq]
  generalize (lg_sl ([.ref h0, .int i, .int w]) ++ List.replicate (4 - (lg_sl ([.ref h0, .int i, .int w])).length) Slot.unset).toArray = ls at hl ⊢
  have hl : lv_has ls 4 [(0, .ref h0), (1, .int i), (2, .int w)] := hl
  refine lv_iload_n hx hb dX7_concept_0 rfl (lv_at hl 2 rfl) ?_
  refine lv_if_ge (tgt := 7) hx hb dX7_concept_1 (by decide) (fun c_1 => ?_) (fun c_1 => ?_)
  · exact absurd hb_ (Int32.not_lt.mpr c_1)
  · refine lv_bipush (v := -2) hx hb dX7_concept_4 (by decide) ?_
    have e_ret : (-2 : Int32) = (-2) := by rfl
    exact W.iret (v := (-2 : Int32)) hx hb hr (fun t ht hW => ⟨congrArg (fun z_ => Outcome.returned (some (Value.int z_))) e_ret, ht⟩) (fun q h => by cases h) dX7_concept_6

set_option maxHeartbeats 4000000 in
set_option maxRecDepth 100000 in
theorem c_X7_concept_none (l : Launch) (D : va_G) (h0 : Nat) (fs : List Value) (hf : Nat) (ff : List Value) (z : Nat) (i : Int32) (w : Int32) (c3 : fs[3]? = some (.ref hf)) (g3 : ff[3]? = some (.int (nI z))) (hw : ¬ w < 0) (hb_ : (decide (¬ i < 0) && decide (¬ nI z ≤ i)) = false) : Met l yX7_concept wsX7_concept ({ frames := 1, cells := 0, slots := 0, locals := 20 }) (va_Pc [.ref h0, .int i, .int w] (fun U => va_P D vwCl [(h0, .inr (6, fs)), (hf, .inr (1, ff))] U.heap ∧ va_K D vwCl [] U)) (QcRead (-1)) 0 0 (fun _ => False) := by
  refine Met.ofW (cc := cX7_concept) (maxL := 4) (ret := (some .int)) (by decide) rfl ?_
  intro p e s m args below meth c s₁ B hml hv
  obtain ⟨rfl, hP, hK⟩ := hv
  have hx := B.exec
  have hb := B.bytes
  have hr := B.returns
  have hts := atoms_spec (ws := wsX7_concept) B.pre
  have hown : s.vm.findClass RX7 = some m.cls := findClass_of_methodNamed B.named
  have hlocks := B.notSynchronized
  have hl := lv_entry ([.ref h0, .int i, .int w]) (n := 4) (Nat.le_of_ble_eq_true rfl)
  rw [lg_entry_eq]
  generalize (lg_sl ([.ref h0, .int i, .int w]) ++ List.replicate (4 - (lg_sl ([.ref h0, .int i, .int w])).length) Slot.unset).toArray = ls at hl ⊢
  have hl : lv_has ls 4 [(0, .ref h0), (1, .int i), (2, .int w)] := hl
  refine lv_iload_n hx hb dX7_concept_0 rfl (lv_at hl 2 rfl) ?_
  refine lv_if_ge (tgt := 7) hx hb dX7_concept_1 (by decide) (fun c_1 => ?_) (fun c_1 => ?_)
  · refine lv_iload_n hx hb dX7_concept_7 rfl (lv_at hl 1 rfl) ?_
    refine lv_if_lt (tgt := 22) hx hb dX7_concept_8 (by decide) (fun c_8 => ?_) (fun c_8 => ?_)
    · refine lv_iconst (v := -1) hx hb dX7_concept_22 (by decide) ?_
      have e_ret : (-1 : Int32) = (-1) := by rfl
      exact W.iret (v := (-1 : Int32)) hx hb hr (fun t ht hW => ⟨congrArg (fun z_ => Outcome.returned (some (Value.int z_))) e_ret, ht⟩) (fun q h => by cases h) dX7_concept_23
    · refine lv_iload_n hx hb dX7_concept_11 rfl (lv_at hl 1 rfl) ?_
      refine lv_aload_n hx hb dX7_concept_12 rfl (lv_at hl 0 rfl) ?_
      refine va_get (D := D) (ci := 6) (v := .ref hf) (C := RX7) (T := TX7) (N := 5) hx hb hts (by decide +kernel) hown hK hP 0 rfl rfl 3 (by decide) (hts (.fieldLink RX7 33 "ConceptTable" "family" "LConceptTable$Family;") (by decide +kernel)) (fun _ h9 => h9) c3 dX7_concept_13 ?_
      refine rd_V (As := []) (rest := [.int i]) ⟨hx, hb, hml, hown, hts⟩ (c_X1_size l D hf ff z g3) (cwV 0 hts gX7_concept_X1_size rfl rfl rfl (by decide +kernel) ⟨Nat.le_of_ble_eq_true rfl, Nat.le_of_ble_eq_true rfl⟩) (hP.sub (ws' := [(hf, .inr (1, ff))]) [1] rfl) (hK.sub (tys' := []) [] rfl) (va_recv hK hP (ci := 1) (q0 := 1) rfl rfl) rfl rfl hl.1 rfl (lv_room (Nat.le_of_ble_eq_true rfl)) dX7_concept_16 ⟨Nat.le_of_ble_eq_true rfl, Nat.le_of_ble_eq_true rfl⟩ ?_
      refine lv_icmp_lt (tgt := 24) hx hb dX7_concept_19 (by decide) (fun c_19 => ?_) (fun c_19 => ?_)
      · exact absurd hb_ (by rw [decide_eq_true c_8, decide_eq_true (Int32.not_le.mpr c_19)]; decide)
      · refine lv_iconst (v := -1) hx hb dX7_concept_22 (by decide) ?_
        have e_ret : (-1 : Int32) = (-1) := by rfl
        exact W.iret (v := (-1 : Int32)) hx hb hr (fun t ht hW => ⟨congrArg (fun z_ => Outcome.returned (some (Value.int z_))) e_ret, ht⟩) (fun q h => by cases h) dX7_concept_23
  · exact absurd (Int32.not_lt.mp hw) c_1

set_option maxHeartbeats 4000000 in
set_option maxRecDepth 100000 in
theorem c_X7_concept_0 (l : Launch) (D : va_G) (sz : Nat) (h0 : Nat) (fs : List Value) (ht : Nat) (ft : List Value) (hro : Nat) (n : Nat) (o : Nat) (cI : ClassId) (r : Nat → Nat) (hf : Nat) (hme : Nat) (hle : Nat) (z : Nat) (ar : Bool) (N : Nat) (mem : Nat → Nat) (g : Nat → Option Nat) (hnb : Nat) (hfd : Nat) (nz : Nat) (fd : Nat → Nat) (i : Nat) (c0 : fs[0]? = some (.ref ht)) (c1 : fs[1]? = some (.ref hnb)) (c3 : fs[3]? = some (.ref hf)) (t0 : ft[0]? = some (.ref hro)) (t1 : ft[1]? = some (.int (nI n))) (t2 : ft[2]? = some (.int (nI o))) (hn : n ≤ 12) (ho : o ≤ 20) (hN : 2 ^ n ≤ N) (hN2 : N ≤ 4096) (hfam : FamOK n g mem z) (hgc : ∀ q, q < 2 ^ n → (gB g q = true ↔ clo r n o q = q)) (har : ar = true → lstAt mem (CL r n o) ∧ ∀ q, q < 2 ^ n → gB g q = true → g q = some (LV r n o q)) (hi : i < z) : Met l yX7_concept wsX7_concept ({ frames := 5, cells := 0, slots := 0, locals := 108 }) (va_Pc [.ref h0, .int (nI i), .int (0 : Int32)] (fun U => U.heap.size = sz ∧ va_P D vwCl [(h0, .inr (6, fs)), (ht, .inr (5, ft)), (hro, .inl (cI, 20, .inl (fun i_ => nI (r i_)))), (hf, .inr (1, [.ref hme, .ref hle, .int (nI n), .int (nI z), .int (b2 ar)])), (hme, .inl (cI, N, .inl (fun i_ => nI (mem i_)))), (hle, .inl (cI, N, .inl (fun i_ => lvO (g i_)))), (hnb, .inr (3, [.ref hfd, .int (nI nz)])), (hfd, .inl (cI, 20, .inl (fun i_ => nI (fd i_))))] U.heap ∧ va_K D vwCl [(cI, .int)] U ∧ va_D (fun _ => True) [(h0, .inr (6, fs)), (ht, .inr (5, ft)), (hro, .inl (cI, 20, .inl (fun i_ => nI (r i_)))), (hf, .inr (1, [.ref hme, .ref hle, .int (nI n), .int (nI z), .int (b2 ar)])), (hme, .inl (cI, N, .inl (fun i_ => nI (mem i_)))), (hle, .inl (cI, N, .inl (fun i_ => lvO (g i_)))), (hnb, .inr (3, [.ref hfd, .int (nI nz)])), (hfd, .inl (cI, 20, .inl (fun i_ => nI (fd i_))))])) (mxQ (fun u_ : (Nat → Nat) × (Nat → Option Nat) => match u_ with | (mem', g') => (some (.int (nI (mem' i))))) (fun u_ : (Nat → Nat) × (Nat → Option Nat) => match u_ with | (mem', g') => (FamOK n g' mem' z) ∧ (∀ q, q < 2 ^ n → (gB g' q = true ↔ clo r n o q = q)) ∧ (lstAt mem' (CL r n o)) ∧ (∀ q, q < 2 ^ n → gB g' q = true → g' q = some (LV r n o q))) (fun u_ : (Nat → Nat) × (Nat → Option Nat) => match u_ with | (mem', g') => [(h0, .inr (6, fs)), (ht, .inr (5, ft)), (hro, .inl (cI, 20, .inl (fun i_ => nI (r i_)))), (hf, .inr (1, [.ref hme, .ref hle, .int (nI n), .int (nI z), .int (b2 true)])), (hme, .inl (cI, N, .inl (fun i_ => nI (mem' i_)))), (hle, .inl (cI, N, .inl (fun i_ => lvO (g' i_)))), (hnb, .inr (3, [.ref hfd, .int (nI nz)])), (hfd, .inl (cI, 20, .inl (fun i_ => nI (fd i_))))]) D vwCl (va_A [(h0, .inr (6, fs)), (ht, .inr (5, ft)), (hro, .inl (cI, 20, .inl (fun i_ => nI (r i_)))), (hf, .inr (1, [.ref hme, .ref hle, .int (nI n), .int (nI z), .int (b2 ar)])), (hme, .inl (cI, N, .inl (fun i_ => nI (mem i_)))), (hle, .inl (cI, N, .inl (fun i_ => lvO (g i_)))), (hnb, .inr (3, [.ref hfd, .int (nI nz)])), (hfd, .inl (cI, 20, .inl (fun i_ => nI (fd i_))))] sz)) 0 0 (va_A [(h0, .inr (6, fs)), (ht, .inr (5, ft)), (hro, .inl (cI, 20, .inl (fun i_ => nI (r i_)))), (hf, .inr (1, [.ref hme, .ref hle, .int (nI n), .int (nI z), .int (b2 ar)])), (hme, .inl (cI, N, .inl (fun i_ => nI (mem i_)))), (hle, .inl (cI, N, .inl (fun i_ => lvO (g i_)))), (hnb, .inr (3, [.ref hfd, .int (nI nz)])), (hfd, .inl (cI, 20, .inl (fun i_ => nI (fd i_))))] sz) := by
  refine Met.ofW (cc := cX7_concept) (maxL := 4) (ret := (some .int)) (by decide) rfl ?_
  intro p e s m args below meth c s₁ B hml hv
  obtain ⟨rfl, hsz, hP, hK, hD0⟩ := hv
  have hx := B.exec
  have hb := B.bytes
  have hr := B.returns
  have hts := atoms_spec (ws := wsX7_concept) B.pre
  have hown : s.vm.findClass RX7 = some m.cls := findClass_of_methodNamed B.named
  have hlocks := B.notSynchronized
  subst hsz
  have hD := hD0.self (sz := s.heap.size)
  generalize hAe : va_A [(h0, .inr (6, fs)), (ht, .inr (5, ft)), (hro, .inl (cI, 20, .inl (fun i_ => nI (r i_)))), (hf, .inr (1, [.ref hme, .ref hle, .int (nI n), .int (nI z), .int (b2 ar)])), (hme, .inl (cI, N, .inl (fun i_ => nI (mem i_)))), (hle, .inl (cI, N, .inl (fun i_ => lvO (g i_)))), (hnb, .inr (3, [.ref hfd, .int (nI nz)])), (hfd, .inl (cI, 20, .inl (fun i_ => nI (fd i_))))] s.heap.size = A at hD ⊢
  have hA : ∀ q : Nat, s.heap.size ≤ q → A q := fun q h => by rw [← hAe]; exact Or.inr h
  have hS : va_S A s.heap s.heap [] := va_S.rf
  have hl := lv_entry ([.ref h0, .int (nI i), .int (0 : Int32)]) (n := 4) (Nat.le_of_ble_eq_true rfl)
  rw [lg_entry_eq]
  generalize (lg_sl ([.ref h0, .int (nI i), .int (0 : Int32)]) ++ List.replicate (4 - (lg_sl ([.ref h0, .int (nI i), .int (0 : Int32)])).length) Slot.unset).toArray = ls at hl ⊢
  have hl : lv_has ls 4 [(0, .ref h0), (1, .int (nI i)), (2, .int (0 : Int32))] := hl
  have hzl0 := cnt_le (gB g) (2 ^ n)
  rw [← hfam.1] at hzl0
  have h2n0 := p2_le hn
  refine lv_iload_n hx hb dX7_concept_0 rfl (lv_at hl 2 rfl) ?_
  refine lv_if_ge (tgt := 7) hx hb dX7_concept_1 (by decide) (fun c_1 => ?_) (fun c_1 => ?_)
  · refine lv_iload_n hx hb dX7_concept_7 rfl (lv_at hl 1 rfl) ?_
    refine lv_if_lt (tgt := 22) hx hb dX7_concept_8 (by decide) (fun c_8 => ?_) (fun c_8 => ?_)
    · have c_8 : i < 0 := (nI_ltI (a := i) (b := 0) (by omega) (by omega)).mp c_8
      exact absurd c_8 (Nat.not_lt_zero _)
    · have c_8 : 0 ≤ i := Nat.le_of_not_lt (fun h_ => c_8 ((nI_ltI (a := i) (b := 0) (by omega) (by omega)).mpr h_))
      refine lv_iload_n hx hb dX7_concept_11 rfl (lv_at hl 1 rfl) ?_
      refine lv_aload_n hx hb dX7_concept_12 rfl (lv_at hl 0 rfl) ?_
      refine va_get (D := D) (ci := 6) (v := .ref hf) (C := RX7) (T := TX7) (N := 5) hx hb hts (by decide +kernel) hown hK hP 0 rfl rfl 3 (by decide) (hts (.fieldLink RX7 33 "ConceptTable" "family" "LConceptTable$Family;") (by decide +kernel)) (fun _ h9 => h9) c3 dX7_concept_13 ?_
      refine rd_V (As := []) (rest := [.int (nI i)]) ⟨hx, hb, hml, hown, hts⟩ (c_X1_size l D hf ([.ref hme, .ref hle, .int (nI n), .int (nI z), .int (b2 ar)]) z rfl) (cwV 0 hts gX7_concept_X1_size rfl rfl rfl (by decide +kernel) ⟨Nat.le_of_ble_eq_true rfl, Nat.le_of_ble_eq_true rfl⟩) (hP.sub (ws' := [(hf, .inr (1, [.ref hme, .ref hle, .int (nI n), .int (nI z), .int (b2 ar)]))]) [3] rfl) (hK.sub (tys' := []) [] rfl) (va_recv hK hP (ci := 1) (q0 := 3) rfl rfl) rfl rfl hl.1 rfl (lv_room (Nat.le_of_ble_eq_true rfl)) dX7_concept_16 ⟨Nat.le_of_ble_eq_true rfl, Nat.le_of_ble_eq_true rfl⟩ ?_
      refine lv_icmp_lt (tgt := 24) hx hb dX7_concept_19 (by decide) (fun c_19 => ?_) (fun c_19 => ?_)
      · have c_19 : i < z := (nI_ltI (a := i) (b := z) (by omega) (by omega)).mp c_19
        refine lv_aload_n hx hb dX7_concept_24 rfl (lv_at hl 0 rfl) ?_
        refine va_get (D := D) (ci := 6) (v := .ref hf) (C := RX7) (T := TX7) (N := 5) hx hb hts (by decide +kernel) hown hK hP 0 rfl rfl 3 (by decide) (hts (.fieldLink RX7 33 "ConceptTable" "family" "LConceptTable$Family;") (by decide +kernel)) (fun _ h9 => h9) c3 dX7_concept_25 ?_
        refine lv_aload_n hx hb dX7_concept_28 rfl (lv_at hl 0 rfl) ?_
        refine va_get (D := D) (ci := 6) (v := .ref ht) (C := RX7) (T := TX7) (N := 5) hx hb hts (by decide +kernel) hown hK hP 0 rfl rfl 0 (by decide) (hts (.fieldLink RX7 12 "ConceptTable" "table" "LConceptTable$Table;") (by decide +kernel)) (fun _ h9 => h9) c0 dX7_concept_29 ?_
        have hPc := hP.sub (ws' := [(hf, .inr (1, [.ref hme, .ref hle, .int (nI n), .int (nI z), .int (b2 ar)])), (hme, .inl (cI, N, .inl (fun i_ => nI (mem i_)))), (hle, .inl (cI, N, .inl (fun i_ => lvO (g i_)))), (ht, .inr (5, ft)), (hro, .inl (cI, 20, .inl (fun i_ => nI (r i_))))]) [3, 4, 5, 1, 2] rfl
        have hDc := hD.sub (ws' := [(hf, .inr (1, [.ref hme, .ref hle, .int (nI n), .int (nI z), .int (b2 ar)])), (hme, .inl (cI, N, .inl (fun i_ => nI (mem i_)))), (hle, .inl (cI, N, .inl (fun i_ => lvO (g i_)))), (ht, .inr (5, ft)), (hro, .inl (cI, 20, .inl (fun i_ => nI (r i_))))]) [3, 4, 5, 1, 2] (by decide) rfl
        have hKc := hK.sub (tys' := [(cI, .int)]) [0] rfl
        have hFc := va_free (wc := [(hf, .inr (1, [.ref hme, .ref hle, .int (nI n), .int (nI z), .int (b2 ar)])), (hme, .inl (cI, N, .inl (fun i_ => nI (mem i_)))), (hle, .inl (cI, N, .inl (fun i_ => lvO (g i_)))), (ht, .inr (5, ft)), (hro, .inl (cI, 20, .inl (fun i_ => nI (r i_))))]) hD hS hA [3, 4, 5, 1, 2] rfl
        refine mx_call (va_runV (As := [.ref ht]) (rest := []) ⟨hx, hb, hml, hown, hts⟩ (c_X1_arrange l D s.heap.size hf hme hle n z ar cI N mem g ht ft hro o r (LV r n o) t0 t2 hn ho hN hN2 hfam (LV_le hn) (ar_pre hgc har) (fun q k hq hg hk => (hgc _ (Nat.lt_of_le_of_lt Nat.and_le_left hq)).mpr (clo_meet hq ((hgc q hq).mp hg) hk)) (fun q hq hg => LV_rows hq ((hgc q hq).mp hg)) (by rw [← CLp_BLp hgc]; exact CL_size hfam hgc)) (cwV 1 hts gX7_concept_X1_arrange rfl rfl rfl (by decide +kernel) ⟨Nat.le_of_ble_eq_true rfl, Nat.le_of_ble_eq_true rfl⟩) ⟨mu_bl, va_recv hKc hPc (ci := 1) (q0 := 0) rfl rfl, fun U hU hW => ⟨rfl, by rw [hU], by rw [hU]; exact hPc, va_K.moved hW.alike hKc, hDc.weaken (fun _ _ _ _ => trivial)⟩⟩ rfl rfl hl.1 rfl (lv_room (Nat.le_of_ble_eq_true rfl)) dX7_concept_32 ⟨Nat.le_of_ble_eq_true rfl, Nat.le_of_ble_eq_true rfl⟩) hS (fun q _ h => hFc q h) hFc (fun u_ H1 locs hq_ hP1 hD1 hk1 hS => ?_)
        obtain ⟨mem', g'⟩ := u_
        have hP1 : va_P D vwCl [(hf, .inr (1, [.ref hme, .ref hle, .int (nI n), .int (nI z), .int (b2 true)])), (hme, .inl (cI, N, .inl (fun i_ => nI (mem' i_)))), (hle, .inl (cI, N, .inl (fun i_ => lvO (g' i_)))), (ht, .inr (5, ft)), (hro, .inl (cI, 20, .inl (fun i_ => nI (r i_))))] H1 := hP1
        have hD1 : va_D (va_A [(hf, .inr (1, [.ref hme, .ref hle, .int (nI n), .int (nI z), .int (b2 ar)])), (hme, .inl (cI, N, .inl (fun i_ => nI (mem i_)))), (hle, .inl (cI, N, .inl (fun i_ => lvO (g i_)))), (ht, .inr (5, ft)), (hro, .inl (cI, 20, .inl (fun i_ => nI (r i_))))] s.heap.size) [(hf, .inr (1, [.ref hme, .ref hle, .int (nI n), .int (nI z), .int (b2 true)])), (hme, .inl (cI, N, .inl (fun i_ => nI (mem' i_)))), (hle, .inl (cI, N, .inl (fun i_ => lvO (g' i_)))), (ht, .inr (5, ft)), (hro, .inl (cI, 20, .inl (fun i_ => nI (r i_))))] := hD1
        obtain ⟨hF, hB0, hL0, hV⟩ := hq_
        have hF : FamOK n g' mem' z := hF
        have hB0 : ∀ x, gB g' x = gB g x := hB0
        have hL0 : lstAt mem' (BLp (gB g) n (2 ^ n)) := hL0
        have hV : ∀ q, q < 2 ^ n → gB g' q = true → g' q = some ((LV r n o) q) := hV
        obtain ⟨hP, hD⟩ := va_join (wr := [(h0, .inr (6, fs)), (hnb, .inr (3, [.ref hfd, .int (nI nz)])), (hfd, .inl (cI, 20, .inl (fun i_ => nI (fd i_))))]) (w1 := [(hf, .inr (1, [.ref hme, .ref hle, .int (nI n), .int (nI z), .int (b2 true)])), (hme, .inl (cI, N, .inl (fun i_ => nI (mem' i_)))), (hle, .inl (cI, N, .inl (fun i_ => lvO (g' i_)))), (ht, .inr (5, ft)), (hro, .inl (cI, 20, .inl (fun i_ => nI (r i_))))]) hP hD [3, 4, 5, 1, 2] [0, 6, 7] rfl rfl (by decide) (by decide) hk1 hFc hP1 hD1
        generalize H1 = H at hP hS ⊢
        have hP : va_P D vwCl [(h0, .inr (6, fs)), (hnb, .inr (3, [.ref hfd, .int (nI nz)])), (hfd, .inl (cI, 20, .inl (fun i_ => nI (fd i_)))), (hf, .inr (1, [.ref hme, .ref hle, .int (nI n), .int (nI z), .int (b2 true)])), (hme, .inl (cI, N, .inl (fun i_ => nI (mem' i_)))), (hle, .inl (cI, N, .inl (fun i_ => lvO (g' i_)))), (ht, .inr (5, ft)), (hro, .inl (cI, 20, .inl (fun i_ => nI (r i_))))] H := hP
        have hD : va_D A [(h0, .inr (6, fs)), (hnb, .inr (3, [.ref hfd, .int (nI nz)])), (hfd, .inl (cI, 20, .inl (fun i_ => nI (fd i_)))), (hf, .inr (1, [.ref hme, .ref hle, .int (nI n), .int (nI z), .int (b2 true)])), (hme, .inl (cI, N, .inl (fun i_ => nI (mem' i_)))), (hle, .inl (cI, N, .inl (fun i_ => lvO (g' i_)))), (ht, .inr (5, ft)), (hro, .inl (cI, 20, .inl (fun i_ => nI (r i_))))] := hD
        have hG : ∀ q, q < 2 ^ n → (gB g' q = true ↔ clo r n o q = q) := fun q hq => by rw [hB0]; exact hgc q hq
        have hL : lstAt mem' (CL r n o) := by unfold CL; rw [CLp_BLp hgc]; exact hL0
        have h2n := p2_le hn
        have hcz := CL_size hfam hgc
        have hmm : ∀ j, j < z → mem' j < 2 ^ n ∧ clo r n o (mem' j) = mem' j := fun j hj => CL_mem.mp (lstAt_mem hL (by rw [hcz]; exact hj))
        have hzl := cnt_le (gB g) (2 ^ n)
        rw [← hfam.1] at hzl
        refine lv_aload_n hx hb dX7_concept_35 rfl (lv_at hl 0 rfl) ?_
        refine va_get (D := D) (ci := 6) (v := .ref hf) (C := RX7) (T := TX7) (N := 5) hx hb hts (by decide +kernel) hown hK hP 0 rfl rfl 3 (by decide) (hts (.fieldLink RX7 33 "ConceptTable" "family" "LConceptTable$Family;") (by decide +kernel)) (fun _ h9 => h9) c3 dX7_concept_36 ?_
        refine lv_iload_n hx hb dX7_concept_39 rfl (lv_at hl 1 rfl) ?_
        refine rd_V (As := [.int (nI i)]) (rest := []) ⟨hx, hb, hml, hown, hts⟩ (c_X1_member l D hf ([.ref hme, .ref hle, .int (nI n), .int (nI z), .int (b2 true)]) hme cI N z mem' (nI i) rfl rfl (by omega) hN2) (cwV 1 hts gX7_concept_X1_member rfl rfl rfl (by decide +kernel) ⟨Nat.le_of_ble_eq_true rfl, Nat.le_of_ble_eq_true rfl⟩) (hP.sub (ws' := [(hf, .inr (1, [.ref hme, .ref hle, .int (nI n), .int (nI z), .int (b2 true)])), (hme, .inl (cI, N, .inl (fun i_ => nI (mem' i_))))]) [3, 4] rfl) (hK.sub (tys' := [(cI, .int)]) [0] rfl) (va_recv hK hP (ci := 1) (q0 := 3) rfl rfl) rfl rfl hl.1 rfl (lv_room (Nat.le_of_ble_eq_true rfl)) dX7_concept_40 ⟨Nat.le_of_ble_eq_true rfl, Nat.le_of_ble_eq_true rfl⟩ ?_
        refine lv_re (y := (nI (mem' i))) (by rw [if_pos (ib_t (by omega) hi), nI_clamp (by omega)]) ?_
        refine lv_istore_n (lv' := [(3, .int (nI (mem' i))), (0, .ref h0), (1, .int (nI i)), (2, .int (0 : Int32))]) hx hb dX7_concept_43 rfl hl (by decide) rfl (fun ls hl => ?_)
        refine lv_iload_n hx hb dX7_concept_44 rfl (lv_at hl 3 rfl) ?_
        refine lv_tableIn (tgt := 80) hx hb dX7_concept_45 (by decide) (by decide) (off := 35) rfl (by decide) ?_
        refine lv_iload_n hx hb dX7_concept_80 rfl (lv_at hl 0 rfl) ?_
        have hP := hP.sub (ws' := [(h0, .inr (6, fs)), (ht, .inr (5, ft)), (hro, .inl (cI, 20, .inl (fun i_ => nI (r i_)))), (hf, .inr (1, [.ref hme, .ref hle, .int (nI n), .int (nI z), .int (b2 true)])), (hme, .inl (cI, N, .inl (fun i_ => nI (mem' i_)))), (hle, .inl (cI, N, .inl (fun i_ => lvO (g' i_)))), (hnb, .inr (3, [.ref hfd, .int (nI nz)])), (hfd, .inl (cI, 20, .inl (fun i_ => nI (fd i_))))]) [0, 6, 7, 3, 4, 5, 1, 2] rfl
        have hD := hD.sub (ws' := [(h0, .inr (6, fs)), (ht, .inr (5, ft)), (hro, .inl (cI, 20, .inl (fun i_ => nI (r i_)))), (hf, .inr (1, [.ref hme, .ref hle, .int (nI n), .int (nI z), .int (b2 true)])), (hme, .inl (cI, N, .inl (fun i_ => nI (mem' i_)))), (hle, .inl (cI, N, .inl (fun i_ => lvO (g' i_)))), (hnb, .inr (3, [.ref hfd, .int (nI nz)])), (hfd, .inl (cI, 20, .inl (fun i_ => nI (fd i_))))]) [0, 6, 7, 3, 4, 5, 1, 2] (by decide) rfl
        exact W.iret (v := (nI (mem' i))) hx hb hr (fun t ht hW => ⟨⟨(mem', g'), rfl, ⟨hF, hG, hL, hV⟩, by rw [ht]; exact hP, hD⟩, hS.F ht⟩) hS.2.2 dX7_concept_81
      · have c_19 : z ≤ i := Nat.le_of_not_lt (fun h_ => c_19 ((nI_ltI (a := i) (b := z) (by omega) (by omega)).mpr h_))
        exact absurd hi (by omega)
  · exact absurd c_1 (by decide)

set_option maxHeartbeats 4000000 in
set_option maxRecDepth 100000 in
theorem c_X7_concept_1 (l : Launch) (D : va_G) (sz : Nat) (h0 : Nat) (fs : List Value) (ht : Nat) (ft : List Value) (hro : Nat) (n : Nat) (o : Nat) (cI : ClassId) (r : Nat → Nat) (hf : Nat) (hme : Nat) (hle : Nat) (z : Nat) (ar : Bool) (N : Nat) (mem : Nat → Nat) (g : Nat → Option Nat) (hnb : Nat) (hfd : Nat) (nz : Nat) (fd : Nat → Nat) (i : Nat) (c0 : fs[0]? = some (.ref ht)) (c1 : fs[1]? = some (.ref hnb)) (c3 : fs[3]? = some (.ref hf)) (t0 : ft[0]? = some (.ref hro)) (t1 : ft[1]? = some (.int (nI n))) (t2 : ft[2]? = some (.int (nI o))) (hn : n ≤ 12) (ho : o ≤ 20) (hN : 2 ^ n ≤ N) (hN2 : N ≤ 4096) (hfam : FamOK n g mem z) (hgc : ∀ q, q < 2 ^ n → (gB g q = true ↔ clo r n o q = q)) (har : ar = true → lstAt mem (CL r n o) ∧ ∀ q, q < 2 ^ n → gB g q = true → g q = some (LV r n o q)) (hi : i < z) : Met l yX7_concept wsX7_concept ({ frames := 5, cells := 0, slots := 0, locals := 108 }) (va_Pc [.ref h0, .int (nI i), .int (1 : Int32)] (fun U => U.heap.size = sz ∧ va_P D vwCl [(h0, .inr (6, fs)), (ht, .inr (5, ft)), (hro, .inl (cI, 20, .inl (fun i_ => nI (r i_)))), (hf, .inr (1, [.ref hme, .ref hle, .int (nI n), .int (nI z), .int (b2 ar)])), (hme, .inl (cI, N, .inl (fun i_ => nI (mem i_)))), (hle, .inl (cI, N, .inl (fun i_ => lvO (g i_)))), (hnb, .inr (3, [.ref hfd, .int (nI nz)])), (hfd, .inl (cI, 20, .inl (fun i_ => nI (fd i_))))] U.heap ∧ va_K D vwCl [(cI, .int)] U ∧ va_D (fun _ => True) [(h0, .inr (6, fs)), (ht, .inr (5, ft)), (hro, .inl (cI, 20, .inl (fun i_ => nI (r i_)))), (hf, .inr (1, [.ref hme, .ref hle, .int (nI n), .int (nI z), .int (b2 ar)])), (hme, .inl (cI, N, .inl (fun i_ => nI (mem i_)))), (hle, .inl (cI, N, .inl (fun i_ => lvO (g i_)))), (hnb, .inr (3, [.ref hfd, .int (nI nz)])), (hfd, .inl (cI, 20, .inl (fun i_ => nI (fd i_))))])) (mxQ (fun u_ : (Nat → Nat) × (Nat → Option Nat) => match u_ with | (mem', g') => (some (.int (nI (ext r (mem' i) o))))) (fun u_ : (Nat → Nat) × (Nat → Option Nat) => match u_ with | (mem', g') => (FamOK n g' mem' z) ∧ (∀ q, q < 2 ^ n → (gB g' q = true ↔ clo r n o q = q)) ∧ (lstAt mem' (CL r n o)) ∧ (∀ q, q < 2 ^ n → gB g' q = true → g' q = some (LV r n o q))) (fun u_ : (Nat → Nat) × (Nat → Option Nat) => match u_ with | (mem', g') => [(h0, .inr (6, fs)), (ht, .inr (5, ft)), (hro, .inl (cI, 20, .inl (fun i_ => nI (r i_)))), (hf, .inr (1, [.ref hme, .ref hle, .int (nI n), .int (nI z), .int (b2 true)])), (hme, .inl (cI, N, .inl (fun i_ => nI (mem' i_)))), (hle, .inl (cI, N, .inl (fun i_ => lvO (g' i_)))), (hnb, .inr (3, [.ref hfd, .int (nI nz)])), (hfd, .inl (cI, 20, .inl (fun i_ => nI (fd i_))))]) D vwCl (va_A [(h0, .inr (6, fs)), (ht, .inr (5, ft)), (hro, .inl (cI, 20, .inl (fun i_ => nI (r i_)))), (hf, .inr (1, [.ref hme, .ref hle, .int (nI n), .int (nI z), .int (b2 ar)])), (hme, .inl (cI, N, .inl (fun i_ => nI (mem i_)))), (hle, .inl (cI, N, .inl (fun i_ => lvO (g i_)))), (hnb, .inr (3, [.ref hfd, .int (nI nz)])), (hfd, .inl (cI, 20, .inl (fun i_ => nI (fd i_))))] sz)) 0 0 (va_A [(h0, .inr (6, fs)), (ht, .inr (5, ft)), (hro, .inl (cI, 20, .inl (fun i_ => nI (r i_)))), (hf, .inr (1, [.ref hme, .ref hle, .int (nI n), .int (nI z), .int (b2 ar)])), (hme, .inl (cI, N, .inl (fun i_ => nI (mem i_)))), (hle, .inl (cI, N, .inl (fun i_ => lvO (g i_)))), (hnb, .inr (3, [.ref hfd, .int (nI nz)])), (hfd, .inl (cI, 20, .inl (fun i_ => nI (fd i_))))] sz) := by
  refine Met.ofW (cc := cX7_concept) (maxL := 4) (ret := (some .int)) (by decide) rfl ?_
  intro p e s m args below meth c s₁ B hml hv
  obtain ⟨rfl, hsz, hP, hK, hD0⟩ := hv
  have hx := B.exec
  have hb := B.bytes
  have hr := B.returns
  have hts := atoms_spec (ws := wsX7_concept) B.pre
  have hown : s.vm.findClass RX7 = some m.cls := findClass_of_methodNamed B.named
  have hlocks := B.notSynchronized
  subst hsz
  have hD := hD0.self (sz := s.heap.size)
  generalize hAe : va_A [(h0, .inr (6, fs)), (ht, .inr (5, ft)), (hro, .inl (cI, 20, .inl (fun i_ => nI (r i_)))), (hf, .inr (1, [.ref hme, .ref hle, .int (nI n), .int (nI z), .int (b2 ar)])), (hme, .inl (cI, N, .inl (fun i_ => nI (mem i_)))), (hle, .inl (cI, N, .inl (fun i_ => lvO (g i_)))), (hnb, .inr (3, [.ref hfd, .int (nI nz)])), (hfd, .inl (cI, 20, .inl (fun i_ => nI (fd i_))))] s.heap.size = A at hD ⊢
  have hA : ∀ q : Nat, s.heap.size ≤ q → A q := fun q h => by rw [← hAe]; exact Or.inr h
  have hS : va_S A s.heap s.heap [] := va_S.rf
  have hl := lv_entry ([.ref h0, .int (nI i), .int (1 : Int32)]) (n := 4) (Nat.le_of_ble_eq_true rfl)
  rw [lg_entry_eq]
  generalize (lg_sl ([.ref h0, .int (nI i), .int (1 : Int32)]) ++ List.replicate (4 - (lg_sl ([.ref h0, .int (nI i), .int (1 : Int32)])).length) Slot.unset).toArray = ls at hl ⊢
  have hl : lv_has ls 4 [(0, .ref h0), (1, .int (nI i)), (2, .int (1 : Int32))] := hl
  have hzl0 := cnt_le (gB g) (2 ^ n)
  rw [← hfam.1] at hzl0
  have h2n0 := p2_le hn
  refine lv_iload_n hx hb dX7_concept_0 rfl (lv_at hl 2 rfl) ?_
  refine lv_if_ge (tgt := 7) hx hb dX7_concept_1 (by decide) (fun c_1 => ?_) (fun c_1 => ?_)
  · refine lv_iload_n hx hb dX7_concept_7 rfl (lv_at hl 1 rfl) ?_
    refine lv_if_lt (tgt := 22) hx hb dX7_concept_8 (by decide) (fun c_8 => ?_) (fun c_8 => ?_)
    · have c_8 : i < 0 := (nI_ltI (a := i) (b := 0) (by omega) (by omega)).mp c_8
      exact absurd c_8 (Nat.not_lt_zero _)
    · have c_8 : 0 ≤ i := Nat.le_of_not_lt (fun h_ => c_8 ((nI_ltI (a := i) (b := 0) (by omega) (by omega)).mpr h_))
      refine lv_iload_n hx hb dX7_concept_11 rfl (lv_at hl 1 rfl) ?_
      refine lv_aload_n hx hb dX7_concept_12 rfl (lv_at hl 0 rfl) ?_
      refine va_get (D := D) (ci := 6) (v := .ref hf) (C := RX7) (T := TX7) (N := 5) hx hb hts (by decide +kernel) hown hK hP 0 rfl rfl 3 (by decide) (hts (.fieldLink RX7 33 "ConceptTable" "family" "LConceptTable$Family;") (by decide +kernel)) (fun _ h9 => h9) c3 dX7_concept_13 ?_
      refine rd_V (As := []) (rest := [.int (nI i)]) ⟨hx, hb, hml, hown, hts⟩ (c_X1_size l D hf ([.ref hme, .ref hle, .int (nI n), .int (nI z), .int (b2 ar)]) z rfl) (cwV 0 hts gX7_concept_X1_size rfl rfl rfl (by decide +kernel) ⟨Nat.le_of_ble_eq_true rfl, Nat.le_of_ble_eq_true rfl⟩) (hP.sub (ws' := [(hf, .inr (1, [.ref hme, .ref hle, .int (nI n), .int (nI z), .int (b2 ar)]))]) [3] rfl) (hK.sub (tys' := []) [] rfl) (va_recv hK hP (ci := 1) (q0 := 3) rfl rfl) rfl rfl hl.1 rfl (lv_room (Nat.le_of_ble_eq_true rfl)) dX7_concept_16 ⟨Nat.le_of_ble_eq_true rfl, Nat.le_of_ble_eq_true rfl⟩ ?_
      refine lv_icmp_lt (tgt := 24) hx hb dX7_concept_19 (by decide) (fun c_19 => ?_) (fun c_19 => ?_)
      · have c_19 : i < z := (nI_ltI (a := i) (b := z) (by omega) (by omega)).mp c_19
        refine lv_aload_n hx hb dX7_concept_24 rfl (lv_at hl 0 rfl) ?_
        refine va_get (D := D) (ci := 6) (v := .ref hf) (C := RX7) (T := TX7) (N := 5) hx hb hts (by decide +kernel) hown hK hP 0 rfl rfl 3 (by decide) (hts (.fieldLink RX7 33 "ConceptTable" "family" "LConceptTable$Family;") (by decide +kernel)) (fun _ h9 => h9) c3 dX7_concept_25 ?_
        refine lv_aload_n hx hb dX7_concept_28 rfl (lv_at hl 0 rfl) ?_
        refine va_get (D := D) (ci := 6) (v := .ref ht) (C := RX7) (T := TX7) (N := 5) hx hb hts (by decide +kernel) hown hK hP 0 rfl rfl 0 (by decide) (hts (.fieldLink RX7 12 "ConceptTable" "table" "LConceptTable$Table;") (by decide +kernel)) (fun _ h9 => h9) c0 dX7_concept_29 ?_
        have hPc := hP.sub (ws' := [(hf, .inr (1, [.ref hme, .ref hle, .int (nI n), .int (nI z), .int (b2 ar)])), (hme, .inl (cI, N, .inl (fun i_ => nI (mem i_)))), (hle, .inl (cI, N, .inl (fun i_ => lvO (g i_)))), (ht, .inr (5, ft)), (hro, .inl (cI, 20, .inl (fun i_ => nI (r i_))))]) [3, 4, 5, 1, 2] rfl
        have hDc := hD.sub (ws' := [(hf, .inr (1, [.ref hme, .ref hle, .int (nI n), .int (nI z), .int (b2 ar)])), (hme, .inl (cI, N, .inl (fun i_ => nI (mem i_)))), (hle, .inl (cI, N, .inl (fun i_ => lvO (g i_)))), (ht, .inr (5, ft)), (hro, .inl (cI, 20, .inl (fun i_ => nI (r i_))))]) [3, 4, 5, 1, 2] (by decide) rfl
        have hKc := hK.sub (tys' := [(cI, .int)]) [0] rfl
        have hFc := va_free (wc := [(hf, .inr (1, [.ref hme, .ref hle, .int (nI n), .int (nI z), .int (b2 ar)])), (hme, .inl (cI, N, .inl (fun i_ => nI (mem i_)))), (hle, .inl (cI, N, .inl (fun i_ => lvO (g i_)))), (ht, .inr (5, ft)), (hro, .inl (cI, 20, .inl (fun i_ => nI (r i_))))]) hD hS hA [3, 4, 5, 1, 2] rfl
        refine mx_call (va_runV (As := [.ref ht]) (rest := []) ⟨hx, hb, hml, hown, hts⟩ (c_X1_arrange l D s.heap.size hf hme hle n z ar cI N mem g ht ft hro o r (LV r n o) t0 t2 hn ho hN hN2 hfam (LV_le hn) (ar_pre hgc har) (fun q k hq hg hk => (hgc _ (Nat.lt_of_le_of_lt Nat.and_le_left hq)).mpr (clo_meet hq ((hgc q hq).mp hg) hk)) (fun q hq hg => LV_rows hq ((hgc q hq).mp hg)) (by rw [← CLp_BLp hgc]; exact CL_size hfam hgc)) (cwV 1 hts gX7_concept_X1_arrange rfl rfl rfl (by decide +kernel) ⟨Nat.le_of_ble_eq_true rfl, Nat.le_of_ble_eq_true rfl⟩) ⟨mu_bl, va_recv hKc hPc (ci := 1) (q0 := 0) rfl rfl, fun U hU hW => ⟨rfl, by rw [hU], by rw [hU]; exact hPc, va_K.moved hW.alike hKc, hDc.weaken (fun _ _ _ _ => trivial)⟩⟩ rfl rfl hl.1 rfl (lv_room (Nat.le_of_ble_eq_true rfl)) dX7_concept_32 ⟨Nat.le_of_ble_eq_true rfl, Nat.le_of_ble_eq_true rfl⟩) hS (fun q _ h => hFc q h) hFc (fun u_ H1 locs hq_ hP1 hD1 hk1 hS => ?_)
        obtain ⟨mem', g'⟩ := u_
        have hP1 : va_P D vwCl [(hf, .inr (1, [.ref hme, .ref hle, .int (nI n), .int (nI z), .int (b2 true)])), (hme, .inl (cI, N, .inl (fun i_ => nI (mem' i_)))), (hle, .inl (cI, N, .inl (fun i_ => lvO (g' i_)))), (ht, .inr (5, ft)), (hro, .inl (cI, 20, .inl (fun i_ => nI (r i_))))] H1 := hP1
        have hD1 : va_D (va_A [(hf, .inr (1, [.ref hme, .ref hle, .int (nI n), .int (nI z), .int (b2 ar)])), (hme, .inl (cI, N, .inl (fun i_ => nI (mem i_)))), (hle, .inl (cI, N, .inl (fun i_ => lvO (g i_)))), (ht, .inr (5, ft)), (hro, .inl (cI, 20, .inl (fun i_ => nI (r i_))))] s.heap.size) [(hf, .inr (1, [.ref hme, .ref hle, .int (nI n), .int (nI z), .int (b2 true)])), (hme, .inl (cI, N, .inl (fun i_ => nI (mem' i_)))), (hle, .inl (cI, N, .inl (fun i_ => lvO (g' i_)))), (ht, .inr (5, ft)), (hro, .inl (cI, 20, .inl (fun i_ => nI (r i_))))] := hD1
        obtain ⟨hF, hB0, hL0, hV⟩ := hq_
        have hF : FamOK n g' mem' z := hF
        have hB0 : ∀ x, gB g' x = gB g x := hB0
        have hL0 : lstAt mem' (BLp (gB g) n (2 ^ n)) := hL0
        have hV : ∀ q, q < 2 ^ n → gB g' q = true → g' q = some ((LV r n o) q) := hV
        obtain ⟨hP, hD⟩ := va_join (wr := [(h0, .inr (6, fs)), (hnb, .inr (3, [.ref hfd, .int (nI nz)])), (hfd, .inl (cI, 20, .inl (fun i_ => nI (fd i_))))]) (w1 := [(hf, .inr (1, [.ref hme, .ref hle, .int (nI n), .int (nI z), .int (b2 true)])), (hme, .inl (cI, N, .inl (fun i_ => nI (mem' i_)))), (hle, .inl (cI, N, .inl (fun i_ => lvO (g' i_)))), (ht, .inr (5, ft)), (hro, .inl (cI, 20, .inl (fun i_ => nI (r i_))))]) hP hD [3, 4, 5, 1, 2] [0, 6, 7] rfl rfl (by decide) (by decide) hk1 hFc hP1 hD1
        generalize H1 = H at hP hS ⊢
        have hP : va_P D vwCl [(h0, .inr (6, fs)), (hnb, .inr (3, [.ref hfd, .int (nI nz)])), (hfd, .inl (cI, 20, .inl (fun i_ => nI (fd i_)))), (hf, .inr (1, [.ref hme, .ref hle, .int (nI n), .int (nI z), .int (b2 true)])), (hme, .inl (cI, N, .inl (fun i_ => nI (mem' i_)))), (hle, .inl (cI, N, .inl (fun i_ => lvO (g' i_)))), (ht, .inr (5, ft)), (hro, .inl (cI, 20, .inl (fun i_ => nI (r i_))))] H := hP
        have hD : va_D A [(h0, .inr (6, fs)), (hnb, .inr (3, [.ref hfd, .int (nI nz)])), (hfd, .inl (cI, 20, .inl (fun i_ => nI (fd i_)))), (hf, .inr (1, [.ref hme, .ref hle, .int (nI n), .int (nI z), .int (b2 true)])), (hme, .inl (cI, N, .inl (fun i_ => nI (mem' i_)))), (hle, .inl (cI, N, .inl (fun i_ => lvO (g' i_)))), (ht, .inr (5, ft)), (hro, .inl (cI, 20, .inl (fun i_ => nI (r i_))))] := hD
        have hG : ∀ q, q < 2 ^ n → (gB g' q = true ↔ clo r n o q = q) := fun q hq => by rw [hB0]; exact hgc q hq
        have hL : lstAt mem' (CL r n o) := by unfold CL; rw [CLp_BLp hgc]; exact hL0
        have h2n := p2_le hn
        have hcz := CL_size hfam hgc
        have hmm : ∀ j, j < z → mem' j < 2 ^ n ∧ clo r n o (mem' j) = mem' j := fun j hj => CL_mem.mp (lstAt_mem hL (by rw [hcz]; exact hj))
        have hzl := cnt_le (gB g) (2 ^ n)
        rw [← hfam.1] at hzl
        refine lv_aload_n hx hb dX7_concept_35 rfl (lv_at hl 0 rfl) ?_
        refine va_get (D := D) (ci := 6) (v := .ref hf) (C := RX7) (T := TX7) (N := 5) hx hb hts (by decide +kernel) hown hK hP 0 rfl rfl 3 (by decide) (hts (.fieldLink RX7 33 "ConceptTable" "family" "LConceptTable$Family;") (by decide +kernel)) (fun _ h9 => h9) c3 dX7_concept_36 ?_
        refine lv_iload_n hx hb dX7_concept_39 rfl (lv_at hl 1 rfl) ?_
        refine rd_V (As := [.int (nI i)]) (rest := []) ⟨hx, hb, hml, hown, hts⟩ (c_X1_member l D hf ([.ref hme, .ref hle, .int (nI n), .int (nI z), .int (b2 true)]) hme cI N z mem' (nI i) rfl rfl (by omega) hN2) (cwV 1 hts gX7_concept_X1_member rfl rfl rfl (by decide +kernel) ⟨Nat.le_of_ble_eq_true rfl, Nat.le_of_ble_eq_true rfl⟩) (hP.sub (ws' := [(hf, .inr (1, [.ref hme, .ref hle, .int (nI n), .int (nI z), .int (b2 true)])), (hme, .inl (cI, N, .inl (fun i_ => nI (mem' i_))))]) [3, 4] rfl) (hK.sub (tys' := [(cI, .int)]) [0] rfl) (va_recv hK hP (ci := 1) (q0 := 3) rfl rfl) rfl rfl hl.1 rfl (lv_room (Nat.le_of_ble_eq_true rfl)) dX7_concept_40 ⟨Nat.le_of_ble_eq_true rfl, Nat.le_of_ble_eq_true rfl⟩ ?_
        refine lv_re (y := (nI (mem' i))) (by rw [if_pos (ib_t (by omega) hi), nI_clamp (by omega)]) ?_
        refine lv_istore_n (lv' := [(3, .int (nI (mem' i))), (0, .ref h0), (1, .int (nI i)), (2, .int (1 : Int32))]) hx hb dX7_concept_43 rfl hl (by decide) rfl (fun ls hl => ?_)
        refine lv_iload_n hx hb dX7_concept_44 rfl (lv_at hl 3 rfl) ?_
        refine lv_tableIn (tgt := 82) hx hb dX7_concept_45 (by decide) (by decide) (off := 37) rfl (by decide) ?_
        refine lv_aload_n hx hb dX7_concept_82 rfl (lv_at hl 1 rfl) ?_
        refine va_get (D := D) (ci := 6) (v := .ref ht) (C := RX7) (T := TX7) (N := 5) hx hb hts (by decide +kernel) hown hK hP 0 rfl rfl 0 (by decide) (hts (.fieldLink RX7 12 "ConceptTable" "table" "LConceptTable$Table;") (by decide +kernel)) (fun _ h9 => h9) c0 dX7_concept_83 ?_
        refine lv_iload_n hx hb dX7_concept_86 rfl (lv_at hl 0 rfl) ?_
        refine rd_V (As := [.int (nI (mem' i))]) (rest := []) ⟨hx, hb, hml, hown, hts⟩ (c_X6_extentOf l D ht ft hro cI o r (mem' i) t0 t2 ho (by have := (hmm i hi).1; omega)) (cwV 1 hts gX7_concept_X6_extentOf rfl rfl rfl (by decide +kernel) ⟨Nat.le_of_ble_eq_true rfl, Nat.le_of_ble_eq_true rfl⟩) (hP.sub (ws' := [(ht, .inr (5, ft)), (hro, .inl (cI, 20, .inl (fun i_ => nI (r i_))))]) [6, 7] rfl) (hK.sub (tys' := [(cI, .int)]) [0] rfl) (va_recv hK hP (ci := 5) (q0 := 6) rfl rfl) rfl rfl hl.1 rfl (lv_room (Nat.le_of_ble_eq_true rfl)) dX7_concept_87 ⟨Nat.le_of_ble_eq_true rfl, Nat.le_of_ble_eq_true rfl⟩ ?_
        have hP := hP.sub (ws' := [(h0, .inr (6, fs)), (ht, .inr (5, ft)), (hro, .inl (cI, 20, .inl (fun i_ => nI (r i_)))), (hf, .inr (1, [.ref hme, .ref hle, .int (nI n), .int (nI z), .int (b2 true)])), (hme, .inl (cI, N, .inl (fun i_ => nI (mem' i_)))), (hle, .inl (cI, N, .inl (fun i_ => lvO (g' i_)))), (hnb, .inr (3, [.ref hfd, .int (nI nz)])), (hfd, .inl (cI, 20, .inl (fun i_ => nI (fd i_))))]) [0, 6, 7, 3, 4, 5, 1, 2] rfl
        have hD := hD.sub (ws' := [(h0, .inr (6, fs)), (ht, .inr (5, ft)), (hro, .inl (cI, 20, .inl (fun i_ => nI (r i_)))), (hf, .inr (1, [.ref hme, .ref hle, .int (nI n), .int (nI z), .int (b2 true)])), (hme, .inl (cI, N, .inl (fun i_ => nI (mem' i_)))), (hle, .inl (cI, N, .inl (fun i_ => lvO (g' i_)))), (hnb, .inr (3, [.ref hfd, .int (nI nz)])), (hfd, .inl (cI, 20, .inl (fun i_ => nI (fd i_))))]) [0, 6, 7, 3, 4, 5, 1, 2] (by decide) rfl
        exact W.iret (v := (nI (ext r (mem' i) o))) hx hb hr (fun t ht hW => ⟨⟨(mem', g'), rfl, ⟨hF, hG, hL, hV⟩, by rw [ht]; exact hP, hD⟩, hS.F ht⟩) hS.2.2 dX7_concept_90
      · have c_19 : z ≤ i := Nat.le_of_not_lt (fun h_ => c_19 ((nI_ltI (a := i) (b := z) (by omega) (by omega)).mpr h_))
        exact absurd hi (by omega)
  · exact absurd c_1 (by decide)

set_option maxHeartbeats 4000000 in
set_option maxRecDepth 100000 in
theorem c_X7_concept_2 (l : Launch) (D : va_G) (sz : Nat) (h0 : Nat) (fs : List Value) (ht : Nat) (ft : List Value) (hro : Nat) (n : Nat) (o : Nat) (cI : ClassId) (r : Nat → Nat) (hf : Nat) (hme : Nat) (hle : Nat) (z : Nat) (ar : Bool) (N : Nat) (mem : Nat → Nat) (g : Nat → Option Nat) (hnb : Nat) (hfd : Nat) (nz : Nat) (fd : Nat → Nat) (i : Nat) (c0 : fs[0]? = some (.ref ht)) (c1 : fs[1]? = some (.ref hnb)) (c3 : fs[3]? = some (.ref hf)) (t0 : ft[0]? = some (.ref hro)) (t1 : ft[1]? = some (.int (nI n))) (t2 : ft[2]? = some (.int (nI o))) (hn : n ≤ 12) (ho : o ≤ 20) (hN : 2 ^ n ≤ N) (hN2 : N ≤ 4096) (hfam : FamOK n g mem z) (hgc : ∀ q, q < 2 ^ n → (gB g q = true ↔ clo r n o q = q)) (har : ar = true → lstAt mem (CL r n o) ∧ ∀ q, q < 2 ^ n → gB g q = true → g q = some (LV r n o q)) (hi : i < z) : Met l yX7_concept wsX7_concept ({ frames := 5, cells := 0, slots := 0, locals := 108 }) (va_Pc [.ref h0, .int (nI i), .int (2 : Int32)] (fun U => U.heap.size = sz ∧ va_P D vwCl [(h0, .inr (6, fs)), (ht, .inr (5, ft)), (hro, .inl (cI, 20, .inl (fun i_ => nI (r i_)))), (hf, .inr (1, [.ref hme, .ref hle, .int (nI n), .int (nI z), .int (b2 ar)])), (hme, .inl (cI, N, .inl (fun i_ => nI (mem i_)))), (hle, .inl (cI, N, .inl (fun i_ => lvO (g i_)))), (hnb, .inr (3, [.ref hfd, .int (nI nz)])), (hfd, .inl (cI, 20, .inl (fun i_ => nI (fd i_))))] U.heap ∧ va_K D vwCl [(cI, .int)] U ∧ va_D (fun _ => True) [(h0, .inr (6, fs)), (ht, .inr (5, ft)), (hro, .inl (cI, 20, .inl (fun i_ => nI (r i_)))), (hf, .inr (1, [.ref hme, .ref hle, .int (nI n), .int (nI z), .int (b2 ar)])), (hme, .inl (cI, N, .inl (fun i_ => nI (mem i_)))), (hle, .inl (cI, N, .inl (fun i_ => lvO (g i_)))), (hnb, .inr (3, [.ref hfd, .int (nI nz)])), (hfd, .inl (cI, 20, .inl (fun i_ => nI (fd i_))))])) (mxQ (fun u_ : (Nat → Nat) × (Nat → Option Nat) => match u_ with | (mem', g') => (some (.int (nI (LV r n o (mem' i)))))) (fun u_ : (Nat → Nat) × (Nat → Option Nat) => match u_ with | (mem', g') => (FamOK n g' mem' z) ∧ (∀ q, q < 2 ^ n → (gB g' q = true ↔ clo r n o q = q)) ∧ (lstAt mem' (CL r n o)) ∧ (∀ q, q < 2 ^ n → gB g' q = true → g' q = some (LV r n o q))) (fun u_ : (Nat → Nat) × (Nat → Option Nat) => match u_ with | (mem', g') => [(h0, .inr (6, fs)), (ht, .inr (5, ft)), (hro, .inl (cI, 20, .inl (fun i_ => nI (r i_)))), (hf, .inr (1, [.ref hme, .ref hle, .int (nI n), .int (nI z), .int (b2 true)])), (hme, .inl (cI, N, .inl (fun i_ => nI (mem' i_)))), (hle, .inl (cI, N, .inl (fun i_ => lvO (g' i_)))), (hnb, .inr (3, [.ref hfd, .int (nI nz)])), (hfd, .inl (cI, 20, .inl (fun i_ => nI (fd i_))))]) D vwCl (va_A [(h0, .inr (6, fs)), (ht, .inr (5, ft)), (hro, .inl (cI, 20, .inl (fun i_ => nI (r i_)))), (hf, .inr (1, [.ref hme, .ref hle, .int (nI n), .int (nI z), .int (b2 ar)])), (hme, .inl (cI, N, .inl (fun i_ => nI (mem i_)))), (hle, .inl (cI, N, .inl (fun i_ => lvO (g i_)))), (hnb, .inr (3, [.ref hfd, .int (nI nz)])), (hfd, .inl (cI, 20, .inl (fun i_ => nI (fd i_))))] sz)) 0 0 (va_A [(h0, .inr (6, fs)), (ht, .inr (5, ft)), (hro, .inl (cI, 20, .inl (fun i_ => nI (r i_)))), (hf, .inr (1, [.ref hme, .ref hle, .int (nI n), .int (nI z), .int (b2 ar)])), (hme, .inl (cI, N, .inl (fun i_ => nI (mem i_)))), (hle, .inl (cI, N, .inl (fun i_ => lvO (g i_)))), (hnb, .inr (3, [.ref hfd, .int (nI nz)])), (hfd, .inl (cI, 20, .inl (fun i_ => nI (fd i_))))] sz) := by
  refine Met.ofW (cc := cX7_concept) (maxL := 4) (ret := (some .int)) (by decide) rfl ?_
  intro p e s m args below meth c s₁ B hml hv
  obtain ⟨rfl, hsz, hP, hK, hD0⟩ := hv
  have hx := B.exec
  have hb := B.bytes
  have hr := B.returns
  have hts := atoms_spec (ws := wsX7_concept) B.pre
  have hown : s.vm.findClass RX7 = some m.cls := findClass_of_methodNamed B.named
  have hlocks := B.notSynchronized
  subst hsz
  have hD := hD0.self (sz := s.heap.size)
  generalize hAe : va_A [(h0, .inr (6, fs)), (ht, .inr (5, ft)), (hro, .inl (cI, 20, .inl (fun i_ => nI (r i_)))), (hf, .inr (1, [.ref hme, .ref hle, .int (nI n), .int (nI z), .int (b2 ar)])), (hme, .inl (cI, N, .inl (fun i_ => nI (mem i_)))), (hle, .inl (cI, N, .inl (fun i_ => lvO (g i_)))), (hnb, .inr (3, [.ref hfd, .int (nI nz)])), (hfd, .inl (cI, 20, .inl (fun i_ => nI (fd i_))))] s.heap.size = A at hD ⊢
  have hA : ∀ q : Nat, s.heap.size ≤ q → A q := fun q h => by rw [← hAe]; exact Or.inr h
  have hS : va_S A s.heap s.heap [] := va_S.rf
  have hl := lv_entry ([.ref h0, .int (nI i), .int (2 : Int32)]) (n := 4) (Nat.le_of_ble_eq_true rfl)
  rw [lg_entry_eq]
  generalize (lg_sl ([.ref h0, .int (nI i), .int (2 : Int32)]) ++ List.replicate (4 - (lg_sl ([.ref h0, .int (nI i), .int (2 : Int32)])).length) Slot.unset).toArray = ls at hl ⊢
  have hl : lv_has ls 4 [(0, .ref h0), (1, .int (nI i)), (2, .int (2 : Int32))] := hl
  have hzl0 := cnt_le (gB g) (2 ^ n)
  rw [← hfam.1] at hzl0
  have h2n0 := p2_le hn
  refine lv_iload_n hx hb dX7_concept_0 rfl (lv_at hl 2 rfl) ?_
  refine lv_if_ge (tgt := 7) hx hb dX7_concept_1 (by decide) (fun c_1 => ?_) (fun c_1 => ?_)
  · refine lv_iload_n hx hb dX7_concept_7 rfl (lv_at hl 1 rfl) ?_
    refine lv_if_lt (tgt := 22) hx hb dX7_concept_8 (by decide) (fun c_8 => ?_) (fun c_8 => ?_)
    · have c_8 : i < 0 := (nI_ltI (a := i) (b := 0) (by omega) (by omega)).mp c_8
      exact absurd c_8 (Nat.not_lt_zero _)
    · have c_8 : 0 ≤ i := Nat.le_of_not_lt (fun h_ => c_8 ((nI_ltI (a := i) (b := 0) (by omega) (by omega)).mpr h_))
      refine lv_iload_n hx hb dX7_concept_11 rfl (lv_at hl 1 rfl) ?_
      refine lv_aload_n hx hb dX7_concept_12 rfl (lv_at hl 0 rfl) ?_
      refine va_get (D := D) (ci := 6) (v := .ref hf) (C := RX7) (T := TX7) (N := 5) hx hb hts (by decide +kernel) hown hK hP 0 rfl rfl 3 (by decide) (hts (.fieldLink RX7 33 "ConceptTable" "family" "LConceptTable$Family;") (by decide +kernel)) (fun _ h9 => h9) c3 dX7_concept_13 ?_
      refine rd_V (As := []) (rest := [.int (nI i)]) ⟨hx, hb, hml, hown, hts⟩ (c_X1_size l D hf ([.ref hme, .ref hle, .int (nI n), .int (nI z), .int (b2 ar)]) z rfl) (cwV 0 hts gX7_concept_X1_size rfl rfl rfl (by decide +kernel) ⟨Nat.le_of_ble_eq_true rfl, Nat.le_of_ble_eq_true rfl⟩) (hP.sub (ws' := [(hf, .inr (1, [.ref hme, .ref hle, .int (nI n), .int (nI z), .int (b2 ar)]))]) [3] rfl) (hK.sub (tys' := []) [] rfl) (va_recv hK hP (ci := 1) (q0 := 3) rfl rfl) rfl rfl hl.1 rfl (lv_room (Nat.le_of_ble_eq_true rfl)) dX7_concept_16 ⟨Nat.le_of_ble_eq_true rfl, Nat.le_of_ble_eq_true rfl⟩ ?_
      refine lv_icmp_lt (tgt := 24) hx hb dX7_concept_19 (by decide) (fun c_19 => ?_) (fun c_19 => ?_)
      · have c_19 : i < z := (nI_ltI (a := i) (b := z) (by omega) (by omega)).mp c_19
        refine lv_aload_n hx hb dX7_concept_24 rfl (lv_at hl 0 rfl) ?_
        refine va_get (D := D) (ci := 6) (v := .ref hf) (C := RX7) (T := TX7) (N := 5) hx hb hts (by decide +kernel) hown hK hP 0 rfl rfl 3 (by decide) (hts (.fieldLink RX7 33 "ConceptTable" "family" "LConceptTable$Family;") (by decide +kernel)) (fun _ h9 => h9) c3 dX7_concept_25 ?_
        refine lv_aload_n hx hb dX7_concept_28 rfl (lv_at hl 0 rfl) ?_
        refine va_get (D := D) (ci := 6) (v := .ref ht) (C := RX7) (T := TX7) (N := 5) hx hb hts (by decide +kernel) hown hK hP 0 rfl rfl 0 (by decide) (hts (.fieldLink RX7 12 "ConceptTable" "table" "LConceptTable$Table;") (by decide +kernel)) (fun _ h9 => h9) c0 dX7_concept_29 ?_
        have hPc := hP.sub (ws' := [(hf, .inr (1, [.ref hme, .ref hle, .int (nI n), .int (nI z), .int (b2 ar)])), (hme, .inl (cI, N, .inl (fun i_ => nI (mem i_)))), (hle, .inl (cI, N, .inl (fun i_ => lvO (g i_)))), (ht, .inr (5, ft)), (hro, .inl (cI, 20, .inl (fun i_ => nI (r i_))))]) [3, 4, 5, 1, 2] rfl
        have hDc := hD.sub (ws' := [(hf, .inr (1, [.ref hme, .ref hle, .int (nI n), .int (nI z), .int (b2 ar)])), (hme, .inl (cI, N, .inl (fun i_ => nI (mem i_)))), (hle, .inl (cI, N, .inl (fun i_ => lvO (g i_)))), (ht, .inr (5, ft)), (hro, .inl (cI, 20, .inl (fun i_ => nI (r i_))))]) [3, 4, 5, 1, 2] (by decide) rfl
        have hKc := hK.sub (tys' := [(cI, .int)]) [0] rfl
        have hFc := va_free (wc := [(hf, .inr (1, [.ref hme, .ref hle, .int (nI n), .int (nI z), .int (b2 ar)])), (hme, .inl (cI, N, .inl (fun i_ => nI (mem i_)))), (hle, .inl (cI, N, .inl (fun i_ => lvO (g i_)))), (ht, .inr (5, ft)), (hro, .inl (cI, 20, .inl (fun i_ => nI (r i_))))]) hD hS hA [3, 4, 5, 1, 2] rfl
        refine mx_call (va_runV (As := [.ref ht]) (rest := []) ⟨hx, hb, hml, hown, hts⟩ (c_X1_arrange l D s.heap.size hf hme hle n z ar cI N mem g ht ft hro o r (LV r n o) t0 t2 hn ho hN hN2 hfam (LV_le hn) (ar_pre hgc har) (fun q k hq hg hk => (hgc _ (Nat.lt_of_le_of_lt Nat.and_le_left hq)).mpr (clo_meet hq ((hgc q hq).mp hg) hk)) (fun q hq hg => LV_rows hq ((hgc q hq).mp hg)) (by rw [← CLp_BLp hgc]; exact CL_size hfam hgc)) (cwV 1 hts gX7_concept_X1_arrange rfl rfl rfl (by decide +kernel) ⟨Nat.le_of_ble_eq_true rfl, Nat.le_of_ble_eq_true rfl⟩) ⟨mu_bl, va_recv hKc hPc (ci := 1) (q0 := 0) rfl rfl, fun U hU hW => ⟨rfl, by rw [hU], by rw [hU]; exact hPc, va_K.moved hW.alike hKc, hDc.weaken (fun _ _ _ _ => trivial)⟩⟩ rfl rfl hl.1 rfl (lv_room (Nat.le_of_ble_eq_true rfl)) dX7_concept_32 ⟨Nat.le_of_ble_eq_true rfl, Nat.le_of_ble_eq_true rfl⟩) hS (fun q _ h => hFc q h) hFc (fun u_ H1 locs hq_ hP1 hD1 hk1 hS => ?_)
        obtain ⟨mem', g'⟩ := u_
        have hP1 : va_P D vwCl [(hf, .inr (1, [.ref hme, .ref hle, .int (nI n), .int (nI z), .int (b2 true)])), (hme, .inl (cI, N, .inl (fun i_ => nI (mem' i_)))), (hle, .inl (cI, N, .inl (fun i_ => lvO (g' i_)))), (ht, .inr (5, ft)), (hro, .inl (cI, 20, .inl (fun i_ => nI (r i_))))] H1 := hP1
        have hD1 : va_D (va_A [(hf, .inr (1, [.ref hme, .ref hle, .int (nI n), .int (nI z), .int (b2 ar)])), (hme, .inl (cI, N, .inl (fun i_ => nI (mem i_)))), (hle, .inl (cI, N, .inl (fun i_ => lvO (g i_)))), (ht, .inr (5, ft)), (hro, .inl (cI, 20, .inl (fun i_ => nI (r i_))))] s.heap.size) [(hf, .inr (1, [.ref hme, .ref hle, .int (nI n), .int (nI z), .int (b2 true)])), (hme, .inl (cI, N, .inl (fun i_ => nI (mem' i_)))), (hle, .inl (cI, N, .inl (fun i_ => lvO (g' i_)))), (ht, .inr (5, ft)), (hro, .inl (cI, 20, .inl (fun i_ => nI (r i_))))] := hD1
        obtain ⟨hF, hB0, hL0, hV⟩ := hq_
        have hF : FamOK n g' mem' z := hF
        have hB0 : ∀ x, gB g' x = gB g x := hB0
        have hL0 : lstAt mem' (BLp (gB g) n (2 ^ n)) := hL0
        have hV : ∀ q, q < 2 ^ n → gB g' q = true → g' q = some ((LV r n o) q) := hV
        obtain ⟨hP, hD⟩ := va_join (wr := [(h0, .inr (6, fs)), (hnb, .inr (3, [.ref hfd, .int (nI nz)])), (hfd, .inl (cI, 20, .inl (fun i_ => nI (fd i_))))]) (w1 := [(hf, .inr (1, [.ref hme, .ref hle, .int (nI n), .int (nI z), .int (b2 true)])), (hme, .inl (cI, N, .inl (fun i_ => nI (mem' i_)))), (hle, .inl (cI, N, .inl (fun i_ => lvO (g' i_)))), (ht, .inr (5, ft)), (hro, .inl (cI, 20, .inl (fun i_ => nI (r i_))))]) hP hD [3, 4, 5, 1, 2] [0, 6, 7] rfl rfl (by decide) (by decide) hk1 hFc hP1 hD1
        generalize H1 = H at hP hS ⊢
        have hP : va_P D vwCl [(h0, .inr (6, fs)), (hnb, .inr (3, [.ref hfd, .int (nI nz)])), (hfd, .inl (cI, 20, .inl (fun i_ => nI (fd i_)))), (hf, .inr (1, [.ref hme, .ref hle, .int (nI n), .int (nI z), .int (b2 true)])), (hme, .inl (cI, N, .inl (fun i_ => nI (mem' i_)))), (hle, .inl (cI, N, .inl (fun i_ => lvO (g' i_)))), (ht, .inr (5, ft)), (hro, .inl (cI, 20, .inl (fun i_ => nI (r i_))))] H := hP
        have hD : va_D A [(h0, .inr (6, fs)), (hnb, .inr (3, [.ref hfd, .int (nI nz)])), (hfd, .inl (cI, 20, .inl (fun i_ => nI (fd i_)))), (hf, .inr (1, [.ref hme, .ref hle, .int (nI n), .int (nI z), .int (b2 true)])), (hme, .inl (cI, N, .inl (fun i_ => nI (mem' i_)))), (hle, .inl (cI, N, .inl (fun i_ => lvO (g' i_)))), (ht, .inr (5, ft)), (hro, .inl (cI, 20, .inl (fun i_ => nI (r i_))))] := hD
        have hG : ∀ q, q < 2 ^ n → (gB g' q = true ↔ clo r n o q = q) := fun q hq => by rw [hB0]; exact hgc q hq
        have hL : lstAt mem' (CL r n o) := by unfold CL; rw [CLp_BLp hgc]; exact hL0
        have h2n := p2_le hn
        have hcz := CL_size hfam hgc
        have hmm : ∀ j, j < z → mem' j < 2 ^ n ∧ clo r n o (mem' j) = mem' j := fun j hj => CL_mem.mp (lstAt_mem hL (by rw [hcz]; exact hj))
        have hzl := cnt_le (gB g) (2 ^ n)
        rw [← hfam.1] at hzl
        refine lv_aload_n hx hb dX7_concept_35 rfl (lv_at hl 0 rfl) ?_
        refine va_get (D := D) (ci := 6) (v := .ref hf) (C := RX7) (T := TX7) (N := 5) hx hb hts (by decide +kernel) hown hK hP 0 rfl rfl 3 (by decide) (hts (.fieldLink RX7 33 "ConceptTable" "family" "LConceptTable$Family;") (by decide +kernel)) (fun _ h9 => h9) c3 dX7_concept_36 ?_
        refine lv_iload_n hx hb dX7_concept_39 rfl (lv_at hl 1 rfl) ?_
        refine rd_V (As := [.int (nI i)]) (rest := []) ⟨hx, hb, hml, hown, hts⟩ (c_X1_member l D hf ([.ref hme, .ref hle, .int (nI n), .int (nI z), .int (b2 true)]) hme cI N z mem' (nI i) rfl rfl (by omega) hN2) (cwV 1 hts gX7_concept_X1_member rfl rfl rfl (by decide +kernel) ⟨Nat.le_of_ble_eq_true rfl, Nat.le_of_ble_eq_true rfl⟩) (hP.sub (ws' := [(hf, .inr (1, [.ref hme, .ref hle, .int (nI n), .int (nI z), .int (b2 true)])), (hme, .inl (cI, N, .inl (fun i_ => nI (mem' i_))))]) [3, 4] rfl) (hK.sub (tys' := [(cI, .int)]) [0] rfl) (va_recv hK hP (ci := 1) (q0 := 3) rfl rfl) rfl rfl hl.1 rfl (lv_room (Nat.le_of_ble_eq_true rfl)) dX7_concept_40 ⟨Nat.le_of_ble_eq_true rfl, Nat.le_of_ble_eq_true rfl⟩ ?_
        refine lv_re (y := (nI (mem' i))) (by rw [if_pos (ib_t (by omega) hi), nI_clamp (by omega)]) ?_
        refine lv_istore_n (lv' := [(3, .int (nI (mem' i))), (0, .ref h0), (1, .int (nI i)), (2, .int (2 : Int32))]) hx hb dX7_concept_43 rfl hl (by decide) rfl (fun ls hl => ?_)
        refine lv_iload_n hx hb dX7_concept_44 rfl (lv_at hl 3 rfl) ?_
        refine lv_tableIn (tgt := 91) hx hb dX7_concept_45 (by decide) (by decide) (off := 46) rfl (by decide) ?_
        refine lv_aload_n hx hb dX7_concept_91 rfl (lv_at hl 1 rfl) ?_
        refine va_get (D := D) (ci := 6) (v := .ref hf) (C := RX7) (T := TX7) (N := 5) hx hb hts (by decide +kernel) hown hK hP 0 rfl rfl 3 (by decide) (hts (.fieldLink RX7 33 "ConceptTable" "family" "LConceptTable$Family;") (by decide +kernel)) (fun _ h9 => h9) c3 dX7_concept_92 ?_
        refine lv_iload_n hx hb dX7_concept_95 rfl (lv_at hl 0 rfl) ?_
        refine rd_V (As := [.int (nI (mem' i))]) (rest := []) ⟨hx, hb, hml, hown, hts⟩ (c_X1_levelOf_v l D hf ([.ref hme, .ref hle, .int (nI n), .int (nI z), .int (b2 true)]) hle cI N g' (mem' i) (LV r n o (mem' i)) rfl (by have := (hmm i hi).1; omega) hN2 (hV _ (hmm i hi).1 ((hG _ (hmm i hi).1).mpr (hmm i hi).2))) (cwV 1 hts gX7_concept_X1_levelOf rfl rfl rfl (by decide +kernel) ⟨Nat.le_of_ble_eq_true rfl, Nat.le_of_ble_eq_true rfl⟩) (hP.sub (ws' := [(hf, .inr (1, [.ref hme, .ref hle, .int (nI n), .int (nI z), .int (b2 true)])), (hle, .inl (cI, N, .inl (fun i_ => lvO (g' i_))))]) [3, 5] rfl) (hK.sub (tys' := [(cI, .int)]) [0] rfl) (va_recv hK hP (ci := 1) (q0 := 3) rfl rfl) rfl rfl hl.1 rfl (lv_room (Nat.le_of_ble_eq_true rfl)) dX7_concept_96 ⟨Nat.le_of_ble_eq_true rfl, Nat.le_of_ble_eq_true rfl⟩ ?_
        have hP := hP.sub (ws' := [(h0, .inr (6, fs)), (ht, .inr (5, ft)), (hro, .inl (cI, 20, .inl (fun i_ => nI (r i_)))), (hf, .inr (1, [.ref hme, .ref hle, .int (nI n), .int (nI z), .int (b2 true)])), (hme, .inl (cI, N, .inl (fun i_ => nI (mem' i_)))), (hle, .inl (cI, N, .inl (fun i_ => lvO (g' i_)))), (hnb, .inr (3, [.ref hfd, .int (nI nz)])), (hfd, .inl (cI, 20, .inl (fun i_ => nI (fd i_))))]) [0, 6, 7, 3, 4, 5, 1, 2] rfl
        have hD := hD.sub (ws' := [(h0, .inr (6, fs)), (ht, .inr (5, ft)), (hro, .inl (cI, 20, .inl (fun i_ => nI (r i_)))), (hf, .inr (1, [.ref hme, .ref hle, .int (nI n), .int (nI z), .int (b2 true)])), (hme, .inl (cI, N, .inl (fun i_ => nI (mem' i_)))), (hle, .inl (cI, N, .inl (fun i_ => lvO (g' i_)))), (hnb, .inr (3, [.ref hfd, .int (nI nz)])), (hfd, .inl (cI, 20, .inl (fun i_ => nI (fd i_))))]) [0, 6, 7, 3, 4, 5, 1, 2] (by decide) rfl
        exact W.iret (v := (nI (LV r n o (mem' i)))) hx hb hr (fun t ht hW => ⟨⟨(mem', g'), rfl, ⟨hF, hG, hL, hV⟩, by rw [ht]; exact hP, hD⟩, hS.F ht⟩) hS.2.2 dX7_concept_99
      · have c_19 : z ≤ i := Nat.le_of_not_lt (fun h_ => c_19 ((nI_ltI (a := i) (b := z) (by omega) (by omega)).mpr h_))
        exact absurd hi (by omega)
  · exact absurd c_1 (by decide)

set_option maxHeartbeats 4000000 in
set_option maxRecDepth 100000 in
theorem c_X7_concept_3 (l : Launch) (D : va_G) (sz : Nat) (h0 : Nat) (fs : List Value) (ht : Nat) (ft : List Value) (hro : Nat) (n : Nat) (o : Nat) (cI : ClassId) (r : Nat → Nat) (hf : Nat) (hme : Nat) (hle : Nat) (z : Nat) (ar : Bool) (N : Nat) (mem : Nat → Nat) (g : Nat → Option Nat) (hnb : Nat) (hfd : Nat) (nz : Nat) (fd : Nat → Nat) (i : Nat) (c0 : fs[0]? = some (.ref ht)) (c1 : fs[1]? = some (.ref hnb)) (c3 : fs[3]? = some (.ref hf)) (t0 : ft[0]? = some (.ref hro)) (t1 : ft[1]? = some (.int (nI n))) (t2 : ft[2]? = some (.int (nI o))) (hn : n ≤ 12) (ho : o ≤ 20) (hN : 2 ^ n ≤ N) (hN2 : N ≤ 4096) (hfam : FamOK n g mem z) (hgc : ∀ q, q < 2 ^ n → (gB g q = true ↔ clo r n o q = q)) (har : ar = true → lstAt mem (CL r n o) ∧ ∀ q, q < 2 ^ n → gB g q = true → g q = some (LV r n o q)) (hi : i < z) : Met l yX7_concept wsX7_concept ({ frames := 5, cells := 0, slots := 0, locals := 108 }) (va_Pc [.ref h0, .int (nI i), .int (3 : Int32)] (fun U => U.heap.size = sz ∧ va_P D vwCl [(h0, .inr (6, fs)), (ht, .inr (5, ft)), (hro, .inl (cI, 20, .inl (fun i_ => nI (r i_)))), (hf, .inr (1, [.ref hme, .ref hle, .int (nI n), .int (nI z), .int (b2 ar)])), (hme, .inl (cI, N, .inl (fun i_ => nI (mem i_)))), (hle, .inl (cI, N, .inl (fun i_ => lvO (g i_)))), (hnb, .inr (3, [.ref hfd, .int (nI nz)])), (hfd, .inl (cI, 20, .inl (fun i_ => nI (fd i_))))] U.heap ∧ va_K D vwCl [(cI, .int)] U ∧ va_D (fun _ => True) [(h0, .inr (6, fs)), (ht, .inr (5, ft)), (hro, .inl (cI, 20, .inl (fun i_ => nI (r i_)))), (hf, .inr (1, [.ref hme, .ref hle, .int (nI n), .int (nI z), .int (b2 ar)])), (hme, .inl (cI, N, .inl (fun i_ => nI (mem i_)))), (hle, .inl (cI, N, .inl (fun i_ => lvO (g i_)))), (hnb, .inr (3, [.ref hfd, .int (nI nz)])), (hfd, .inl (cI, 20, .inl (fun i_ => nI (fd i_))))])) (mxQ (fun u_ : (Nat → Nat) × (Nat → Option Nat) × Nat × (Nat → Nat) × (List Nat) => match u_ with | (mem', g', nz', fd', L') => (some (.int (nI nz')))) (fun u_ : (Nat → Nat) × (Nat → Option Nat) × Nat × (Nat → Nat) × (List Nat) => match u_ with | (mem', g', nz', fd', L') => (FamOK n g' mem' z) ∧ (∀ q, q < 2 ^ n → (gB g' q = true ↔ clo r n o q = q)) ∧ (lstAt mem' (CL r n o)) ∧ (∀ q, q < 2 ^ n → gB g' q = true → g' q = some (LV r n o q)) ∧ (lstAt fd' L') ∧ (nz' = L'.length) ∧ (nz' ≤ 20) ∧ (NbOK (P_ab r (mem' i) o) L')) (fun u_ : (Nat → Nat) × (Nat → Option Nat) × Nat × (Nat → Nat) × (List Nat) => match u_ with | (mem', g', nz', fd', L') => [(h0, .inr (6, fs)), (ht, .inr (5, ft)), (hro, .inl (cI, 20, .inl (fun i_ => nI (r i_)))), (hf, .inr (1, [.ref hme, .ref hle, .int (nI n), .int (nI z), .int (b2 true)])), (hme, .inl (cI, N, .inl (fun i_ => nI (mem' i_)))), (hle, .inl (cI, N, .inl (fun i_ => lvO (g' i_)))), (hnb, .inr (3, [.ref hfd, .int (nI nz')])), (hfd, .inl (cI, 20, .inl (fun i_ => nI (fd' i_))))]) D vwCl (va_A [(h0, .inr (6, fs)), (ht, .inr (5, ft)), (hro, .inl (cI, 20, .inl (fun i_ => nI (r i_)))), (hf, .inr (1, [.ref hme, .ref hle, .int (nI n), .int (nI z), .int (b2 ar)])), (hme, .inl (cI, N, .inl (fun i_ => nI (mem i_)))), (hle, .inl (cI, N, .inl (fun i_ => lvO (g i_)))), (hnb, .inr (3, [.ref hfd, .int (nI nz)])), (hfd, .inl (cI, 20, .inl (fun i_ => nI (fd i_))))] sz)) 0 0 (va_A [(h0, .inr (6, fs)), (ht, .inr (5, ft)), (hro, .inl (cI, 20, .inl (fun i_ => nI (r i_)))), (hf, .inr (1, [.ref hme, .ref hle, .int (nI n), .int (nI z), .int (b2 ar)])), (hme, .inl (cI, N, .inl (fun i_ => nI (mem i_)))), (hle, .inl (cI, N, .inl (fun i_ => lvO (g i_)))), (hnb, .inr (3, [.ref hfd, .int (nI nz)])), (hfd, .inl (cI, 20, .inl (fun i_ => nI (fd i_))))] sz) := by
  refine Met.ofW (cc := cX7_concept) (maxL := 4) (ret := (some .int)) (by decide) rfl ?_
  intro p e s m args below meth c s₁ B hml hv
  obtain ⟨rfl, hsz, hP, hK, hD0⟩ := hv
  have hx := B.exec
  have hb := B.bytes
  have hr := B.returns
  have hts := atoms_spec (ws := wsX7_concept) B.pre
  have hown : s.vm.findClass RX7 = some m.cls := findClass_of_methodNamed B.named
  have hlocks := B.notSynchronized
  subst hsz
  have hD := hD0.self (sz := s.heap.size)
  generalize hAe : va_A [(h0, .inr (6, fs)), (ht, .inr (5, ft)), (hro, .inl (cI, 20, .inl (fun i_ => nI (r i_)))), (hf, .inr (1, [.ref hme, .ref hle, .int (nI n), .int (nI z), .int (b2 ar)])), (hme, .inl (cI, N, .inl (fun i_ => nI (mem i_)))), (hle, .inl (cI, N, .inl (fun i_ => lvO (g i_)))), (hnb, .inr (3, [.ref hfd, .int (nI nz)])), (hfd, .inl (cI, 20, .inl (fun i_ => nI (fd i_))))] s.heap.size = A at hD ⊢
  have hA : ∀ q : Nat, s.heap.size ≤ q → A q := fun q h => by rw [← hAe]; exact Or.inr h
  have hS : va_S A s.heap s.heap [] := va_S.rf
  have hl := lv_entry ([.ref h0, .int (nI i), .int (3 : Int32)]) (n := 4) (Nat.le_of_ble_eq_true rfl)
  rw [lg_entry_eq]
  generalize (lg_sl ([.ref h0, .int (nI i), .int (3 : Int32)]) ++ List.replicate (4 - (lg_sl ([.ref h0, .int (nI i), .int (3 : Int32)])).length) Slot.unset).toArray = ls at hl ⊢
  have hl : lv_has ls 4 [(0, .ref h0), (1, .int (nI i)), (2, .int (3 : Int32))] := hl
  have hzl0 := cnt_le (gB g) (2 ^ n)
  rw [← hfam.1] at hzl0
  have h2n0 := p2_le hn
  refine lv_iload_n hx hb dX7_concept_0 rfl (lv_at hl 2 rfl) ?_
  refine lv_if_ge (tgt := 7) hx hb dX7_concept_1 (by decide) (fun c_1 => ?_) (fun c_1 => ?_)
  · refine lv_iload_n hx hb dX7_concept_7 rfl (lv_at hl 1 rfl) ?_
    refine lv_if_lt (tgt := 22) hx hb dX7_concept_8 (by decide) (fun c_8 => ?_) (fun c_8 => ?_)
    · have c_8 : i < 0 := (nI_ltI (a := i) (b := 0) (by omega) (by omega)).mp c_8
      exact absurd c_8 (Nat.not_lt_zero _)
    · have c_8 : 0 ≤ i := Nat.le_of_not_lt (fun h_ => c_8 ((nI_ltI (a := i) (b := 0) (by omega) (by omega)).mpr h_))
      refine lv_iload_n hx hb dX7_concept_11 rfl (lv_at hl 1 rfl) ?_
      refine lv_aload_n hx hb dX7_concept_12 rfl (lv_at hl 0 rfl) ?_
      refine va_get (D := D) (ci := 6) (v := .ref hf) (C := RX7) (T := TX7) (N := 5) hx hb hts (by decide +kernel) hown hK hP 0 rfl rfl 3 (by decide) (hts (.fieldLink RX7 33 "ConceptTable" "family" "LConceptTable$Family;") (by decide +kernel)) (fun _ h9 => h9) c3 dX7_concept_13 ?_
      refine rd_V (As := []) (rest := [.int (nI i)]) ⟨hx, hb, hml, hown, hts⟩ (c_X1_size l D hf ([.ref hme, .ref hle, .int (nI n), .int (nI z), .int (b2 ar)]) z rfl) (cwV 0 hts gX7_concept_X1_size rfl rfl rfl (by decide +kernel) ⟨Nat.le_of_ble_eq_true rfl, Nat.le_of_ble_eq_true rfl⟩) (hP.sub (ws' := [(hf, .inr (1, [.ref hme, .ref hle, .int (nI n), .int (nI z), .int (b2 ar)]))]) [3] rfl) (hK.sub (tys' := []) [] rfl) (va_recv hK hP (ci := 1) (q0 := 3) rfl rfl) rfl rfl hl.1 rfl (lv_room (Nat.le_of_ble_eq_true rfl)) dX7_concept_16 ⟨Nat.le_of_ble_eq_true rfl, Nat.le_of_ble_eq_true rfl⟩ ?_
      refine lv_icmp_lt (tgt := 24) hx hb dX7_concept_19 (by decide) (fun c_19 => ?_) (fun c_19 => ?_)
      · have c_19 : i < z := (nI_ltI (a := i) (b := z) (by omega) (by omega)).mp c_19
        refine lv_aload_n hx hb dX7_concept_24 rfl (lv_at hl 0 rfl) ?_
        refine va_get (D := D) (ci := 6) (v := .ref hf) (C := RX7) (T := TX7) (N := 5) hx hb hts (by decide +kernel) hown hK hP 0 rfl rfl 3 (by decide) (hts (.fieldLink RX7 33 "ConceptTable" "family" "LConceptTable$Family;") (by decide +kernel)) (fun _ h9 => h9) c3 dX7_concept_25 ?_
        refine lv_aload_n hx hb dX7_concept_28 rfl (lv_at hl 0 rfl) ?_
        refine va_get (D := D) (ci := 6) (v := .ref ht) (C := RX7) (T := TX7) (N := 5) hx hb hts (by decide +kernel) hown hK hP 0 rfl rfl 0 (by decide) (hts (.fieldLink RX7 12 "ConceptTable" "table" "LConceptTable$Table;") (by decide +kernel)) (fun _ h9 => h9) c0 dX7_concept_29 ?_
        have hPc := hP.sub (ws' := [(hf, .inr (1, [.ref hme, .ref hle, .int (nI n), .int (nI z), .int (b2 ar)])), (hme, .inl (cI, N, .inl (fun i_ => nI (mem i_)))), (hle, .inl (cI, N, .inl (fun i_ => lvO (g i_)))), (ht, .inr (5, ft)), (hro, .inl (cI, 20, .inl (fun i_ => nI (r i_))))]) [3, 4, 5, 1, 2] rfl
        have hDc := hD.sub (ws' := [(hf, .inr (1, [.ref hme, .ref hle, .int (nI n), .int (nI z), .int (b2 ar)])), (hme, .inl (cI, N, .inl (fun i_ => nI (mem i_)))), (hle, .inl (cI, N, .inl (fun i_ => lvO (g i_)))), (ht, .inr (5, ft)), (hro, .inl (cI, 20, .inl (fun i_ => nI (r i_))))]) [3, 4, 5, 1, 2] (by decide) rfl
        have hKc := hK.sub (tys' := [(cI, .int)]) [0] rfl
        have hFc := va_free (wc := [(hf, .inr (1, [.ref hme, .ref hle, .int (nI n), .int (nI z), .int (b2 ar)])), (hme, .inl (cI, N, .inl (fun i_ => nI (mem i_)))), (hle, .inl (cI, N, .inl (fun i_ => lvO (g i_)))), (ht, .inr (5, ft)), (hro, .inl (cI, 20, .inl (fun i_ => nI (r i_))))]) hD hS hA [3, 4, 5, 1, 2] rfl
        refine mx_call (va_runV (As := [.ref ht]) (rest := []) ⟨hx, hb, hml, hown, hts⟩ (c_X1_arrange l D s.heap.size hf hme hle n z ar cI N mem g ht ft hro o r (LV r n o) t0 t2 hn ho hN hN2 hfam (LV_le hn) (ar_pre hgc har) (fun q k hq hg hk => (hgc _ (Nat.lt_of_le_of_lt Nat.and_le_left hq)).mpr (clo_meet hq ((hgc q hq).mp hg) hk)) (fun q hq hg => LV_rows hq ((hgc q hq).mp hg)) (by rw [← CLp_BLp hgc]; exact CL_size hfam hgc)) (cwV 1 hts gX7_concept_X1_arrange rfl rfl rfl (by decide +kernel) ⟨Nat.le_of_ble_eq_true rfl, Nat.le_of_ble_eq_true rfl⟩) ⟨mu_bl, va_recv hKc hPc (ci := 1) (q0 := 0) rfl rfl, fun U hU hW => ⟨rfl, by rw [hU], by rw [hU]; exact hPc, va_K.moved hW.alike hKc, hDc.weaken (fun _ _ _ _ => trivial)⟩⟩ rfl rfl hl.1 rfl (lv_room (Nat.le_of_ble_eq_true rfl)) dX7_concept_32 ⟨Nat.le_of_ble_eq_true rfl, Nat.le_of_ble_eq_true rfl⟩) hS (fun q _ h => hFc q h) hFc (fun u_ H1 locs hq_ hP1 hD1 hk1 hS => ?_)
        obtain ⟨mem', g'⟩ := u_
        have hP1 : va_P D vwCl [(hf, .inr (1, [.ref hme, .ref hle, .int (nI n), .int (nI z), .int (b2 true)])), (hme, .inl (cI, N, .inl (fun i_ => nI (mem' i_)))), (hle, .inl (cI, N, .inl (fun i_ => lvO (g' i_)))), (ht, .inr (5, ft)), (hro, .inl (cI, 20, .inl (fun i_ => nI (r i_))))] H1 := hP1
        have hD1 : va_D (va_A [(hf, .inr (1, [.ref hme, .ref hle, .int (nI n), .int (nI z), .int (b2 ar)])), (hme, .inl (cI, N, .inl (fun i_ => nI (mem i_)))), (hle, .inl (cI, N, .inl (fun i_ => lvO (g i_)))), (ht, .inr (5, ft)), (hro, .inl (cI, 20, .inl (fun i_ => nI (r i_))))] s.heap.size) [(hf, .inr (1, [.ref hme, .ref hle, .int (nI n), .int (nI z), .int (b2 true)])), (hme, .inl (cI, N, .inl (fun i_ => nI (mem' i_)))), (hle, .inl (cI, N, .inl (fun i_ => lvO (g' i_)))), (ht, .inr (5, ft)), (hro, .inl (cI, 20, .inl (fun i_ => nI (r i_))))] := hD1
        obtain ⟨hF, hB0, hL0, hV⟩ := hq_
        have hF : FamOK n g' mem' z := hF
        have hB0 : ∀ x, gB g' x = gB g x := hB0
        have hL0 : lstAt mem' (BLp (gB g) n (2 ^ n)) := hL0
        have hV : ∀ q, q < 2 ^ n → gB g' q = true → g' q = some ((LV r n o) q) := hV
        obtain ⟨hP, hD⟩ := va_join (wr := [(h0, .inr (6, fs)), (hnb, .inr (3, [.ref hfd, .int (nI nz)])), (hfd, .inl (cI, 20, .inl (fun i_ => nI (fd i_))))]) (w1 := [(hf, .inr (1, [.ref hme, .ref hle, .int (nI n), .int (nI z), .int (b2 true)])), (hme, .inl (cI, N, .inl (fun i_ => nI (mem' i_)))), (hle, .inl (cI, N, .inl (fun i_ => lvO (g' i_)))), (ht, .inr (5, ft)), (hro, .inl (cI, 20, .inl (fun i_ => nI (r i_))))]) hP hD [3, 4, 5, 1, 2] [0, 6, 7] rfl rfl (by decide) (by decide) hk1 hFc hP1 hD1
        generalize H1 = H at hP hS ⊢
        have hP : va_P D vwCl [(h0, .inr (6, fs)), (hnb, .inr (3, [.ref hfd, .int (nI nz)])), (hfd, .inl (cI, 20, .inl (fun i_ => nI (fd i_)))), (hf, .inr (1, [.ref hme, .ref hle, .int (nI n), .int (nI z), .int (b2 true)])), (hme, .inl (cI, N, .inl (fun i_ => nI (mem' i_)))), (hle, .inl (cI, N, .inl (fun i_ => lvO (g' i_)))), (ht, .inr (5, ft)), (hro, .inl (cI, 20, .inl (fun i_ => nI (r i_))))] H := hP
        have hD : va_D A [(h0, .inr (6, fs)), (hnb, .inr (3, [.ref hfd, .int (nI nz)])), (hfd, .inl (cI, 20, .inl (fun i_ => nI (fd i_)))), (hf, .inr (1, [.ref hme, .ref hle, .int (nI n), .int (nI z), .int (b2 true)])), (hme, .inl (cI, N, .inl (fun i_ => nI (mem' i_)))), (hle, .inl (cI, N, .inl (fun i_ => lvO (g' i_)))), (ht, .inr (5, ft)), (hro, .inl (cI, 20, .inl (fun i_ => nI (r i_))))] := hD
        have hG : ∀ q, q < 2 ^ n → (gB g' q = true ↔ clo r n o q = q) := fun q hq => by rw [hB0]; exact hgc q hq
        have hL : lstAt mem' (CL r n o) := by unfold CL; rw [CLp_BLp hgc]; exact hL0
        have h2n := p2_le hn
        have hcz := CL_size hfam hgc
        have hmm : ∀ j, j < z → mem' j < 2 ^ n ∧ clo r n o (mem' j) = mem' j := fun j hj => CL_mem.mp (lstAt_mem hL (by rw [hcz]; exact hj))
        have hzl := cnt_le (gB g) (2 ^ n)
        rw [← hfam.1] at hzl
        refine lv_aload_n hx hb dX7_concept_35 rfl (lv_at hl 0 rfl) ?_
        refine va_get (D := D) (ci := 6) (v := .ref hf) (C := RX7) (T := TX7) (N := 5) hx hb hts (by decide +kernel) hown hK hP 0 rfl rfl 3 (by decide) (hts (.fieldLink RX7 33 "ConceptTable" "family" "LConceptTable$Family;") (by decide +kernel)) (fun _ h9 => h9) c3 dX7_concept_36 ?_
        refine lv_iload_n hx hb dX7_concept_39 rfl (lv_at hl 1 rfl) ?_
        refine rd_V (As := [.int (nI i)]) (rest := []) ⟨hx, hb, hml, hown, hts⟩ (c_X1_member l D hf ([.ref hme, .ref hle, .int (nI n), .int (nI z), .int (b2 true)]) hme cI N z mem' (nI i) rfl rfl (by omega) hN2) (cwV 1 hts gX7_concept_X1_member rfl rfl rfl (by decide +kernel) ⟨Nat.le_of_ble_eq_true rfl, Nat.le_of_ble_eq_true rfl⟩) (hP.sub (ws' := [(hf, .inr (1, [.ref hme, .ref hle, .int (nI n), .int (nI z), .int (b2 true)])), (hme, .inl (cI, N, .inl (fun i_ => nI (mem' i_))))]) [3, 4] rfl) (hK.sub (tys' := [(cI, .int)]) [0] rfl) (va_recv hK hP (ci := 1) (q0 := 3) rfl rfl) rfl rfl hl.1 rfl (lv_room (Nat.le_of_ble_eq_true rfl)) dX7_concept_40 ⟨Nat.le_of_ble_eq_true rfl, Nat.le_of_ble_eq_true rfl⟩ ?_
        refine lv_re (y := (nI (mem' i))) (by rw [if_pos (ib_t (by omega) hi), nI_clamp (by omega)]) ?_
        refine lv_istore_n (lv' := [(3, .int (nI (mem' i))), (0, .ref h0), (1, .int (nI i)), (2, .int (3 : Int32))]) hx hb dX7_concept_43 rfl hl (by decide) rfl (fun ls hl => ?_)
        refine lv_iload_n hx hb dX7_concept_44 rfl (lv_at hl 3 rfl) ?_
        refine lv_tableIn (tgt := 100) hx hb dX7_concept_45 (by decide) (by decide) (off := 55) rfl (by decide) ?_
        refine lv_aload_n hx hb dX7_concept_100 rfl (lv_at hl 1 rfl) ?_
        refine va_get (D := D) (ci := 6) (v := .ref hnb) (C := RX7) (T := TX7) (N := 5) hx hb hts (by decide +kernel) hown hK hP 0 rfl rfl 1 (by decide) (hts (.fieldLink RX7 19 "ConceptTable" "neighbours" "LConceptTable$Neighbours;") (by decide +kernel)) (fun _ h9 => h9) c1 dX7_concept_101 ?_
        refine lv_iload_n hx hb dX7_concept_104 rfl (lv_at hl 0 rfl) ?_
        refine lv_aload_n hx hb dX7_concept_105 rfl (lv_at hl 1 rfl) ?_
        refine va_get (D := D) (ci := 6) (v := .ref ht) (C := RX7) (T := TX7) (N := 5) hx hb hts (by decide +kernel) hown hK hP 0 rfl rfl 0 (by decide) (hts (.fieldLink RX7 12 "ConceptTable" "table" "LConceptTable$Table;") (by decide +kernel)) (fun _ h9 => h9) c0 dX7_concept_106 ?_
        have hPc := hP.sub (ws' := [(hnb, .inr (3, [.ref hfd, .int (nI nz)])), (hfd, .inl (cI, 20, .inl (fun i_ => nI (fd i_)))), (ht, .inr (5, ft)), (hro, .inl (cI, 20, .inl (fun i_ => nI (r i_))))]) [1, 2, 6, 7] rfl
        have hDc := hD.sub (ws' := [(hnb, .inr (3, [.ref hfd, .int (nI nz)])), (hfd, .inl (cI, 20, .inl (fun i_ => nI (fd i_)))), (ht, .inr (5, ft)), (hro, .inl (cI, 20, .inl (fun i_ => nI (r i_))))]) [1, 2, 6, 7] (by decide) rfl
        have hKc := hK.sub (tys' := [(cI, .int)]) [0] rfl
        have hFc := va_free (wc := [(hnb, .inr (3, [.ref hfd, .int (nI nz)])), (hfd, .inl (cI, 20, .inl (fun i_ => nI (fd i_)))), (ht, .inr (5, ft)), (hro, .inl (cI, 20, .inl (fun i_ => nI (r i_))))]) hD hS hA [1, 2, 6, 7] rfl
        refine mx_call (va_runV (As := [.int (nI (mem' i)), .ref ht]) (rest := []) ⟨hx, hb, hml, hown, hts⟩ (c_X3_findAbove l D H.size hnb hfd nz cI fd ht ft hro n o r (mem' i) t0 t2 hn ho (hmm i hi).1) (cwV 2 hts gX7_concept_X3_findAbove rfl rfl rfl (by decide +kernel) ⟨Nat.le_of_ble_eq_true rfl, Nat.le_of_ble_eq_true rfl⟩) ⟨mu_bl, va_recv hKc hPc (ci := 3) (q0 := 0) rfl rfl, fun U hU hW => ⟨rfl, by rw [hU], by rw [hU]; exact hPc, va_K.moved hW.alike hKc, hDc.weaken (fun _ _ _ _ => trivial)⟩⟩ rfl rfl hl.1 rfl (lv_room (Nat.le_of_ble_eq_true rfl)) dX7_concept_109 ⟨Nat.le_of_ble_eq_true rfl, Nat.le_of_ble_eq_true rfl⟩) hS (fun q _ h => hFc q h) hFc (fun u_ H1 locs hq_ hP1 hD1 hk1 hS => ?_)
        obtain ⟨nz', fd', L'⟩ := u_
        have hP1 : va_P D vwCl [(hnb, .inr (3, [.ref hfd, .int (nI nz')])), (hfd, .inl (cI, 20, .inl (fun i_ => nI (fd' i_)))), (ht, .inr (5, ft)), (hro, .inl (cI, 20, .inl (fun i_ => nI (r i_))))] H1 := hP1
        have hD1 : va_D (va_A [(hnb, .inr (3, [.ref hfd, .int (nI nz)])), (hfd, .inl (cI, 20, .inl (fun i_ => nI (fd i_)))), (ht, .inr (5, ft)), (hro, .inl (cI, 20, .inl (fun i_ => nI (r i_))))] H.size) [(hnb, .inr (3, [.ref hfd, .int (nI nz')])), (hfd, .inl (cI, 20, .inl (fun i_ => nI (fd' i_)))), (ht, .inr (5, ft)), (hro, .inl (cI, 20, .inl (fun i_ => nI (r i_))))] := hD1
        obtain ⟨hn1, hn2, hn3, hn4⟩ := hq_
        have hn1 : lstAt fd' L' := hn1
        have hn2 : nz' = L'.length := hn2
        have hn3 : nz' ≤ 20 := hn3
        have hn4 : NbOK (P_ab r (mem' i) o) L' := hn4
        obtain ⟨hP, hD⟩ := va_join (wr := [(h0, .inr (6, fs)), (hf, .inr (1, [.ref hme, .ref hle, .int (nI n), .int (nI z), .int (b2 true)])), (hme, .inl (cI, N, .inl (fun i_ => nI (mem' i_)))), (hle, .inl (cI, N, .inl (fun i_ => lvO (g' i_))))]) (w1 := [(hnb, .inr (3, [.ref hfd, .int (nI nz')])), (hfd, .inl (cI, 20, .inl (fun i_ => nI (fd' i_)))), (ht, .inr (5, ft)), (hro, .inl (cI, 20, .inl (fun i_ => nI (r i_))))]) hP hD [1, 2, 6, 7] [0, 3, 4, 5] rfl rfl (by decide) (by decide) hk1 hFc hP1 hD1
        generalize H1 = H at hP hS ⊢
        have hP : va_P D vwCl [(h0, .inr (6, fs)), (hf, .inr (1, [.ref hme, .ref hle, .int (nI n), .int (nI z), .int (b2 true)])), (hme, .inl (cI, N, .inl (fun i_ => nI (mem' i_)))), (hle, .inl (cI, N, .inl (fun i_ => lvO (g' i_)))), (hnb, .inr (3, [.ref hfd, .int (nI nz')])), (hfd, .inl (cI, 20, .inl (fun i_ => nI (fd' i_)))), (ht, .inr (5, ft)), (hro, .inl (cI, 20, .inl (fun i_ => nI (r i_))))] H := hP
        have hD : va_D A [(h0, .inr (6, fs)), (hf, .inr (1, [.ref hme, .ref hle, .int (nI n), .int (nI z), .int (b2 true)])), (hme, .inl (cI, N, .inl (fun i_ => nI (mem' i_)))), (hle, .inl (cI, N, .inl (fun i_ => lvO (g' i_)))), (hnb, .inr (3, [.ref hfd, .int (nI nz')])), (hfd, .inl (cI, 20, .inl (fun i_ => nI (fd' i_)))), (ht, .inr (5, ft)), (hro, .inl (cI, 20, .inl (fun i_ => nI (r i_))))] := hD
        refine lv_aload_n hx hb dX7_concept_112 rfl (lv_at hl 1 rfl) ?_
        refine va_get (D := D) (ci := 6) (v := .ref hnb) (C := RX7) (T := TX7) (N := 5) hx hb hts (by decide +kernel) hown hK hP 0 rfl rfl 1 (by decide) (hts (.fieldLink RX7 19 "ConceptTable" "neighbours" "LConceptTable$Neighbours;") (by decide +kernel)) (fun _ h9 => h9) c1 dX7_concept_113 ?_
        refine rd_V (As := []) (rest := []) ⟨hx, hb, hml, hown, hts⟩ (c_X3_size l D hnb ([.ref hfd, .int (nI nz')]) nz' rfl) (cwV 0 hts gX7_concept_X3_size rfl rfl rfl (by decide +kernel) ⟨Nat.le_of_ble_eq_true rfl, Nat.le_of_ble_eq_true rfl⟩) (hP.sub (ws' := [(hnb, .inr (3, [.ref hfd, .int (nI nz')]))]) [4] rfl) (hK.sub (tys' := []) [] rfl) (va_recv hK hP (ci := 3) (q0 := 4) rfl rfl) rfl rfl hl.1 rfl (lv_room (Nat.le_of_ble_eq_true rfl)) dX7_concept_116 ⟨Nat.le_of_ble_eq_true rfl, Nat.le_of_ble_eq_true rfl⟩ ?_
        have hP := hP.sub (ws' := [(h0, .inr (6, fs)), (ht, .inr (5, ft)), (hro, .inl (cI, 20, .inl (fun i_ => nI (r i_)))), (hf, .inr (1, [.ref hme, .ref hle, .int (nI n), .int (nI z), .int (b2 true)])), (hme, .inl (cI, N, .inl (fun i_ => nI (mem' i_)))), (hle, .inl (cI, N, .inl (fun i_ => lvO (g' i_)))), (hnb, .inr (3, [.ref hfd, .int (nI nz')])), (hfd, .inl (cI, 20, .inl (fun i_ => nI (fd' i_))))]) [0, 6, 7, 1, 2, 3, 4, 5] rfl
        have hD := hD.sub (ws' := [(h0, .inr (6, fs)), (ht, .inr (5, ft)), (hro, .inl (cI, 20, .inl (fun i_ => nI (r i_)))), (hf, .inr (1, [.ref hme, .ref hle, .int (nI n), .int (nI z), .int (b2 true)])), (hme, .inl (cI, N, .inl (fun i_ => nI (mem' i_)))), (hle, .inl (cI, N, .inl (fun i_ => lvO (g' i_)))), (hnb, .inr (3, [.ref hfd, .int (nI nz')])), (hfd, .inl (cI, 20, .inl (fun i_ => nI (fd' i_))))]) [0, 6, 7, 1, 2, 3, 4, 5] (by decide) rfl
        exact W.iret (v := (nI nz')) hx hb hr (fun t ht hW => ⟨⟨(mem', g', nz', fd', L'), rfl, ⟨hF, hG, hL, hV, hn1, hn2, hn3, hn4⟩, by rw [ht]; exact hP, hD⟩, hS.F ht⟩) hS.2.2 dX7_concept_119
      · have c_19 : z ≤ i := Nat.le_of_not_lt (fun h_ => c_19 ((nI_ltI (a := i) (b := z) (by omega) (by omega)).mpr h_))
        exact absurd hi (by omega)
  · exact absurd c_1 (by decide)

set_option maxHeartbeats 4000000 in
set_option maxRecDepth 100000 in
theorem c_X7_concept_4 (l : Launch) (D : va_G) (sz : Nat) (h0 : Nat) (fs : List Value) (ht : Nat) (ft : List Value) (hro : Nat) (n : Nat) (o : Nat) (cI : ClassId) (r : Nat → Nat) (hf : Nat) (hme : Nat) (hle : Nat) (z : Nat) (ar : Bool) (N : Nat) (mem : Nat → Nat) (g : Nat → Option Nat) (hnb : Nat) (hfd : Nat) (nz : Nat) (fd : Nat → Nat) (i : Nat) (c0 : fs[0]? = some (.ref ht)) (c1 : fs[1]? = some (.ref hnb)) (c3 : fs[3]? = some (.ref hf)) (t0 : ft[0]? = some (.ref hro)) (t1 : ft[1]? = some (.int (nI n))) (t2 : ft[2]? = some (.int (nI o))) (hn : n ≤ 12) (ho : o ≤ 20) (hN : 2 ^ n ≤ N) (hN2 : N ≤ 4096) (hfam : FamOK n g mem z) (hgc : ∀ q, q < 2 ^ n → (gB g q = true ↔ clo r n o q = q)) (har : ar = true → lstAt mem (CL r n o) ∧ ∀ q, q < 2 ^ n → gB g q = true → g q = some (LV r n o q)) (hi : i < z) : Met l yX7_concept wsX7_concept ({ frames := 5, cells := 0, slots := 0, locals := 108 }) (va_Pc [.ref h0, .int (nI i), .int (4 : Int32)] (fun U => U.heap.size = sz ∧ va_P D vwCl [(h0, .inr (6, fs)), (ht, .inr (5, ft)), (hro, .inl (cI, 20, .inl (fun i_ => nI (r i_)))), (hf, .inr (1, [.ref hme, .ref hle, .int (nI n), .int (nI z), .int (b2 ar)])), (hme, .inl (cI, N, .inl (fun i_ => nI (mem i_)))), (hle, .inl (cI, N, .inl (fun i_ => lvO (g i_)))), (hnb, .inr (3, [.ref hfd, .int (nI nz)])), (hfd, .inl (cI, 20, .inl (fun i_ => nI (fd i_))))] U.heap ∧ va_K D vwCl [(cI, .int)] U ∧ va_D (fun _ => True) [(h0, .inr (6, fs)), (ht, .inr (5, ft)), (hro, .inl (cI, 20, .inl (fun i_ => nI (r i_)))), (hf, .inr (1, [.ref hme, .ref hle, .int (nI n), .int (nI z), .int (b2 ar)])), (hme, .inl (cI, N, .inl (fun i_ => nI (mem i_)))), (hle, .inl (cI, N, .inl (fun i_ => lvO (g i_)))), (hnb, .inr (3, [.ref hfd, .int (nI nz)])), (hfd, .inl (cI, 20, .inl (fun i_ => nI (fd i_))))])) (mxQ (fun u_ : (Nat → Nat) × (Nat → Option Nat) × Nat × (Nat → Nat) × (List Nat) => match u_ with | (mem', g', nz', fd', L') => (some (.int (nI nz')))) (fun u_ : (Nat → Nat) × (Nat → Option Nat) × Nat × (Nat → Nat) × (List Nat) => match u_ with | (mem', g', nz', fd', L') => (FamOK n g' mem' z) ∧ (∀ q, q < 2 ^ n → (gB g' q = true ↔ clo r n o q = q)) ∧ (lstAt mem' (CL r n o)) ∧ (∀ q, q < 2 ^ n → gB g' q = true → g' q = some (LV r n o q)) ∧ (lstAt fd' L') ∧ (nz' = L'.length) ∧ (nz' ≤ 20) ∧ (NbOK (P_be r n o (mem' i) n) L')) (fun u_ : (Nat → Nat) × (Nat → Option Nat) × Nat × (Nat → Nat) × (List Nat) => match u_ with | (mem', g', nz', fd', L') => [(h0, .inr (6, fs)), (ht, .inr (5, ft)), (hro, .inl (cI, 20, .inl (fun i_ => nI (r i_)))), (hf, .inr (1, [.ref hme, .ref hle, .int (nI n), .int (nI z), .int (b2 true)])), (hme, .inl (cI, N, .inl (fun i_ => nI (mem' i_)))), (hle, .inl (cI, N, .inl (fun i_ => lvO (g' i_)))), (hnb, .inr (3, [.ref hfd, .int (nI nz')])), (hfd, .inl (cI, 20, .inl (fun i_ => nI (fd' i_))))]) D vwCl (va_A [(h0, .inr (6, fs)), (ht, .inr (5, ft)), (hro, .inl (cI, 20, .inl (fun i_ => nI (r i_)))), (hf, .inr (1, [.ref hme, .ref hle, .int (nI n), .int (nI z), .int (b2 ar)])), (hme, .inl (cI, N, .inl (fun i_ => nI (mem i_)))), (hle, .inl (cI, N, .inl (fun i_ => lvO (g i_)))), (hnb, .inr (3, [.ref hfd, .int (nI nz)])), (hfd, .inl (cI, 20, .inl (fun i_ => nI (fd i_))))] sz)) 0 0 (va_A [(h0, .inr (6, fs)), (ht, .inr (5, ft)), (hro, .inl (cI, 20, .inl (fun i_ => nI (r i_)))), (hf, .inr (1, [.ref hme, .ref hle, .int (nI n), .int (nI z), .int (b2 ar)])), (hme, .inl (cI, N, .inl (fun i_ => nI (mem i_)))), (hle, .inl (cI, N, .inl (fun i_ => lvO (g i_)))), (hnb, .inr (3, [.ref hfd, .int (nI nz)])), (hfd, .inl (cI, 20, .inl (fun i_ => nI (fd i_))))] sz) := by
  refine Met.ofW (cc := cX7_concept) (maxL := 4) (ret := (some .int)) (by decide) rfl ?_
  intro p e s m args below meth c s₁ B hml hv
  obtain ⟨rfl, hsz, hP, hK, hD0⟩ := hv
  have hx := B.exec
  have hb := B.bytes
  have hr := B.returns
  have hts := atoms_spec (ws := wsX7_concept) B.pre
  have hown : s.vm.findClass RX7 = some m.cls := findClass_of_methodNamed B.named
  have hlocks := B.notSynchronized
  subst hsz
  have hD := hD0.self (sz := s.heap.size)
  generalize hAe : va_A [(h0, .inr (6, fs)), (ht, .inr (5, ft)), (hro, .inl (cI, 20, .inl (fun i_ => nI (r i_)))), (hf, .inr (1, [.ref hme, .ref hle, .int (nI n), .int (nI z), .int (b2 ar)])), (hme, .inl (cI, N, .inl (fun i_ => nI (mem i_)))), (hle, .inl (cI, N, .inl (fun i_ => lvO (g i_)))), (hnb, .inr (3, [.ref hfd, .int (nI nz)])), (hfd, .inl (cI, 20, .inl (fun i_ => nI (fd i_))))] s.heap.size = A at hD ⊢
  have hA : ∀ q : Nat, s.heap.size ≤ q → A q := fun q h => by rw [← hAe]; exact Or.inr h
  have hS : va_S A s.heap s.heap [] := va_S.rf
  have hl := lv_entry ([.ref h0, .int (nI i), .int (4 : Int32)]) (n := 4) (Nat.le_of_ble_eq_true rfl)
  rw [lg_entry_eq]
  generalize (lg_sl ([.ref h0, .int (nI i), .int (4 : Int32)]) ++ List.replicate (4 - (lg_sl ([.ref h0, .int (nI i), .int (4 : Int32)])).length) Slot.unset).toArray = ls at hl ⊢
  have hl : lv_has ls 4 [(0, .ref h0), (1, .int (nI i)), (2, .int (4 : Int32))] := hl
  have hzl0 := cnt_le (gB g) (2 ^ n)
  rw [← hfam.1] at hzl0
  have h2n0 := p2_le hn
  refine lv_iload_n hx hb dX7_concept_0 rfl (lv_at hl 2 rfl) ?_
  refine lv_if_ge (tgt := 7) hx hb dX7_concept_1 (by decide) (fun c_1 => ?_) (fun c_1 => ?_)
  · refine lv_iload_n hx hb dX7_concept_7 rfl (lv_at hl 1 rfl) ?_
    refine lv_if_lt (tgt := 22) hx hb dX7_concept_8 (by decide) (fun c_8 => ?_) (fun c_8 => ?_)
    · have c_8 : i < 0 := (nI_ltI (a := i) (b := 0) (by omega) (by omega)).mp c_8
      exact absurd c_8 (Nat.not_lt_zero _)
    · have c_8 : 0 ≤ i := Nat.le_of_not_lt (fun h_ => c_8 ((nI_ltI (a := i) (b := 0) (by omega) (by omega)).mpr h_))
      refine lv_iload_n hx hb dX7_concept_11 rfl (lv_at hl 1 rfl) ?_
      refine lv_aload_n hx hb dX7_concept_12 rfl (lv_at hl 0 rfl) ?_
      refine va_get (D := D) (ci := 6) (v := .ref hf) (C := RX7) (T := TX7) (N := 5) hx hb hts (by decide +kernel) hown hK hP 0 rfl rfl 3 (by decide) (hts (.fieldLink RX7 33 "ConceptTable" "family" "LConceptTable$Family;") (by decide +kernel)) (fun _ h9 => h9) c3 dX7_concept_13 ?_
      refine rd_V (As := []) (rest := [.int (nI i)]) ⟨hx, hb, hml, hown, hts⟩ (c_X1_size l D hf ([.ref hme, .ref hle, .int (nI n), .int (nI z), .int (b2 ar)]) z rfl) (cwV 0 hts gX7_concept_X1_size rfl rfl rfl (by decide +kernel) ⟨Nat.le_of_ble_eq_true rfl, Nat.le_of_ble_eq_true rfl⟩) (hP.sub (ws' := [(hf, .inr (1, [.ref hme, .ref hle, .int (nI n), .int (nI z), .int (b2 ar)]))]) [3] rfl) (hK.sub (tys' := []) [] rfl) (va_recv hK hP (ci := 1) (q0 := 3) rfl rfl) rfl rfl hl.1 rfl (lv_room (Nat.le_of_ble_eq_true rfl)) dX7_concept_16 ⟨Nat.le_of_ble_eq_true rfl, Nat.le_of_ble_eq_true rfl⟩ ?_
      refine lv_icmp_lt (tgt := 24) hx hb dX7_concept_19 (by decide) (fun c_19 => ?_) (fun c_19 => ?_)
      · have c_19 : i < z := (nI_ltI (a := i) (b := z) (by omega) (by omega)).mp c_19
        refine lv_aload_n hx hb dX7_concept_24 rfl (lv_at hl 0 rfl) ?_
        refine va_get (D := D) (ci := 6) (v := .ref hf) (C := RX7) (T := TX7) (N := 5) hx hb hts (by decide +kernel) hown hK hP 0 rfl rfl 3 (by decide) (hts (.fieldLink RX7 33 "ConceptTable" "family" "LConceptTable$Family;") (by decide +kernel)) (fun _ h9 => h9) c3 dX7_concept_25 ?_
        refine lv_aload_n hx hb dX7_concept_28 rfl (lv_at hl 0 rfl) ?_
        refine va_get (D := D) (ci := 6) (v := .ref ht) (C := RX7) (T := TX7) (N := 5) hx hb hts (by decide +kernel) hown hK hP 0 rfl rfl 0 (by decide) (hts (.fieldLink RX7 12 "ConceptTable" "table" "LConceptTable$Table;") (by decide +kernel)) (fun _ h9 => h9) c0 dX7_concept_29 ?_
        have hPc := hP.sub (ws' := [(hf, .inr (1, [.ref hme, .ref hle, .int (nI n), .int (nI z), .int (b2 ar)])), (hme, .inl (cI, N, .inl (fun i_ => nI (mem i_)))), (hle, .inl (cI, N, .inl (fun i_ => lvO (g i_)))), (ht, .inr (5, ft)), (hro, .inl (cI, 20, .inl (fun i_ => nI (r i_))))]) [3, 4, 5, 1, 2] rfl
        have hDc := hD.sub (ws' := [(hf, .inr (1, [.ref hme, .ref hle, .int (nI n), .int (nI z), .int (b2 ar)])), (hme, .inl (cI, N, .inl (fun i_ => nI (mem i_)))), (hle, .inl (cI, N, .inl (fun i_ => lvO (g i_)))), (ht, .inr (5, ft)), (hro, .inl (cI, 20, .inl (fun i_ => nI (r i_))))]) [3, 4, 5, 1, 2] (by decide) rfl
        have hKc := hK.sub (tys' := [(cI, .int)]) [0] rfl
        have hFc := va_free (wc := [(hf, .inr (1, [.ref hme, .ref hle, .int (nI n), .int (nI z), .int (b2 ar)])), (hme, .inl (cI, N, .inl (fun i_ => nI (mem i_)))), (hle, .inl (cI, N, .inl (fun i_ => lvO (g i_)))), (ht, .inr (5, ft)), (hro, .inl (cI, 20, .inl (fun i_ => nI (r i_))))]) hD hS hA [3, 4, 5, 1, 2] rfl
        refine mx_call (va_runV (As := [.ref ht]) (rest := []) ⟨hx, hb, hml, hown, hts⟩ (c_X1_arrange l D s.heap.size hf hme hle n z ar cI N mem g ht ft hro o r (LV r n o) t0 t2 hn ho hN hN2 hfam (LV_le hn) (ar_pre hgc har) (fun q k hq hg hk => (hgc _ (Nat.lt_of_le_of_lt Nat.and_le_left hq)).mpr (clo_meet hq ((hgc q hq).mp hg) hk)) (fun q hq hg => LV_rows hq ((hgc q hq).mp hg)) (by rw [← CLp_BLp hgc]; exact CL_size hfam hgc)) (cwV 1 hts gX7_concept_X1_arrange rfl rfl rfl (by decide +kernel) ⟨Nat.le_of_ble_eq_true rfl, Nat.le_of_ble_eq_true rfl⟩) ⟨mu_bl, va_recv hKc hPc (ci := 1) (q0 := 0) rfl rfl, fun U hU hW => ⟨rfl, by rw [hU], by rw [hU]; exact hPc, va_K.moved hW.alike hKc, hDc.weaken (fun _ _ _ _ => trivial)⟩⟩ rfl rfl hl.1 rfl (lv_room (Nat.le_of_ble_eq_true rfl)) dX7_concept_32 ⟨Nat.le_of_ble_eq_true rfl, Nat.le_of_ble_eq_true rfl⟩) hS (fun q _ h => hFc q h) hFc (fun u_ H1 locs hq_ hP1 hD1 hk1 hS => ?_)
        obtain ⟨mem', g'⟩ := u_
        have hP1 : va_P D vwCl [(hf, .inr (1, [.ref hme, .ref hle, .int (nI n), .int (nI z), .int (b2 true)])), (hme, .inl (cI, N, .inl (fun i_ => nI (mem' i_)))), (hle, .inl (cI, N, .inl (fun i_ => lvO (g' i_)))), (ht, .inr (5, ft)), (hro, .inl (cI, 20, .inl (fun i_ => nI (r i_))))] H1 := hP1
        have hD1 : va_D (va_A [(hf, .inr (1, [.ref hme, .ref hle, .int (nI n), .int (nI z), .int (b2 ar)])), (hme, .inl (cI, N, .inl (fun i_ => nI (mem i_)))), (hle, .inl (cI, N, .inl (fun i_ => lvO (g i_)))), (ht, .inr (5, ft)), (hro, .inl (cI, 20, .inl (fun i_ => nI (r i_))))] s.heap.size) [(hf, .inr (1, [.ref hme, .ref hle, .int (nI n), .int (nI z), .int (b2 true)])), (hme, .inl (cI, N, .inl (fun i_ => nI (mem' i_)))), (hle, .inl (cI, N, .inl (fun i_ => lvO (g' i_)))), (ht, .inr (5, ft)), (hro, .inl (cI, 20, .inl (fun i_ => nI (r i_))))] := hD1
        obtain ⟨hF, hB0, hL0, hV⟩ := hq_
        have hF : FamOK n g' mem' z := hF
        have hB0 : ∀ x, gB g' x = gB g x := hB0
        have hL0 : lstAt mem' (BLp (gB g) n (2 ^ n)) := hL0
        have hV : ∀ q, q < 2 ^ n → gB g' q = true → g' q = some ((LV r n o) q) := hV
        obtain ⟨hP, hD⟩ := va_join (wr := [(h0, .inr (6, fs)), (hnb, .inr (3, [.ref hfd, .int (nI nz)])), (hfd, .inl (cI, 20, .inl (fun i_ => nI (fd i_))))]) (w1 := [(hf, .inr (1, [.ref hme, .ref hle, .int (nI n), .int (nI z), .int (b2 true)])), (hme, .inl (cI, N, .inl (fun i_ => nI (mem' i_)))), (hle, .inl (cI, N, .inl (fun i_ => lvO (g' i_)))), (ht, .inr (5, ft)), (hro, .inl (cI, 20, .inl (fun i_ => nI (r i_))))]) hP hD [3, 4, 5, 1, 2] [0, 6, 7] rfl rfl (by decide) (by decide) hk1 hFc hP1 hD1
        generalize H1 = H at hP hS ⊢
        have hP : va_P D vwCl [(h0, .inr (6, fs)), (hnb, .inr (3, [.ref hfd, .int (nI nz)])), (hfd, .inl (cI, 20, .inl (fun i_ => nI (fd i_)))), (hf, .inr (1, [.ref hme, .ref hle, .int (nI n), .int (nI z), .int (b2 true)])), (hme, .inl (cI, N, .inl (fun i_ => nI (mem' i_)))), (hle, .inl (cI, N, .inl (fun i_ => lvO (g' i_)))), (ht, .inr (5, ft)), (hro, .inl (cI, 20, .inl (fun i_ => nI (r i_))))] H := hP
        have hD : va_D A [(h0, .inr (6, fs)), (hnb, .inr (3, [.ref hfd, .int (nI nz)])), (hfd, .inl (cI, 20, .inl (fun i_ => nI (fd i_)))), (hf, .inr (1, [.ref hme, .ref hle, .int (nI n), .int (nI z), .int (b2 true)])), (hme, .inl (cI, N, .inl (fun i_ => nI (mem' i_)))), (hle, .inl (cI, N, .inl (fun i_ => lvO (g' i_)))), (ht, .inr (5, ft)), (hro, .inl (cI, 20, .inl (fun i_ => nI (r i_))))] := hD
        have hG : ∀ q, q < 2 ^ n → (gB g' q = true ↔ clo r n o q = q) := fun q hq => by rw [hB0]; exact hgc q hq
        have hL : lstAt mem' (CL r n o) := by unfold CL; rw [CLp_BLp hgc]; exact hL0
        have h2n := p2_le hn
        have hcz := CL_size hfam hgc
        have hmm : ∀ j, j < z → mem' j < 2 ^ n ∧ clo r n o (mem' j) = mem' j := fun j hj => CL_mem.mp (lstAt_mem hL (by rw [hcz]; exact hj))
        have hzl := cnt_le (gB g) (2 ^ n)
        rw [← hfam.1] at hzl
        refine lv_aload_n hx hb dX7_concept_35 rfl (lv_at hl 0 rfl) ?_
        refine va_get (D := D) (ci := 6) (v := .ref hf) (C := RX7) (T := TX7) (N := 5) hx hb hts (by decide +kernel) hown hK hP 0 rfl rfl 3 (by decide) (hts (.fieldLink RX7 33 "ConceptTable" "family" "LConceptTable$Family;") (by decide +kernel)) (fun _ h9 => h9) c3 dX7_concept_36 ?_
        refine lv_iload_n hx hb dX7_concept_39 rfl (lv_at hl 1 rfl) ?_
        refine rd_V (As := [.int (nI i)]) (rest := []) ⟨hx, hb, hml, hown, hts⟩ (c_X1_member l D hf ([.ref hme, .ref hle, .int (nI n), .int (nI z), .int (b2 true)]) hme cI N z mem' (nI i) rfl rfl (by omega) hN2) (cwV 1 hts gX7_concept_X1_member rfl rfl rfl (by decide +kernel) ⟨Nat.le_of_ble_eq_true rfl, Nat.le_of_ble_eq_true rfl⟩) (hP.sub (ws' := [(hf, .inr (1, [.ref hme, .ref hle, .int (nI n), .int (nI z), .int (b2 true)])), (hme, .inl (cI, N, .inl (fun i_ => nI (mem' i_))))]) [3, 4] rfl) (hK.sub (tys' := [(cI, .int)]) [0] rfl) (va_recv hK hP (ci := 1) (q0 := 3) rfl rfl) rfl rfl hl.1 rfl (lv_room (Nat.le_of_ble_eq_true rfl)) dX7_concept_40 ⟨Nat.le_of_ble_eq_true rfl, Nat.le_of_ble_eq_true rfl⟩ ?_
        refine lv_re (y := (nI (mem' i))) (by rw [if_pos (ib_t (by omega) hi), nI_clamp (by omega)]) ?_
        refine lv_istore_n (lv' := [(3, .int (nI (mem' i))), (0, .ref h0), (1, .int (nI i)), (2, .int (4 : Int32))]) hx hb dX7_concept_43 rfl hl (by decide) rfl (fun ls hl => ?_)
        refine lv_iload_n hx hb dX7_concept_44 rfl (lv_at hl 3 rfl) ?_
        refine lv_tableIn (tgt := 120) hx hb dX7_concept_45 (by decide) (by decide) (off := 75) rfl (by decide) ?_
        refine lv_aload_n hx hb dX7_concept_120 rfl (lv_at hl 1 rfl) ?_
        refine va_get (D := D) (ci := 6) (v := .ref hnb) (C := RX7) (T := TX7) (N := 5) hx hb hts (by decide +kernel) hown hK hP 0 rfl rfl 1 (by decide) (hts (.fieldLink RX7 19 "ConceptTable" "neighbours" "LConceptTable$Neighbours;") (by decide +kernel)) (fun _ h9 => h9) c1 dX7_concept_121 ?_
        refine lv_iload_n hx hb dX7_concept_124 rfl (lv_at hl 0 rfl) ?_
        refine lv_aload_n hx hb dX7_concept_125 rfl (lv_at hl 1 rfl) ?_
        refine va_get (D := D) (ci := 6) (v := .ref ht) (C := RX7) (T := TX7) (N := 5) hx hb hts (by decide +kernel) hown hK hP 0 rfl rfl 0 (by decide) (hts (.fieldLink RX7 12 "ConceptTable" "table" "LConceptTable$Table;") (by decide +kernel)) (fun _ h9 => h9) c0 dX7_concept_126 ?_
        have hPc := hP.sub (ws' := [(hnb, .inr (3, [.ref hfd, .int (nI nz)])), (hfd, .inl (cI, 20, .inl (fun i_ => nI (fd i_)))), (ht, .inr (5, ft)), (hro, .inl (cI, 20, .inl (fun i_ => nI (r i_))))]) [1, 2, 6, 7] rfl
        have hDc := hD.sub (ws' := [(hnb, .inr (3, [.ref hfd, .int (nI nz)])), (hfd, .inl (cI, 20, .inl (fun i_ => nI (fd i_)))), (ht, .inr (5, ft)), (hro, .inl (cI, 20, .inl (fun i_ => nI (r i_))))]) [1, 2, 6, 7] (by decide) rfl
        have hKc := hK.sub (tys' := [(cI, .int)]) [0] rfl
        have hFc := va_free (wc := [(hnb, .inr (3, [.ref hfd, .int (nI nz)])), (hfd, .inl (cI, 20, .inl (fun i_ => nI (fd i_)))), (ht, .inr (5, ft)), (hro, .inl (cI, 20, .inl (fun i_ => nI (r i_))))]) hD hS hA [1, 2, 6, 7] rfl
        refine mx_call (va_runV (As := [.int (nI (mem' i)), .ref ht]) (rest := []) ⟨hx, hb, hml, hown, hts⟩ (c_X3_findBelow l D H.size hnb hfd nz cI fd ht ft hro n o r (mem' i) t0 t1 t2 hn ho (hmm i hi).1) (cwV 2 hts gX7_concept_X3_findBelow rfl rfl rfl (by decide +kernel) ⟨Nat.le_of_ble_eq_true rfl, Nat.le_of_ble_eq_true rfl⟩) ⟨mu_bl, va_recv hKc hPc (ci := 3) (q0 := 0) rfl rfl, fun U hU hW => ⟨rfl, by rw [hU], by rw [hU]; exact hPc, va_K.moved hW.alike hKc, hDc.weaken (fun _ _ _ _ => trivial)⟩⟩ rfl rfl hl.1 rfl (lv_room (Nat.le_of_ble_eq_true rfl)) dX7_concept_129 ⟨Nat.le_of_ble_eq_true rfl, Nat.le_of_ble_eq_true rfl⟩) hS (fun q _ h => hFc q h) hFc (fun u_ H1 locs hq_ hP1 hD1 hk1 hS => ?_)
        obtain ⟨nz', fd', L'⟩ := u_
        have hP1 : va_P D vwCl [(hnb, .inr (3, [.ref hfd, .int (nI nz')])), (hfd, .inl (cI, 20, .inl (fun i_ => nI (fd' i_)))), (ht, .inr (5, ft)), (hro, .inl (cI, 20, .inl (fun i_ => nI (r i_))))] H1 := hP1
        have hD1 : va_D (va_A [(hnb, .inr (3, [.ref hfd, .int (nI nz)])), (hfd, .inl (cI, 20, .inl (fun i_ => nI (fd i_)))), (ht, .inr (5, ft)), (hro, .inl (cI, 20, .inl (fun i_ => nI (r i_))))] H.size) [(hnb, .inr (3, [.ref hfd, .int (nI nz')])), (hfd, .inl (cI, 20, .inl (fun i_ => nI (fd' i_)))), (ht, .inr (5, ft)), (hro, .inl (cI, 20, .inl (fun i_ => nI (r i_))))] := hD1
        obtain ⟨hn1, hn2, hn3, hn4⟩ := hq_
        have hn1 : lstAt fd' L' := hn1
        have hn2 : nz' = L'.length := hn2
        have hn3 : nz' ≤ 20 := hn3
        have hn4 : NbOK (P_be r n o (mem' i) n) L' := hn4
        obtain ⟨hP, hD⟩ := va_join (wr := [(h0, .inr (6, fs)), (hf, .inr (1, [.ref hme, .ref hle, .int (nI n), .int (nI z), .int (b2 true)])), (hme, .inl (cI, N, .inl (fun i_ => nI (mem' i_)))), (hle, .inl (cI, N, .inl (fun i_ => lvO (g' i_))))]) (w1 := [(hnb, .inr (3, [.ref hfd, .int (nI nz')])), (hfd, .inl (cI, 20, .inl (fun i_ => nI (fd' i_)))), (ht, .inr (5, ft)), (hro, .inl (cI, 20, .inl (fun i_ => nI (r i_))))]) hP hD [1, 2, 6, 7] [0, 3, 4, 5] rfl rfl (by decide) (by decide) hk1 hFc hP1 hD1
        generalize H1 = H at hP hS ⊢
        have hP : va_P D vwCl [(h0, .inr (6, fs)), (hf, .inr (1, [.ref hme, .ref hle, .int (nI n), .int (nI z), .int (b2 true)])), (hme, .inl (cI, N, .inl (fun i_ => nI (mem' i_)))), (hle, .inl (cI, N, .inl (fun i_ => lvO (g' i_)))), (hnb, .inr (3, [.ref hfd, .int (nI nz')])), (hfd, .inl (cI, 20, .inl (fun i_ => nI (fd' i_)))), (ht, .inr (5, ft)), (hro, .inl (cI, 20, .inl (fun i_ => nI (r i_))))] H := hP
        have hD : va_D A [(h0, .inr (6, fs)), (hf, .inr (1, [.ref hme, .ref hle, .int (nI n), .int (nI z), .int (b2 true)])), (hme, .inl (cI, N, .inl (fun i_ => nI (mem' i_)))), (hle, .inl (cI, N, .inl (fun i_ => lvO (g' i_)))), (hnb, .inr (3, [.ref hfd, .int (nI nz')])), (hfd, .inl (cI, 20, .inl (fun i_ => nI (fd' i_)))), (ht, .inr (5, ft)), (hro, .inl (cI, 20, .inl (fun i_ => nI (r i_))))] := hD
        refine lv_aload_n hx hb dX7_concept_132 rfl (lv_at hl 1 rfl) ?_
        refine va_get (D := D) (ci := 6) (v := .ref hnb) (C := RX7) (T := TX7) (N := 5) hx hb hts (by decide +kernel) hown hK hP 0 rfl rfl 1 (by decide) (hts (.fieldLink RX7 19 "ConceptTable" "neighbours" "LConceptTable$Neighbours;") (by decide +kernel)) (fun _ h9 => h9) c1 dX7_concept_133 ?_
        refine rd_V (As := []) (rest := []) ⟨hx, hb, hml, hown, hts⟩ (c_X3_size l D hnb ([.ref hfd, .int (nI nz')]) nz' rfl) (cwV 0 hts gX7_concept_X3_size rfl rfl rfl (by decide +kernel) ⟨Nat.le_of_ble_eq_true rfl, Nat.le_of_ble_eq_true rfl⟩) (hP.sub (ws' := [(hnb, .inr (3, [.ref hfd, .int (nI nz')]))]) [4] rfl) (hK.sub (tys' := []) [] rfl) (va_recv hK hP (ci := 3) (q0 := 4) rfl rfl) rfl rfl hl.1 rfl (lv_room (Nat.le_of_ble_eq_true rfl)) dX7_concept_136 ⟨Nat.le_of_ble_eq_true rfl, Nat.le_of_ble_eq_true rfl⟩ ?_
        have hP := hP.sub (ws' := [(h0, .inr (6, fs)), (ht, .inr (5, ft)), (hro, .inl (cI, 20, .inl (fun i_ => nI (r i_)))), (hf, .inr (1, [.ref hme, .ref hle, .int (nI n), .int (nI z), .int (b2 true)])), (hme, .inl (cI, N, .inl (fun i_ => nI (mem' i_)))), (hle, .inl (cI, N, .inl (fun i_ => lvO (g' i_)))), (hnb, .inr (3, [.ref hfd, .int (nI nz')])), (hfd, .inl (cI, 20, .inl (fun i_ => nI (fd' i_))))]) [0, 6, 7, 1, 2, 3, 4, 5] rfl
        have hD := hD.sub (ws' := [(h0, .inr (6, fs)), (ht, .inr (5, ft)), (hro, .inl (cI, 20, .inl (fun i_ => nI (r i_)))), (hf, .inr (1, [.ref hme, .ref hle, .int (nI n), .int (nI z), .int (b2 true)])), (hme, .inl (cI, N, .inl (fun i_ => nI (mem' i_)))), (hle, .inl (cI, N, .inl (fun i_ => lvO (g' i_)))), (hnb, .inr (3, [.ref hfd, .int (nI nz')])), (hfd, .inl (cI, 20, .inl (fun i_ => nI (fd' i_))))]) [0, 6, 7, 1, 2, 3, 4, 5] (by decide) rfl
        exact W.iret (v := (nI nz')) hx hb hr (fun t ht hW => ⟨⟨(mem', g', nz', fd', L'), rfl, ⟨hF, hG, hL, hV, hn1, hn2, hn3, hn4⟩, by rw [ht]; exact hP, hD⟩, hS.F ht⟩) hS.2.2 dX7_concept_139
      · have c_19 : z ≤ i := Nat.le_of_not_lt (fun h_ => c_19 ((nI_ltI (a := i) (b := z) (by omega) (by omega)).mpr h_))
        exact absurd hi (by omega)
  · exact absurd c_1 (by decide)

set_option maxHeartbeats 4000000 in
set_option maxRecDepth 100000 in
theorem c_X7_concept_w (l : Launch) (D : va_G) (sz : Nat) (h0 : Nat) (fs : List Value) (ht : Nat) (ft : List Value) (hro : Nat) (n : Nat) (o : Nat) (cI : ClassId) (r : Nat → Nat) (hf : Nat) (hme : Nat) (hle : Nat) (z : Nat) (ar : Bool) (N : Nat) (mem : Nat → Nat) (g : Nat → Option Nat) (hnb : Nat) (hfd : Nat) (nz : Nat) (fd : Nat → Nat) (i : Nat) (t_ : Nat) (c0 : fs[0]? = some (.ref ht)) (c1 : fs[1]? = some (.ref hnb)) (c3 : fs[3]? = some (.ref hf)) (t0 : ft[0]? = some (.ref hro)) (t1 : ft[1]? = some (.int (nI n))) (t2 : ft[2]? = some (.int (nI o))) (hn : n ≤ 12) (ho : o ≤ 20) (hN : 2 ^ n ≤ N) (hN2 : N ≤ 4096) (hfam : FamOK n g mem z) (hgc : ∀ q, q < 2 ^ n → (gB g q = true ↔ clo r n o q = q)) (har : ar = true → lstAt mem (CL r n o) ∧ ∀ q, q < 2 ^ n → gB g q = true → g q = some (LV r n o q)) (hi : i < z) (ht5 : t_ + 5 < 2 ^ 31) : Met l yX7_concept wsX7_concept ({ frames := 5, cells := 0, slots := 0, locals := 108 }) (va_Pc [.ref h0, .int (nI i), .int (nI (t_ + 5))] (fun U => U.heap.size = sz ∧ va_P D vwCl [(h0, .inr (6, fs)), (ht, .inr (5, ft)), (hro, .inl (cI, 20, .inl (fun i_ => nI (r i_)))), (hf, .inr (1, [.ref hme, .ref hle, .int (nI n), .int (nI z), .int (b2 ar)])), (hme, .inl (cI, N, .inl (fun i_ => nI (mem i_)))), (hle, .inl (cI, N, .inl (fun i_ => lvO (g i_)))), (hnb, .inr (3, [.ref hfd, .int (nI nz)])), (hfd, .inl (cI, 20, .inl (fun i_ => nI (fd i_))))] U.heap ∧ va_K D vwCl [(cI, .int)] U ∧ va_D (fun _ => True) [(h0, .inr (6, fs)), (ht, .inr (5, ft)), (hro, .inl (cI, 20, .inl (fun i_ => nI (r i_)))), (hf, .inr (1, [.ref hme, .ref hle, .int (nI n), .int (nI z), .int (b2 ar)])), (hme, .inl (cI, N, .inl (fun i_ => nI (mem i_)))), (hle, .inl (cI, N, .inl (fun i_ => lvO (g i_)))), (hnb, .inr (3, [.ref hfd, .int (nI nz)])), (hfd, .inl (cI, 20, .inl (fun i_ => nI (fd i_))))])) (mxQ (fun u_ : (Nat → Nat) × (Nat → Option Nat) × Nat × (Nat → Nat) × (List Nat) => match u_ with | (mem', g', nz', fd', L') => (some (.int (if (decide (¬ nI t_ < 0) && decide (¬ nI nz' ≤ nI t_)) = true then nI (fd' (nI t_).toNatClampNeg) else -1)))) (fun u_ : (Nat → Nat) × (Nat → Option Nat) × Nat × (Nat → Nat) × (List Nat) => match u_ with | (mem', g', nz', fd', L') => (FamOK n g' mem' z) ∧ (∀ q, q < 2 ^ n → (gB g' q = true ↔ clo r n o q = q)) ∧ (lstAt mem' (CL r n o)) ∧ (∀ q, q < 2 ^ n → gB g' q = true → g' q = some (LV r n o q)) ∧ (lstAt fd' L') ∧ (nz' = L'.length) ∧ (nz' ≤ 20) ∧ (NbOK (P_ab r (mem' i) o) L')) (fun u_ : (Nat → Nat) × (Nat → Option Nat) × Nat × (Nat → Nat) × (List Nat) => match u_ with | (mem', g', nz', fd', L') => [(h0, .inr (6, fs)), (ht, .inr (5, ft)), (hro, .inl (cI, 20, .inl (fun i_ => nI (r i_)))), (hf, .inr (1, [.ref hme, .ref hle, .int (nI n), .int (nI z), .int (b2 true)])), (hme, .inl (cI, N, .inl (fun i_ => nI (mem' i_)))), (hle, .inl (cI, N, .inl (fun i_ => lvO (g' i_)))), (hnb, .inr (3, [.ref hfd, .int (nI nz')])), (hfd, .inl (cI, 20, .inl (fun i_ => nI (fd' i_))))]) D vwCl (va_A [(h0, .inr (6, fs)), (ht, .inr (5, ft)), (hro, .inl (cI, 20, .inl (fun i_ => nI (r i_)))), (hf, .inr (1, [.ref hme, .ref hle, .int (nI n), .int (nI z), .int (b2 ar)])), (hme, .inl (cI, N, .inl (fun i_ => nI (mem i_)))), (hle, .inl (cI, N, .inl (fun i_ => lvO (g i_)))), (hnb, .inr (3, [.ref hfd, .int (nI nz)])), (hfd, .inl (cI, 20, .inl (fun i_ => nI (fd i_))))] sz)) 0 0 (va_A [(h0, .inr (6, fs)), (ht, .inr (5, ft)), (hro, .inl (cI, 20, .inl (fun i_ => nI (r i_)))), (hf, .inr (1, [.ref hme, .ref hle, .int (nI n), .int (nI z), .int (b2 ar)])), (hme, .inl (cI, N, .inl (fun i_ => nI (mem i_)))), (hle, .inl (cI, N, .inl (fun i_ => lvO (g i_)))), (hnb, .inr (3, [.ref hfd, .int (nI nz)])), (hfd, .inl (cI, 20, .inl (fun i_ => nI (fd i_))))] sz) := by
  refine Met.ofW (cc := cX7_concept) (maxL := 4) (ret := (some .int)) (by decide) rfl ?_
  intro p e s m args below meth c s₁ B hml hv
  obtain ⟨rfl, hsz, hP, hK, hD0⟩ := hv
  have hx := B.exec
  have hb := B.bytes
  have hr := B.returns
  have hts := atoms_spec (ws := wsX7_concept) B.pre
  have hown : s.vm.findClass RX7 = some m.cls := findClass_of_methodNamed B.named
  have hlocks := B.notSynchronized
  subst hsz
  have hD := hD0.self (sz := s.heap.size)
  generalize hAe : va_A [(h0, .inr (6, fs)), (ht, .inr (5, ft)), (hro, .inl (cI, 20, .inl (fun i_ => nI (r i_)))), (hf, .inr (1, [.ref hme, .ref hle, .int (nI n), .int (nI z), .int (b2 ar)])), (hme, .inl (cI, N, .inl (fun i_ => nI (mem i_)))), (hle, .inl (cI, N, .inl (fun i_ => lvO (g i_)))), (hnb, .inr (3, [.ref hfd, .int (nI nz)])), (hfd, .inl (cI, 20, .inl (fun i_ => nI (fd i_))))] s.heap.size = A at hD ⊢
  have hA : ∀ q : Nat, s.heap.size ≤ q → A q := fun q h => by rw [← hAe]; exact Or.inr h
  have hS : va_S A s.heap s.heap [] := va_S.rf
  have hl := lv_entry ([.ref h0, .int (nI i), .int (nI (t_ + 5))]) (n := 4) (Nat.le_of_ble_eq_true rfl)
  rw [lg_entry_eq]
  generalize (lg_sl ([.ref h0, .int (nI i), .int (nI (t_ + 5))]) ++ List.replicate (4 - (lg_sl ([.ref h0, .int (nI i), .int (nI (t_ + 5))])).length) Slot.unset).toArray = ls at hl ⊢
  have hl : lv_has ls 4 [(0, .ref h0), (1, .int (nI i)), (2, .int (nI (t_ + 5)))] := hl
  have hzl0 := cnt_le (gB g) (2 ^ n)
  rw [← hfam.1] at hzl0
  have h2n0 := p2_le hn
  refine lv_iload_n hx hb dX7_concept_0 rfl (lv_at hl 2 rfl) ?_
  refine lv_if_ge (tgt := 7) hx hb dX7_concept_1 (by decide) (fun c_1 => ?_) (fun c_1 => ?_)
  · have c_1 : 0 ≤ (t_ + 5) := (nI_leI (a := 0) (b := (t_ + 5)) (by omega) (by omega)).mp c_1
    refine lv_iload_n hx hb dX7_concept_7 rfl (lv_at hl 1 rfl) ?_
    refine lv_if_lt (tgt := 22) hx hb dX7_concept_8 (by decide) (fun c_8 => ?_) (fun c_8 => ?_)
    · have c_8 : i < 0 := (nI_ltI (a := i) (b := 0) (by omega) (by omega)).mp c_8
      exact absurd c_8 (Nat.not_lt_zero _)
    · have c_8 : 0 ≤ i := Nat.le_of_not_lt (fun h_ => c_8 ((nI_ltI (a := i) (b := 0) (by omega) (by omega)).mpr h_))
      refine lv_iload_n hx hb dX7_concept_11 rfl (lv_at hl 1 rfl) ?_
      refine lv_aload_n hx hb dX7_concept_12 rfl (lv_at hl 0 rfl) ?_
      refine va_get (D := D) (ci := 6) (v := .ref hf) (C := RX7) (T := TX7) (N := 5) hx hb hts (by decide +kernel) hown hK hP 0 rfl rfl 3 (by decide) (hts (.fieldLink RX7 33 "ConceptTable" "family" "LConceptTable$Family;") (by decide +kernel)) (fun _ h9 => h9) c3 dX7_concept_13 ?_
      refine rd_V (As := []) (rest := [.int (nI i)]) ⟨hx, hb, hml, hown, hts⟩ (c_X1_size l D hf ([.ref hme, .ref hle, .int (nI n), .int (nI z), .int (b2 ar)]) z rfl) (cwV 0 hts gX7_concept_X1_size rfl rfl rfl (by decide +kernel) ⟨Nat.le_of_ble_eq_true rfl, Nat.le_of_ble_eq_true rfl⟩) (hP.sub (ws' := [(hf, .inr (1, [.ref hme, .ref hle, .int (nI n), .int (nI z), .int (b2 ar)]))]) [3] rfl) (hK.sub (tys' := []) [] rfl) (va_recv hK hP (ci := 1) (q0 := 3) rfl rfl) rfl rfl hl.1 rfl (lv_room (Nat.le_of_ble_eq_true rfl)) dX7_concept_16 ⟨Nat.le_of_ble_eq_true rfl, Nat.le_of_ble_eq_true rfl⟩ ?_
      refine lv_icmp_lt (tgt := 24) hx hb dX7_concept_19 (by decide) (fun c_19 => ?_) (fun c_19 => ?_)
      · have c_19 : i < z := (nI_ltI (a := i) (b := z) (by omega) (by omega)).mp c_19
        refine lv_aload_n hx hb dX7_concept_24 rfl (lv_at hl 0 rfl) ?_
        refine va_get (D := D) (ci := 6) (v := .ref hf) (C := RX7) (T := TX7) (N := 5) hx hb hts (by decide +kernel) hown hK hP 0 rfl rfl 3 (by decide) (hts (.fieldLink RX7 33 "ConceptTable" "family" "LConceptTable$Family;") (by decide +kernel)) (fun _ h9 => h9) c3 dX7_concept_25 ?_
        refine lv_aload_n hx hb dX7_concept_28 rfl (lv_at hl 0 rfl) ?_
        refine va_get (D := D) (ci := 6) (v := .ref ht) (C := RX7) (T := TX7) (N := 5) hx hb hts (by decide +kernel) hown hK hP 0 rfl rfl 0 (by decide) (hts (.fieldLink RX7 12 "ConceptTable" "table" "LConceptTable$Table;") (by decide +kernel)) (fun _ h9 => h9) c0 dX7_concept_29 ?_
        have hPc := hP.sub (ws' := [(hf, .inr (1, [.ref hme, .ref hle, .int (nI n), .int (nI z), .int (b2 ar)])), (hme, .inl (cI, N, .inl (fun i_ => nI (mem i_)))), (hle, .inl (cI, N, .inl (fun i_ => lvO (g i_)))), (ht, .inr (5, ft)), (hro, .inl (cI, 20, .inl (fun i_ => nI (r i_))))]) [3, 4, 5, 1, 2] rfl
        have hDc := hD.sub (ws' := [(hf, .inr (1, [.ref hme, .ref hle, .int (nI n), .int (nI z), .int (b2 ar)])), (hme, .inl (cI, N, .inl (fun i_ => nI (mem i_)))), (hle, .inl (cI, N, .inl (fun i_ => lvO (g i_)))), (ht, .inr (5, ft)), (hro, .inl (cI, 20, .inl (fun i_ => nI (r i_))))]) [3, 4, 5, 1, 2] (by decide) rfl
        have hKc := hK.sub (tys' := [(cI, .int)]) [0] rfl
        have hFc := va_free (wc := [(hf, .inr (1, [.ref hme, .ref hle, .int (nI n), .int (nI z), .int (b2 ar)])), (hme, .inl (cI, N, .inl (fun i_ => nI (mem i_)))), (hle, .inl (cI, N, .inl (fun i_ => lvO (g i_)))), (ht, .inr (5, ft)), (hro, .inl (cI, 20, .inl (fun i_ => nI (r i_))))]) hD hS hA [3, 4, 5, 1, 2] rfl
        refine mx_call (va_runV (As := [.ref ht]) (rest := []) ⟨hx, hb, hml, hown, hts⟩ (c_X1_arrange l D s.heap.size hf hme hle n z ar cI N mem g ht ft hro o r (LV r n o) t0 t2 hn ho hN hN2 hfam (LV_le hn) (ar_pre hgc har) (fun q k hq hg hk => (hgc _ (Nat.lt_of_le_of_lt Nat.and_le_left hq)).mpr (clo_meet hq ((hgc q hq).mp hg) hk)) (fun q hq hg => LV_rows hq ((hgc q hq).mp hg)) (by rw [← CLp_BLp hgc]; exact CL_size hfam hgc)) (cwV 1 hts gX7_concept_X1_arrange rfl rfl rfl (by decide +kernel) ⟨Nat.le_of_ble_eq_true rfl, Nat.le_of_ble_eq_true rfl⟩) ⟨mu_bl, va_recv hKc hPc (ci := 1) (q0 := 0) rfl rfl, fun U hU hW => ⟨rfl, by rw [hU], by rw [hU]; exact hPc, va_K.moved hW.alike hKc, hDc.weaken (fun _ _ _ _ => trivial)⟩⟩ rfl rfl hl.1 rfl (lv_room (Nat.le_of_ble_eq_true rfl)) dX7_concept_32 ⟨Nat.le_of_ble_eq_true rfl, Nat.le_of_ble_eq_true rfl⟩) hS (fun q _ h => hFc q h) hFc (fun u_ H1 locs hq_ hP1 hD1 hk1 hS => ?_)
        obtain ⟨mem', g'⟩ := u_
        have hP1 : va_P D vwCl [(hf, .inr (1, [.ref hme, .ref hle, .int (nI n), .int (nI z), .int (b2 true)])), (hme, .inl (cI, N, .inl (fun i_ => nI (mem' i_)))), (hle, .inl (cI, N, .inl (fun i_ => lvO (g' i_)))), (ht, .inr (5, ft)), (hro, .inl (cI, 20, .inl (fun i_ => nI (r i_))))] H1 := hP1
        have hD1 : va_D (va_A [(hf, .inr (1, [.ref hme, .ref hle, .int (nI n), .int (nI z), .int (b2 ar)])), (hme, .inl (cI, N, .inl (fun i_ => nI (mem i_)))), (hle, .inl (cI, N, .inl (fun i_ => lvO (g i_)))), (ht, .inr (5, ft)), (hro, .inl (cI, 20, .inl (fun i_ => nI (r i_))))] s.heap.size) [(hf, .inr (1, [.ref hme, .ref hle, .int (nI n), .int (nI z), .int (b2 true)])), (hme, .inl (cI, N, .inl (fun i_ => nI (mem' i_)))), (hle, .inl (cI, N, .inl (fun i_ => lvO (g' i_)))), (ht, .inr (5, ft)), (hro, .inl (cI, 20, .inl (fun i_ => nI (r i_))))] := hD1
        obtain ⟨hF, hB0, hL0, hV⟩ := hq_
        have hF : FamOK n g' mem' z := hF
        have hB0 : ∀ x, gB g' x = gB g x := hB0
        have hL0 : lstAt mem' (BLp (gB g) n (2 ^ n)) := hL0
        have hV : ∀ q, q < 2 ^ n → gB g' q = true → g' q = some ((LV r n o) q) := hV
        obtain ⟨hP, hD⟩ := va_join (wr := [(h0, .inr (6, fs)), (hnb, .inr (3, [.ref hfd, .int (nI nz)])), (hfd, .inl (cI, 20, .inl (fun i_ => nI (fd i_))))]) (w1 := [(hf, .inr (1, [.ref hme, .ref hle, .int (nI n), .int (nI z), .int (b2 true)])), (hme, .inl (cI, N, .inl (fun i_ => nI (mem' i_)))), (hle, .inl (cI, N, .inl (fun i_ => lvO (g' i_)))), (ht, .inr (5, ft)), (hro, .inl (cI, 20, .inl (fun i_ => nI (r i_))))]) hP hD [3, 4, 5, 1, 2] [0, 6, 7] rfl rfl (by decide) (by decide) hk1 hFc hP1 hD1
        generalize H1 = H at hP hS ⊢
        have hP : va_P D vwCl [(h0, .inr (6, fs)), (hnb, .inr (3, [.ref hfd, .int (nI nz)])), (hfd, .inl (cI, 20, .inl (fun i_ => nI (fd i_)))), (hf, .inr (1, [.ref hme, .ref hle, .int (nI n), .int (nI z), .int (b2 true)])), (hme, .inl (cI, N, .inl (fun i_ => nI (mem' i_)))), (hle, .inl (cI, N, .inl (fun i_ => lvO (g' i_)))), (ht, .inr (5, ft)), (hro, .inl (cI, 20, .inl (fun i_ => nI (r i_))))] H := hP
        have hD : va_D A [(h0, .inr (6, fs)), (hnb, .inr (3, [.ref hfd, .int (nI nz)])), (hfd, .inl (cI, 20, .inl (fun i_ => nI (fd i_)))), (hf, .inr (1, [.ref hme, .ref hle, .int (nI n), .int (nI z), .int (b2 true)])), (hme, .inl (cI, N, .inl (fun i_ => nI (mem' i_)))), (hle, .inl (cI, N, .inl (fun i_ => lvO (g' i_)))), (ht, .inr (5, ft)), (hro, .inl (cI, 20, .inl (fun i_ => nI (r i_))))] := hD
        have hG : ∀ q, q < 2 ^ n → (gB g' q = true ↔ clo r n o q = q) := fun q hq => by rw [hB0]; exact hgc q hq
        have hL : lstAt mem' (CL r n o) := by unfold CL; rw [CLp_BLp hgc]; exact hL0
        have h2n := p2_le hn
        have hcz := CL_size hfam hgc
        have hmm : ∀ j, j < z → mem' j < 2 ^ n ∧ clo r n o (mem' j) = mem' j := fun j hj => CL_mem.mp (lstAt_mem hL (by rw [hcz]; exact hj))
        have hzl := cnt_le (gB g) (2 ^ n)
        rw [← hfam.1] at hzl
        refine lv_aload_n hx hb dX7_concept_35 rfl (lv_at hl 0 rfl) ?_
        refine va_get (D := D) (ci := 6) (v := .ref hf) (C := RX7) (T := TX7) (N := 5) hx hb hts (by decide +kernel) hown hK hP 0 rfl rfl 3 (by decide) (hts (.fieldLink RX7 33 "ConceptTable" "family" "LConceptTable$Family;") (by decide +kernel)) (fun _ h9 => h9) c3 dX7_concept_36 ?_
        refine lv_iload_n hx hb dX7_concept_39 rfl (lv_at hl 1 rfl) ?_
        refine rd_V (As := [.int (nI i)]) (rest := []) ⟨hx, hb, hml, hown, hts⟩ (c_X1_member l D hf ([.ref hme, .ref hle, .int (nI n), .int (nI z), .int (b2 true)]) hme cI N z mem' (nI i) rfl rfl (by omega) hN2) (cwV 1 hts gX7_concept_X1_member rfl rfl rfl (by decide +kernel) ⟨Nat.le_of_ble_eq_true rfl, Nat.le_of_ble_eq_true rfl⟩) (hP.sub (ws' := [(hf, .inr (1, [.ref hme, .ref hle, .int (nI n), .int (nI z), .int (b2 true)])), (hme, .inl (cI, N, .inl (fun i_ => nI (mem' i_))))]) [3, 4] rfl) (hK.sub (tys' := [(cI, .int)]) [0] rfl) (va_recv hK hP (ci := 1) (q0 := 3) rfl rfl) rfl rfl hl.1 rfl (lv_room (Nat.le_of_ble_eq_true rfl)) dX7_concept_40 ⟨Nat.le_of_ble_eq_true rfl, Nat.le_of_ble_eq_true rfl⟩ ?_
        refine lv_re (y := (nI (mem' i))) (by rw [if_pos (ib_t (by omega) hi), nI_clamp (by omega)]) ?_
        refine lv_istore_n (lv' := [(3, .int (nI (mem' i))), (0, .ref h0), (1, .int (nI i)), (2, .int (nI (t_ + 5)))]) hx hb dX7_concept_43 rfl hl (by decide) rfl (fun ls hl => ?_)
        refine lv_iload_n hx hb dX7_concept_44 rfl (lv_at hl 3 rfl) ?_
        refine lv_tableOut (tgt := 140) hx hb dX7_concept_45 (Or.inr (by rw [nI_toInt ht5]; omega)) (by decide) ?_
        refine lv_aload_n hx hb dX7_concept_140 rfl (lv_at hl 1 rfl) ?_
        refine va_get (D := D) (ci := 6) (v := .ref hnb) (C := RX7) (T := TX7) (N := 5) hx hb hts (by decide +kernel) hown hK hP 0 rfl rfl 1 (by decide) (hts (.fieldLink RX7 19 "ConceptTable" "neighbours" "LConceptTable$Neighbours;") (by decide +kernel)) (fun _ h9 => h9) c1 dX7_concept_141 ?_
        refine lv_iload_n hx hb dX7_concept_144 rfl (lv_at hl 0 rfl) ?_
        refine lv_aload_n hx hb dX7_concept_145 rfl (lv_at hl 1 rfl) ?_
        refine va_get (D := D) (ci := 6) (v := .ref ht) (C := RX7) (T := TX7) (N := 5) hx hb hts (by decide +kernel) hown hK hP 0 rfl rfl 0 (by decide) (hts (.fieldLink RX7 12 "ConceptTable" "table" "LConceptTable$Table;") (by decide +kernel)) (fun _ h9 => h9) c0 dX7_concept_146 ?_
        have hPc := hP.sub (ws' := [(hnb, .inr (3, [.ref hfd, .int (nI nz)])), (hfd, .inl (cI, 20, .inl (fun i_ => nI (fd i_)))), (ht, .inr (5, ft)), (hro, .inl (cI, 20, .inl (fun i_ => nI (r i_))))]) [1, 2, 6, 7] rfl
        have hDc := hD.sub (ws' := [(hnb, .inr (3, [.ref hfd, .int (nI nz)])), (hfd, .inl (cI, 20, .inl (fun i_ => nI (fd i_)))), (ht, .inr (5, ft)), (hro, .inl (cI, 20, .inl (fun i_ => nI (r i_))))]) [1, 2, 6, 7] (by decide) rfl
        have hKc := hK.sub (tys' := [(cI, .int)]) [0] rfl
        have hFc := va_free (wc := [(hnb, .inr (3, [.ref hfd, .int (nI nz)])), (hfd, .inl (cI, 20, .inl (fun i_ => nI (fd i_)))), (ht, .inr (5, ft)), (hro, .inl (cI, 20, .inl (fun i_ => nI (r i_))))]) hD hS hA [1, 2, 6, 7] rfl
        refine mx_call (va_runV (As := [.int (nI (mem' i)), .ref ht]) (rest := []) ⟨hx, hb, hml, hown, hts⟩ (c_X3_findAbove l D H.size hnb hfd nz cI fd ht ft hro n o r (mem' i) t0 t2 hn ho (hmm i hi).1) (cwV 2 hts gX7_concept_X3_findAbove rfl rfl rfl (by decide +kernel) ⟨Nat.le_of_ble_eq_true rfl, Nat.le_of_ble_eq_true rfl⟩) ⟨mu_bl, va_recv hKc hPc (ci := 3) (q0 := 0) rfl rfl, fun U hU hW => ⟨rfl, by rw [hU], by rw [hU]; exact hPc, va_K.moved hW.alike hKc, hDc.weaken (fun _ _ _ _ => trivial)⟩⟩ rfl rfl hl.1 rfl (lv_room (Nat.le_of_ble_eq_true rfl)) dX7_concept_149 ⟨Nat.le_of_ble_eq_true rfl, Nat.le_of_ble_eq_true rfl⟩) hS (fun q _ h => hFc q h) hFc (fun u_ H1 locs hq_ hP1 hD1 hk1 hS => ?_)
        obtain ⟨nz', fd', L'⟩ := u_
        have hP1 : va_P D vwCl [(hnb, .inr (3, [.ref hfd, .int (nI nz')])), (hfd, .inl (cI, 20, .inl (fun i_ => nI (fd' i_)))), (ht, .inr (5, ft)), (hro, .inl (cI, 20, .inl (fun i_ => nI (r i_))))] H1 := hP1
        have hD1 : va_D (va_A [(hnb, .inr (3, [.ref hfd, .int (nI nz)])), (hfd, .inl (cI, 20, .inl (fun i_ => nI (fd i_)))), (ht, .inr (5, ft)), (hro, .inl (cI, 20, .inl (fun i_ => nI (r i_))))] H.size) [(hnb, .inr (3, [.ref hfd, .int (nI nz')])), (hfd, .inl (cI, 20, .inl (fun i_ => nI (fd' i_)))), (ht, .inr (5, ft)), (hro, .inl (cI, 20, .inl (fun i_ => nI (r i_))))] := hD1
        obtain ⟨hn1, hn2, hn3, hn4⟩ := hq_
        have hn1 : lstAt fd' L' := hn1
        have hn2 : nz' = L'.length := hn2
        have hn3 : nz' ≤ 20 := hn3
        have hn4 : NbOK (P_ab r (mem' i) o) L' := hn4
        obtain ⟨hP, hD⟩ := va_join (wr := [(h0, .inr (6, fs)), (hf, .inr (1, [.ref hme, .ref hle, .int (nI n), .int (nI z), .int (b2 true)])), (hme, .inl (cI, N, .inl (fun i_ => nI (mem' i_)))), (hle, .inl (cI, N, .inl (fun i_ => lvO (g' i_))))]) (w1 := [(hnb, .inr (3, [.ref hfd, .int (nI nz')])), (hfd, .inl (cI, 20, .inl (fun i_ => nI (fd' i_)))), (ht, .inr (5, ft)), (hro, .inl (cI, 20, .inl (fun i_ => nI (r i_))))]) hP hD [1, 2, 6, 7] [0, 3, 4, 5] rfl rfl (by decide) (by decide) hk1 hFc hP1 hD1
        generalize H1 = H at hP hS ⊢
        have hP : va_P D vwCl [(h0, .inr (6, fs)), (hf, .inr (1, [.ref hme, .ref hle, .int (nI n), .int (nI z), .int (b2 true)])), (hme, .inl (cI, N, .inl (fun i_ => nI (mem' i_)))), (hle, .inl (cI, N, .inl (fun i_ => lvO (g' i_)))), (hnb, .inr (3, [.ref hfd, .int (nI nz')])), (hfd, .inl (cI, 20, .inl (fun i_ => nI (fd' i_)))), (ht, .inr (5, ft)), (hro, .inl (cI, 20, .inl (fun i_ => nI (r i_))))] H := hP
        have hD : va_D A [(h0, .inr (6, fs)), (hf, .inr (1, [.ref hme, .ref hle, .int (nI n), .int (nI z), .int (b2 true)])), (hme, .inl (cI, N, .inl (fun i_ => nI (mem' i_)))), (hle, .inl (cI, N, .inl (fun i_ => lvO (g' i_)))), (hnb, .inr (3, [.ref hfd, .int (nI nz')])), (hfd, .inl (cI, 20, .inl (fun i_ => nI (fd' i_)))), (ht, .inr (5, ft)), (hro, .inl (cI, 20, .inl (fun i_ => nI (r i_))))] := hD
        refine lv_aload_n hx hb dX7_concept_152 rfl (lv_at hl 1 rfl) ?_
        refine va_get (D := D) (ci := 6) (v := .ref hnb) (C := RX7) (T := TX7) (N := 5) hx hb hts (by decide +kernel) hown hK hP 0 rfl rfl 1 (by decide) (hts (.fieldLink RX7 19 "ConceptTable" "neighbours" "LConceptTable$Neighbours;") (by decide +kernel)) (fun _ h9 => h9) c1 dX7_concept_153 ?_
        refine lv_iload_n hx hb dX7_concept_156 rfl (lv_at hl 3 rfl) ?_
        refine lv_iconst (v := 5) hx hb dX7_concept_157 (by decide) ?_
        refine lv_isub hx hb dX7_concept_158 ?_
        refine lv_re (y := (nI ((t_ + 5) - 5))) (pk_sub (a := (t_ + 5)) (b := 5) (by omega)) ?_
        refine lv_re (y := (nI t_)) (by rw [Nat.add_sub_cancel]) ?_
        refine rd_V (As := [.int (nI t_)]) (rest := []) ⟨hx, hb, hml, hown, hts⟩ (c_X3_member l D hnb ([.ref hfd, .int (nI nz')]) hfd cI nz' fd' (nI t_) rfl rfl hn3) (cwV 1 hts gX7_concept_X3_member rfl rfl rfl (by decide +kernel) ⟨Nat.le_of_ble_eq_true rfl, Nat.le_of_ble_eq_true rfl⟩) (hP.sub (ws' := [(hnb, .inr (3, [.ref hfd, .int (nI nz')])), (hfd, .inl (cI, 20, .inl (fun i_ => nI (fd' i_))))]) [4, 5] rfl) (hK.sub (tys' := [(cI, .int)]) [0] rfl) (va_recv hK hP (ci := 3) (q0 := 4) rfl rfl) rfl rfl hl.1 rfl (lv_room (Nat.le_of_ble_eq_true rfl)) dX7_concept_159 ⟨Nat.le_of_ble_eq_true rfl, Nat.le_of_ble_eq_true rfl⟩ ?_
        have hP := hP.sub (ws' := [(h0, .inr (6, fs)), (ht, .inr (5, ft)), (hro, .inl (cI, 20, .inl (fun i_ => nI (r i_)))), (hf, .inr (1, [.ref hme, .ref hle, .int (nI n), .int (nI z), .int (b2 true)])), (hme, .inl (cI, N, .inl (fun i_ => nI (mem' i_)))), (hle, .inl (cI, N, .inl (fun i_ => lvO (g' i_)))), (hnb, .inr (3, [.ref hfd, .int (nI nz')])), (hfd, .inl (cI, 20, .inl (fun i_ => nI (fd' i_))))]) [0, 6, 7, 1, 2, 3, 4, 5] rfl
        have hD := hD.sub (ws' := [(h0, .inr (6, fs)), (ht, .inr (5, ft)), (hro, .inl (cI, 20, .inl (fun i_ => nI (r i_)))), (hf, .inr (1, [.ref hme, .ref hle, .int (nI n), .int (nI z), .int (b2 true)])), (hme, .inl (cI, N, .inl (fun i_ => nI (mem' i_)))), (hle, .inl (cI, N, .inl (fun i_ => lvO (g' i_)))), (hnb, .inr (3, [.ref hfd, .int (nI nz')])), (hfd, .inl (cI, 20, .inl (fun i_ => nI (fd' i_))))]) [0, 6, 7, 1, 2, 3, 4, 5] (by decide) rfl
        exact W.iret (v := (if (decide (¬ (nI t_) < 0) && decide (¬ nI nz' ≤ (nI t_))) = true then nI (fd' (nI t_).toNatClampNeg) else -1)) hx hb hr (fun t ht hW => ⟨⟨(mem', g', nz', fd', L'), rfl, ⟨hF, hG, hL, hV, hn1, hn2, hn3, hn4⟩, by rw [ht]; exact hP, hD⟩, hS.F ht⟩) hS.2.2 dX7_concept_162
      · have c_19 : z ≤ i := Nat.le_of_not_lt (fun h_ => c_19 ((nI_ltI (a := i) (b := z) (by omega) (by omega)).mpr h_))
        exact absurd hi (by omega)
  · have c_1 : (t_ + 5) < 0 := Nat.lt_of_not_le (fun h_ => c_1 ((nI_leI (a := 0) (b := (t_ + 5)) (by omega) (by omega)).mpr h_))
    exact absurd c_1 (by omega)

set_option maxHeartbeats 4000000 in
set_option maxRecDepth 100000 in
theorem c_X7_count_4 (l : Launch) (D : va_G) (sz : Nat) (h0 : Nat) (fs : List Value) (ht : Nat) (ft : List Value) (hro : Nat) (n : Nat) (o : Nat) (cI : ClassId) (r : Nat → Nat) (hf : Nat) (hme : Nat) (hle : Nat) (z : Nat) (ar : Bool) (N : Nat) (mem : Nat → Nat) (g : Nat → Option Nat) (hnb : Nat) (hfd : Nat) (nz : Nat) (fd : Nat → Nat) (c0 : fs[0]? = some (.ref ht)) (c1 : fs[1]? = some (.ref hnb)) (c3 : fs[3]? = some (.ref hf)) (t0 : ft[0]? = some (.ref hro)) (t1 : ft[1]? = some (.int (nI n))) (t2 : ft[2]? = some (.int (nI o))) (hn : n ≤ 12) (ho : o ≤ 20) (hN : 2 ^ n ≤ N) (hN2 : N ≤ 4096) (hfam : FamOK n g mem z) (hgc : ∀ q, q < 2 ^ n → (gB g q = true ↔ clo r n o q = q)) (har : ar = true → lstAt mem (CL r n o) ∧ ∀ q, q < 2 ^ n → gB g q = true → g q = some (LV r n o q)) : Met l yX7_count wsX7_count ({ frames := 5, cells := 0, slots := 0, locals := 108 }) (va_Pc [.ref h0, .int (4 : Int32)] (fun U => U.heap.size = sz ∧ va_P D vwCl [(h0, .inr (6, fs)), (ht, .inr (5, ft)), (hro, .inl (cI, 20, .inl (fun i_ => nI (r i_)))), (hf, .inr (1, [.ref hme, .ref hle, .int (nI n), .int (nI z), .int (b2 ar)])), (hme, .inl (cI, N, .inl (fun i_ => nI (mem i_)))), (hle, .inl (cI, N, .inl (fun i_ => lvO (g i_)))), (hnb, .inr (3, [.ref hfd, .int (nI nz)])), (hfd, .inl (cI, 20, .inl (fun i_ => nI (fd i_))))] U.heap ∧ va_K D vwCl [(cI, .int)] U ∧ va_D (fun _ => True) [(h0, .inr (6, fs)), (ht, .inr (5, ft)), (hro, .inl (cI, 20, .inl (fun i_ => nI (r i_)))), (hf, .inr (1, [.ref hme, .ref hle, .int (nI n), .int (nI z), .int (b2 ar)])), (hme, .inl (cI, N, .inl (fun i_ => nI (mem i_)))), (hle, .inl (cI, N, .inl (fun i_ => lvO (g i_)))), (hnb, .inr (3, [.ref hfd, .int (nI nz)])), (hfd, .inl (cI, 20, .inl (fun i_ => nI (fd i_))))])) (mxQ (fun u_ : (Nat → Nat) × (Nat → Option Nat) => match u_ with | (mem', g') => (some (.int (nI (LV r n o (2 ^ n - 1)))))) (fun u_ : (Nat → Nat) × (Nat → Option Nat) => match u_ with | (mem', g') => (FamOK n g' mem' z) ∧ (∀ q, q < 2 ^ n → (gB g' q = true ↔ clo r n o q = q)) ∧ (lstAt mem' (CL r n o)) ∧ (∀ q, q < 2 ^ n → gB g' q = true → g' q = some (LV r n o q))) (fun u_ : (Nat → Nat) × (Nat → Option Nat) => match u_ with | (mem', g') => [(h0, .inr (6, fs)), (ht, .inr (5, ft)), (hro, .inl (cI, 20, .inl (fun i_ => nI (r i_)))), (hf, .inr (1, [.ref hme, .ref hle, .int (nI n), .int (nI z), .int (b2 true)])), (hme, .inl (cI, N, .inl (fun i_ => nI (mem' i_)))), (hle, .inl (cI, N, .inl (fun i_ => lvO (g' i_)))), (hnb, .inr (3, [.ref hfd, .int (nI nz)])), (hfd, .inl (cI, 20, .inl (fun i_ => nI (fd i_))))]) D vwCl (va_A [(h0, .inr (6, fs)), (ht, .inr (5, ft)), (hro, .inl (cI, 20, .inl (fun i_ => nI (r i_)))), (hf, .inr (1, [.ref hme, .ref hle, .int (nI n), .int (nI z), .int (b2 ar)])), (hme, .inl (cI, N, .inl (fun i_ => nI (mem i_)))), (hle, .inl (cI, N, .inl (fun i_ => lvO (g i_)))), (hnb, .inr (3, [.ref hfd, .int (nI nz)])), (hfd, .inl (cI, 20, .inl (fun i_ => nI (fd i_))))] sz)) 0 0 (va_A [(h0, .inr (6, fs)), (ht, .inr (5, ft)), (hro, .inl (cI, 20, .inl (fun i_ => nI (r i_)))), (hf, .inr (1, [.ref hme, .ref hle, .int (nI n), .int (nI z), .int (b2 ar)])), (hme, .inl (cI, N, .inl (fun i_ => nI (mem i_)))), (hle, .inl (cI, N, .inl (fun i_ => lvO (g i_)))), (hnb, .inr (3, [.ref hfd, .int (nI nz)])), (hfd, .inl (cI, 20, .inl (fun i_ => nI (fd i_))))] sz) := by
  refine Met.ofW (cc := cX7_count) (maxL := 2) (ret := (some .int)) (by decide) rfl ?_
  intro p e s m args below meth c s₁ B hml hv
  obtain ⟨rfl, hsz, hP, hK, hD0⟩ := hv
  have hx := B.exec
  have hb := B.bytes
  have hr := B.returns
  have hts := atoms_spec (ws := wsX7_count) B.pre
  have hown : s.vm.findClass RX7 = some m.cls := findClass_of_methodNamed B.named
  have hlocks := B.notSynchronized
  subst hsz
  have hD := hD0.self (sz := s.heap.size)
  generalize hAe : va_A [(h0, .inr (6, fs)), (ht, .inr (5, ft)), (hro, .inl (cI, 20, .inl (fun i_ => nI (r i_)))), (hf, .inr (1, [.ref hme, .ref hle, .int (nI n), .int (nI z), .int (b2 ar)])), (hme, .inl (cI, N, .inl (fun i_ => nI (mem i_)))), (hle, .inl (cI, N, .inl (fun i_ => lvO (g i_)))), (hnb, .inr (3, [.ref hfd, .int (nI nz)])), (hfd, .inl (cI, 20, .inl (fun i_ => nI (fd i_))))] s.heap.size = A at hD ⊢
  have hA : ∀ q : Nat, s.heap.size ≤ q → A q := fun q h => by rw [← hAe]; exact Or.inr h
  have hS : va_S A s.heap s.heap [] := va_S.rf
  have hl := lv_entry ([.ref h0, .int (4 : Int32)]) (n := 2) (Nat.le_of_ble_eq_true rfl)
  rw [lg_entry_eq]
  generalize (lg_sl ([.ref h0, .int (4 : Int32)]) ++ List.replicate (2 - (lg_sl ([.ref h0, .int (4 : Int32)])).length) Slot.unset).toArray = ls at hl ⊢
  have hl : lv_has ls 2 [(0, .ref h0), (1, .int (4 : Int32))] := hl
  refine lv_iload_n hx hb dX7_count_0 rfl (lv_at hl 1 rfl) ?_
  refine lv_tableIn (tgt := 74) hx hb dX7_count_1 (by decide) (by decide) (off := 73) rfl (by decide) ?_
  refine lv_aload_n hx hb dX7_count_74 rfl (lv_at hl 0 rfl) ?_
  refine va_get (D := D) (ci := 6) (v := .ref hf) (C := RX7) (T := TX7) (N := 5) hx hb hts (by decide +kernel) hown hK hP 0 rfl rfl 3 (by decide) (hts (.fieldLink RX7 33 "ConceptTable" "family" "LConceptTable$Family;") (by decide +kernel)) (fun _ h9 => h9) c3 dX7_count_75 ?_
  refine lv_aload_n hx hb dX7_count_78 rfl (lv_at hl 0 rfl) ?_
  refine va_get (D := D) (ci := 6) (v := .ref ht) (C := RX7) (T := TX7) (N := 5) hx hb hts (by decide +kernel) hown hK hP 0 rfl rfl 0 (by decide) (hts (.fieldLink RX7 12 "ConceptTable" "table" "LConceptTable$Table;") (by decide +kernel)) (fun _ h9 => h9) c0 dX7_count_79 ?_
  have hPc := hP.sub (ws' := [(hf, .inr (1, [.ref hme, .ref hle, .int (nI n), .int (nI z), .int (b2 ar)])), (hme, .inl (cI, N, .inl (fun i_ => nI (mem i_)))), (hle, .inl (cI, N, .inl (fun i_ => lvO (g i_)))), (ht, .inr (5, ft)), (hro, .inl (cI, 20, .inl (fun i_ => nI (r i_))))]) [3, 4, 5, 1, 2] rfl
  have hDc := hD.sub (ws' := [(hf, .inr (1, [.ref hme, .ref hle, .int (nI n), .int (nI z), .int (b2 ar)])), (hme, .inl (cI, N, .inl (fun i_ => nI (mem i_)))), (hle, .inl (cI, N, .inl (fun i_ => lvO (g i_)))), (ht, .inr (5, ft)), (hro, .inl (cI, 20, .inl (fun i_ => nI (r i_))))]) [3, 4, 5, 1, 2] (by decide) rfl
  have hKc := hK.sub (tys' := [(cI, .int)]) [0] rfl
  have hFc := va_free (wc := [(hf, .inr (1, [.ref hme, .ref hle, .int (nI n), .int (nI z), .int (b2 ar)])), (hme, .inl (cI, N, .inl (fun i_ => nI (mem i_)))), (hle, .inl (cI, N, .inl (fun i_ => lvO (g i_)))), (ht, .inr (5, ft)), (hro, .inl (cI, 20, .inl (fun i_ => nI (r i_))))]) hD hS hA [3, 4, 5, 1, 2] rfl
  refine mx_call (va_runV (As := [.ref ht]) (rest := []) ⟨hx, hb, hml, hown, hts⟩ (c_X1_arrange l D s.heap.size hf hme hle n z ar cI N mem g ht ft hro o r (LV r n o) t0 t2 hn ho hN hN2 hfam (LV_le hn) (ar_pre hgc har) (fun q k hq hg hk => (hgc _ (Nat.lt_of_le_of_lt Nat.and_le_left hq)).mpr (clo_meet hq ((hgc q hq).mp hg) hk)) (fun q hq hg => LV_rows hq ((hgc q hq).mp hg)) (by rw [← CLp_BLp hgc]; exact CL_size hfam hgc)) (cwV 1 hts gX7_count_X1_arrange rfl rfl rfl (by decide +kernel) ⟨Nat.le_of_ble_eq_true rfl, Nat.le_of_ble_eq_true rfl⟩) ⟨mu_bl, va_recv hKc hPc (ci := 1) (q0 := 0) rfl rfl, fun U hU hW => ⟨rfl, by rw [hU], by rw [hU]; exact hPc, va_K.moved hW.alike hKc, hDc.weaken (fun _ _ _ _ => trivial)⟩⟩ rfl rfl hl.1 rfl (lv_room (Nat.le_of_ble_eq_true rfl)) dX7_count_82 ⟨Nat.le_of_ble_eq_true rfl, Nat.le_of_ble_eq_true rfl⟩) hS (fun q _ h => hFc q h) hFc (fun u_ H1 locs hq_ hP1 hD1 hk1 hS => ?_)
  obtain ⟨mem', g'⟩ := u_
  have hP1 : va_P D vwCl [(hf, .inr (1, [.ref hme, .ref hle, .int (nI n), .int (nI z), .int (b2 true)])), (hme, .inl (cI, N, .inl (fun i_ => nI (mem' i_)))), (hle, .inl (cI, N, .inl (fun i_ => lvO (g' i_)))), (ht, .inr (5, ft)), (hro, .inl (cI, 20, .inl (fun i_ => nI (r i_))))] H1 := hP1
  have hD1 : va_D (va_A [(hf, .inr (1, [.ref hme, .ref hle, .int (nI n), .int (nI z), .int (b2 ar)])), (hme, .inl (cI, N, .inl (fun i_ => nI (mem i_)))), (hle, .inl (cI, N, .inl (fun i_ => lvO (g i_)))), (ht, .inr (5, ft)), (hro, .inl (cI, 20, .inl (fun i_ => nI (r i_))))] s.heap.size) [(hf, .inr (1, [.ref hme, .ref hle, .int (nI n), .int (nI z), .int (b2 true)])), (hme, .inl (cI, N, .inl (fun i_ => nI (mem' i_)))), (hle, .inl (cI, N, .inl (fun i_ => lvO (g' i_)))), (ht, .inr (5, ft)), (hro, .inl (cI, 20, .inl (fun i_ => nI (r i_))))] := hD1
  obtain ⟨hF, hB0, hL0, hV⟩ := hq_
  have hF : FamOK n g' mem' z := hF
  have hB0 : ∀ x, gB g' x = gB g x := hB0
  have hL0 : lstAt mem' (BLp (gB g) n (2 ^ n)) := hL0
  have hV : ∀ q, q < 2 ^ n → gB g' q = true → g' q = some ((LV r n o) q) := hV
  obtain ⟨hP, hD⟩ := va_join (wr := [(h0, .inr (6, fs)), (hnb, .inr (3, [.ref hfd, .int (nI nz)])), (hfd, .inl (cI, 20, .inl (fun i_ => nI (fd i_))))]) (w1 := [(hf, .inr (1, [.ref hme, .ref hle, .int (nI n), .int (nI z), .int (b2 true)])), (hme, .inl (cI, N, .inl (fun i_ => nI (mem' i_)))), (hle, .inl (cI, N, .inl (fun i_ => lvO (g' i_)))), (ht, .inr (5, ft)), (hro, .inl (cI, 20, .inl (fun i_ => nI (r i_))))]) hP hD [3, 4, 5, 1, 2] [0, 6, 7] rfl rfl (by decide) (by decide) hk1 hFc hP1 hD1
  generalize H1 = H at hP hS ⊢
  have hP : va_P D vwCl [(h0, .inr (6, fs)), (hnb, .inr (3, [.ref hfd, .int (nI nz)])), (hfd, .inl (cI, 20, .inl (fun i_ => nI (fd i_)))), (hf, .inr (1, [.ref hme, .ref hle, .int (nI n), .int (nI z), .int (b2 true)])), (hme, .inl (cI, N, .inl (fun i_ => nI (mem' i_)))), (hle, .inl (cI, N, .inl (fun i_ => lvO (g' i_)))), (ht, .inr (5, ft)), (hro, .inl (cI, 20, .inl (fun i_ => nI (r i_))))] H := hP
  have hD : va_D A [(h0, .inr (6, fs)), (hnb, .inr (3, [.ref hfd, .int (nI nz)])), (hfd, .inl (cI, 20, .inl (fun i_ => nI (fd i_)))), (hf, .inr (1, [.ref hme, .ref hle, .int (nI n), .int (nI z), .int (b2 true)])), (hme, .inl (cI, N, .inl (fun i_ => nI (mem' i_)))), (hle, .inl (cI, N, .inl (fun i_ => lvO (g' i_)))), (ht, .inr (5, ft)), (hro, .inl (cI, 20, .inl (fun i_ => nI (r i_))))] := hD
  have hG : ∀ q, q < 2 ^ n → (gB g' q = true ↔ clo r n o q = q) := fun q hq => by rw [hB0]; exact hgc q hq
  have hL : lstAt mem' (CL r n o) := by unfold CL; rw [CLp_BLp hgc]; exact hL0
  have h2n := p2_le hn
  have hcz := CL_size hfam hgc
  have hmm : ∀ j, j < z → mem' j < 2 ^ n ∧ clo r n o (mem' j) = mem' j := fun j hj => CL_mem.mp (lstAt_mem hL (by rw [hcz]; exact hj))
  have hzl := cnt_le (gB g) (2 ^ n)
  rw [← hfam.1] at hzl
  refine lv_aload_n hx hb dX7_count_85 rfl (lv_at hl 0 rfl) ?_
  refine va_get (D := D) (ci := 6) (v := .ref hf) (C := RX7) (T := TX7) (N := 5) hx hb hts (by decide +kernel) hown hK hP 0 rfl rfl 3 (by decide) (hts (.fieldLink RX7 33 "ConceptTable" "family" "LConceptTable$Family;") (by decide +kernel)) (fun _ h9 => h9) c3 dX7_count_86 ?_
  refine lv_aload_n hx hb dX7_count_89 rfl (lv_at hl 0 rfl) ?_
  refine va_get (D := D) (ci := 6) (v := .ref ht) (C := RX7) (T := TX7) (N := 5) hx hb hts (by decide +kernel) hown hK hP 0 rfl rfl 0 (by decide) (hts (.fieldLink RX7 12 "ConceptTable" "table" "LConceptTable$Table;") (by decide +kernel)) (fun _ h9 => h9) c0 dX7_count_90 ?_
  refine rd_V (As := []) (rest := [.ref hf]) ⟨hx, hb, hml, hown, hts⟩ (c_X6_allAttributes l D ht ft n t1 (by assumption)) (cwV 0 hts gX7_count_X6_allAttributes rfl rfl rfl (by decide +kernel) ⟨Nat.le_of_ble_eq_true rfl, Nat.le_of_ble_eq_true rfl⟩) (hP.sub (ws' := [(ht, .inr (5, ft))]) [6] rfl) (hK.sub (tys' := []) [] rfl) (va_recv hK hP (ci := 5) (q0 := 6) rfl rfl) rfl rfl hl.1 rfl (lv_room (Nat.le_of_ble_eq_true rfl)) dX7_count_93 ⟨Nat.le_of_ble_eq_true rfl, Nat.le_of_ble_eq_true rfl⟩ ?_
  refine rd_V (As := [.int (nI (2 ^ n - 1))]) (rest := []) ⟨hx, hb, hml, hown, hts⟩ (c_X1_levelOf_v l D hf ([.ref hme, .ref hle, .int (nI n), .int (nI z), .int (b2 true)]) hle cI N g' (2 ^ n - 1) (LV r n o (2 ^ n - 1)) rfl (by have := p2_pos n; omega) hN2 (hV _ (by have := p2_pos n; omega) ((hG _ (by have := p2_pos n; omega)).mpr (clo_top r n o)))) (cwV 1 hts gX7_count_X1_levelOf rfl rfl rfl (by decide +kernel) ⟨Nat.le_of_ble_eq_true rfl, Nat.le_of_ble_eq_true rfl⟩) (hP.sub (ws' := [(hf, .inr (1, [.ref hme, .ref hle, .int (nI n), .int (nI z), .int (b2 true)])), (hle, .inl (cI, N, .inl (fun i_ => lvO (g' i_))))]) [3, 5] rfl) (hK.sub (tys' := [(cI, .int)]) [0] rfl) (va_recv hK hP (ci := 1) (q0 := 3) rfl rfl) rfl rfl hl.1 rfl (lv_room (Nat.le_of_ble_eq_true rfl)) dX7_count_96 ⟨Nat.le_of_ble_eq_true rfl, Nat.le_of_ble_eq_true rfl⟩ ?_
  have hP := hP.sub (ws' := [(h0, .inr (6, fs)), (ht, .inr (5, ft)), (hro, .inl (cI, 20, .inl (fun i_ => nI (r i_)))), (hf, .inr (1, [.ref hme, .ref hle, .int (nI n), .int (nI z), .int (b2 true)])), (hme, .inl (cI, N, .inl (fun i_ => nI (mem' i_)))), (hle, .inl (cI, N, .inl (fun i_ => lvO (g' i_)))), (hnb, .inr (3, [.ref hfd, .int (nI nz)])), (hfd, .inl (cI, 20, .inl (fun i_ => nI (fd i_))))]) [0, 6, 7, 3, 4, 5, 1, 2] rfl
  have hD := hD.sub (ws' := [(h0, .inr (6, fs)), (ht, .inr (5, ft)), (hro, .inl (cI, 20, .inl (fun i_ => nI (r i_)))), (hf, .inr (1, [.ref hme, .ref hle, .int (nI n), .int (nI z), .int (b2 true)])), (hme, .inl (cI, N, .inl (fun i_ => nI (mem' i_)))), (hle, .inl (cI, N, .inl (fun i_ => lvO (g' i_)))), (hnb, .inr (3, [.ref hfd, .int (nI nz)])), (hfd, .inl (cI, 20, .inl (fun i_ => nI (fd i_))))]) [0, 6, 7, 3, 4, 5, 1, 2] (by decide) rfl
  exact W.iret (v := (nI (LV r n o (2 ^ n - 1)))) hx hb hr (fun t ht hW => ⟨⟨(mem', g'), rfl, ⟨hF, hG, hL, hV⟩, by rw [ht]; exact hP, hD⟩, hS.F ht⟩) hS.2.2 dX7_count_99
