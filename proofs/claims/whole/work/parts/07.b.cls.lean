set_option maxHeartbeats 4000000 in
set_option maxRecDepth 100000 in
theorem c_X7_addRow (l : Launch) (D : va_G) (sz : Nat) (h0 : Nat) (fs : List Value) (ht : Nat) (hro : Nat) (n : Nat) (o : Nat) (cI : ClassId) (r : Nat → Nat) (hf : Nat) (hme : Nat) (hle : Nat) (z : Nat) (ar : Bool) (N : Nat) (mem : Nat → Nat) (g : Nat → Option Nat) (hbs : Nat) (hru : Nat) (hjo : Nat) (bt : Bool) (w : Nat) (c0 : fs[0]? = some (.ref ht)) (c3 : fs[3]? = some (.ref hf)) (c4 : fs[4]? = some (.ref hbs)) (hn : n ≤ 12) (ho : o < 20) (hN : 2 ^ n ≤ N) (hN2 : N ≤ 4096) (hfam : FamOK n g mem z) : Met l yX7_addRow wsX7_addRow ({ frames := 5, cells := 0, slots := 0, locals := 107 }) (va_Pc [.ref h0, .int (nI w)] (fun U => U.heap.size = sz ∧ va_P D vwCl [(h0, .inr (6, fs)), (ht, .inr (5, [.ref hro, .int (nI n), .int (nI o)])), (hro, .inl (cI, 20, .inl (fun i_ => nI (r i_)))), (hf, .inr (1, [.ref hme, .ref hle, .int (nI n), .int (nI z), .int (b2 ar)])), (hme, .inl (cI, N, .inl (fun i_ => nI (mem i_)))), (hle, .inl (cI, N, .inl (fun i_ => lvO (g i_)))), (hbs, .inr (0, [.ref hru, .ref hjo, .int (b2 bt)]))] U.heap ∧ va_K D vwCl [(cI, .int)] U ∧ va_D (fun _ => True) [(h0, .inr (6, fs)), (ht, .inr (5, [.ref hro, .int (nI n), .int (nI o)])), (hro, .inl (cI, 20, .inl (fun i_ => nI (r i_)))), (hf, .inr (1, [.ref hme, .ref hle, .int (nI n), .int (nI z), .int (b2 ar)])), (hme, .inl (cI, N, .inl (fun i_ => nI (mem i_)))), (hle, .inl (cI, N, .inl (fun i_ => lvO (g i_)))), (hbs, .inr (0, [.ref hru, .ref hjo, .int (b2 bt)]))])) (mxQ (fun u_ : Nat × Bool × (Nat → Nat) × (Nat → Option Nat) => match u_ with | (z', ar', mem', g') => (some (.int (nI o)))) (fun u_ : Nat × Bool × (Nat → Nat) × (Nat → Option Nat) => match u_ with | (z', ar', mem', g') => (FamOK n g' mem' z') ∧ (∀ x, x < 2 ^ n → (gB g' x = true ↔ gB g x = true ∨ ∃ p, p < 2 ^ n ∧ gB g p = true ∧ (p &&& w) = x)) ∧ (ar' = true → ar = true ∧ g' = g ∧ mem' = mem ∧ z' = z)) (fun u_ : Nat × Bool × (Nat → Nat) × (Nat → Option Nat) => match u_ with | (z', ar', mem', g') => [(h0, .inr (6, fs)), (ht, .inr (5, [.ref hro, .int (nI n), .int (nI (o + 1))])), (hro, .inl (cI, 20, .inl (fun i_ => nI ((va_up r o w) i_)))), (hf, .inr (1, [.ref hme, .ref hle, .int (nI n), .int (nI z'), .int (b2 ar')])), (hme, .inl (cI, N, .inl (fun i_ => nI (mem' i_)))), (hle, .inl (cI, N, .inl (fun i_ => lvO (g' i_)))), (hbs, .inr (0, [.ref hru, .ref hjo, .int (b2 false)]))]) D vwCl (va_A [(h0, .inr (6, fs)), (ht, .inr (5, [.ref hro, .int (nI n), .int (nI o)])), (hro, .inl (cI, 20, .inl (fun i_ => nI (r i_)))), (hf, .inr (1, [.ref hme, .ref hle, .int (nI n), .int (nI z), .int (b2 ar)])), (hme, .inl (cI, N, .inl (fun i_ => nI (mem i_)))), (hle, .inl (cI, N, .inl (fun i_ => lvO (g i_)))), (hbs, .inr (0, [.ref hru, .ref hjo, .int (b2 bt)]))] sz)) 0 0 (va_A [(h0, .inr (6, fs)), (ht, .inr (5, [.ref hro, .int (nI n), .int (nI o)])), (hro, .inl (cI, 20, .inl (fun i_ => nI (r i_)))), (hf, .inr (1, [.ref hme, .ref hle, .int (nI n), .int (nI z), .int (b2 ar)])), (hme, .inl (cI, N, .inl (fun i_ => nI (mem i_)))), (hle, .inl (cI, N, .inl (fun i_ => lvO (g i_)))), (hbs, .inr (0, [.ref hru, .ref hjo, .int (b2 bt)]))] sz) := by
  refine Met.ofW (cc := cX7_addRow) (maxL := 3) (ret := (some .int)) (by decide) rfl ?_
  intro p e s m args below meth c s₁ B hml hv
  obtain ⟨rfl, hsz, hP, hK, hD0⟩ := hv
  have hx := B.exec
  have hb := B.bytes
  have hr := B.returns
  have hts := atoms_spec (ws := wsX7_addRow) B.pre
  have hown : s.vm.findClass RX7 = some m.cls := findClass_of_methodNamed B.named
  have hlocks := B.notSynchronized
  subst hsz
  have hD := hD0.self (sz := s.heap.size)
  generalize hAe : va_A [(h0, .inr (6, fs)), (ht, .inr (5, [.ref hro, .int (nI n), .int (nI o)])), (hro, .inl (cI, 20, .inl (fun i_ => nI (r i_)))), (hf, .inr (1, [.ref hme, .ref hle, .int (nI n), .int (nI z), .int (b2 ar)])), (hme, .inl (cI, N, .inl (fun i_ => nI (mem i_)))), (hle, .inl (cI, N, .inl (fun i_ => lvO (g i_)))), (hbs, .inr (0, [.ref hru, .ref hjo, .int (b2 bt)]))] s.heap.size = A at hD ⊢
  have hA : ∀ q : Nat, s.heap.size ≤ q → A q := fun q h => by rw [← hAe]; exact Or.inr h
  have hS : va_S A s.heap s.heap [] := va_S.rf
  have hl := lv_entry ([.ref h0, .int (nI w)]) (n := 3) (Nat.le_of_ble_eq_true rfl)
  rw [lg_entry_eq]
  generalize (lg_sl ([.ref h0, .int (nI w)]) ++ List.replicate (3 - (lg_sl ([.ref h0, .int (nI w)])).length) Slot.unset).toArray = ls at hl ⊢
  have hl : lv_has ls 3 [(0, .ref h0), (1, .int (nI w))] := hl
  refine lv_aload_n hx hb dX7_addRow_0 rfl (lv_at hl 0 rfl) ?_
  refine va_get (D := D) (ci := 6) (v := .ref ht) (C := RX7) (T := TX7) (N := 5) hx hb hts (by decide +kernel) hown hK hP 0 rfl rfl 0 (by decide) (hts (.fieldLink RX7 12 "ConceptTable" "table" "LConceptTable$Table;") (by decide +kernel)) (fun _ h9 => h9) c0 dX7_addRow_1 ?_
  refine lv_iload_n hx hb dX7_addRow_4 rfl (lv_at hl 1 rfl) ?_
  have hPc := hP.sub (ws' := [(ht, .inr (5, [.ref hro, .int (nI n), .int (nI o)])), (hro, .inl (cI, 20, .inl (fun i_ => nI (r i_))))]) [1, 2] rfl
  have hDc := hD.sub (ws' := [(ht, .inr (5, [.ref hro, .int (nI n), .int (nI o)])), (hro, .inl (cI, 20, .inl (fun i_ => nI (r i_))))]) [1, 2] (by decide) rfl
  have hKc := hK.sub (tys' := [(cI, .int)]) [0] rfl
  have hFc := va_free (wc := [(ht, .inr (5, [.ref hro, .int (nI n), .int (nI o)])), (hro, .inl (cI, 20, .inl (fun i_ => nI (r i_))))]) hD hS hA [1, 2] rfl
  refine mu_call (va_runV (As := [.int (nI w)]) (rest := []) ⟨hx, hb, hml, hown, hts⟩ (c_X6_append l D s.heap.size ht hro n o cI r w ho) (cwV 1 hts gX7_addRow_X6_append rfl rfl rfl (by decide +kernel) ⟨Nat.le_of_ble_eq_true rfl, Nat.le_of_ble_eq_true rfl⟩) ⟨mu_bl, va_recv hKc hPc (ci := 5) (q0 := 0) rfl rfl, fun U hU hW => ⟨rfl, by rw [hU], by rw [hU]; exact hPc, va_K.moved hW.alike hKc, hDc.weaken (fun _ _ _ _ => trivial)⟩⟩ rfl rfl hl.1 rfl (lv_room (Nat.le_of_ble_eq_true rfl)) dX7_addRow_5 ⟨Nat.le_of_ble_eq_true rfl, Nat.le_of_ble_eq_true rfl⟩) hS (fun q _ h => hFc q h) hFc (fun H1 locs hP1 hD1 hk1 hS => ?_)
  obtain ⟨hP, hD⟩ := va_join (wr := [(h0, .inr (6, fs)), (hf, .inr (1, [.ref hme, .ref hle, .int (nI n), .int (nI z), .int (b2 ar)])), (hme, .inl (cI, N, .inl (fun i_ => nI (mem i_)))), (hle, .inl (cI, N, .inl (fun i_ => lvO (g i_)))), (hbs, .inr (0, [.ref hru, .ref hjo, .int (b2 bt)]))]) (w1 := [(ht, .inr (5, [.ref hro, .int (nI n), .int (nI (o + 1))])), (hro, .inl (cI, 20, .inl (fun i_ => nI ((va_up r o w) i_))))]) hP hD [1, 2] [0, 3, 4, 5, 6] rfl rfl (by decide) (by decide) hk1 hFc hP1 hD1
  generalize H1 = H at hP hS ⊢
  have hP : va_P D vwCl [(h0, .inr (6, fs)), (hf, .inr (1, [.ref hme, .ref hle, .int (nI n), .int (nI z), .int (b2 ar)])), (hme, .inl (cI, N, .inl (fun i_ => nI (mem i_)))), (hle, .inl (cI, N, .inl (fun i_ => lvO (g i_)))), (hbs, .inr (0, [.ref hru, .ref hjo, .int (b2 bt)])), (ht, .inr (5, [.ref hro, .int (nI n), .int (nI (o + 1))])), (hro, .inl (cI, 20, .inl (fun i_ => nI ((va_up r o w) i_))))] H := hP
  have hD : va_D A [(h0, .inr (6, fs)), (hf, .inr (1, [.ref hme, .ref hle, .int (nI n), .int (nI z), .int (b2 ar)])), (hme, .inl (cI, N, .inl (fun i_ => nI (mem i_)))), (hle, .inl (cI, N, .inl (fun i_ => lvO (g i_)))), (hbs, .inr (0, [.ref hru, .ref hjo, .int (b2 bt)])), (ht, .inr (5, [.ref hro, .int (nI n), .int (nI (o + 1))])), (hro, .inl (cI, 20, .inl (fun i_ => nI ((va_up r o w) i_))))] := hD
  refine lv_istore_n (lv' := [(2, .int (nI o)), (0, .ref h0), (1, .int (nI w))]) hx hb dX7_addRow_8 rfl hl (by decide) rfl (fun ls hl => ?_)
  refine lv_aload_n hx hb dX7_addRow_9 rfl (lv_at hl 1 rfl) ?_
  refine va_get (D := D) (ci := 6) (v := .ref hf) (C := RX7) (T := TX7) (N := 5) hx hb hts (by decide +kernel) hown hK hP 0 rfl rfl 3 (by decide) (hts (.fieldLink RX7 33 "ConceptTable" "family" "LConceptTable$Family;") (by decide +kernel)) (fun _ h9 => h9) c3 dX7_addRow_10 ?_
  refine lv_iload_n hx hb dX7_addRow_13 rfl (lv_at hl 2 rfl) ?_
  have hPc := hP.sub (ws' := [(hf, .inr (1, [.ref hme, .ref hle, .int (nI n), .int (nI z), .int (b2 ar)])), (hme, .inl (cI, N, .inl (fun i_ => nI (mem i_)))), (hle, .inl (cI, N, .inl (fun i_ => lvO (g i_))))]) [1, 2, 3] rfl
  have hDc := hD.sub (ws' := [(hf, .inr (1, [.ref hme, .ref hle, .int (nI n), .int (nI z), .int (b2 ar)])), (hme, .inl (cI, N, .inl (fun i_ => nI (mem i_)))), (hle, .inl (cI, N, .inl (fun i_ => lvO (g i_))))]) [1, 2, 3] (by decide) rfl
  have hKc := hK.sub (tys' := [(cI, .int)]) [0] rfl
  have hFc := va_free (wc := [(hf, .inr (1, [.ref hme, .ref hle, .int (nI n), .int (nI z), .int (b2 ar)])), (hme, .inl (cI, N, .inl (fun i_ => nI (mem i_)))), (hle, .inl (cI, N, .inl (fun i_ => lvO (g i_))))]) hD hS hA [1, 2, 3] rfl
  refine mx_call (va_runV (As := [.int (nI w)]) (rest := []) ⟨hx, hb, hml, hown, hts⟩ (c_X1_meetWith l D H.size hf hme hle n z ar cI N mem g w hn hN hN2 hfam) (cwV 1 hts gX7_addRow_X1_meetWith rfl rfl rfl (by decide +kernel) ⟨Nat.le_of_ble_eq_true rfl, Nat.le_of_ble_eq_true rfl⟩) ⟨mu_bl, va_recv hKc hPc (ci := 1) (q0 := 0) rfl rfl, fun U hU hW => ⟨rfl, by rw [hU], by rw [hU]; exact hPc, va_K.moved hW.alike hKc, hDc.weaken (fun _ _ _ _ => trivial)⟩⟩ rfl rfl hl.1 rfl (lv_room (Nat.le_of_ble_eq_true rfl)) dX7_addRow_14 ⟨Nat.le_of_ble_eq_true rfl, Nat.le_of_ble_eq_true rfl⟩) hS (fun q _ h => hFc q h) hFc (fun u_ H1 locs hq_ hP1 hD1 hk1 hS => ?_)
  obtain ⟨z', ar', mem', g'⟩ := u_
  have hP1 : va_P D vwCl [(hf, .inr (1, [.ref hme, .ref hle, .int (nI n), .int (nI z'), .int (b2 ar')])), (hme, .inl (cI, N, .inl (fun i_ => nI (mem' i_)))), (hle, .inl (cI, N, .inl (fun i_ => lvO (g' i_))))] H1 := hP1
  have hD1 : va_D (va_A [(hf, .inr (1, [.ref hme, .ref hle, .int (nI n), .int (nI z), .int (b2 ar)])), (hme, .inl (cI, N, .inl (fun i_ => nI (mem i_)))), (hle, .inl (cI, N, .inl (fun i_ => lvO (g i_))))] H.size) [(hf, .inr (1, [.ref hme, .ref hle, .int (nI n), .int (nI z'), .int (b2 ar')])), (hme, .inl (cI, N, .inl (fun i_ => nI (mem' i_)))), (hle, .inl (cI, N, .inl (fun i_ => lvO (g' i_))))] := hD1
  obtain ⟨hF, hB, hAr⟩ := hq_
  have hF : FamOK n g' mem' z' := hF
  have hB : ∀ x, x < 2 ^ n → (gB g' x = true ↔ gB g x = true ∨ ∃ p, p < 2 ^ n ∧ gB g p = true ∧ (p &&& w) = x) := hB
  have hAr : ar' = true → ar = true ∧ g' = g ∧ mem' = mem ∧ z' = z := hAr
  obtain ⟨hP, hD⟩ := va_join (wr := [(h0, .inr (6, fs)), (hbs, .inr (0, [.ref hru, .ref hjo, .int (b2 bt)])), (ht, .inr (5, [.ref hro, .int (nI n), .int (nI (o + 1))])), (hro, .inl (cI, 20, .inl (fun i_ => nI ((va_up r o w) i_))))]) (w1 := [(hf, .inr (1, [.ref hme, .ref hle, .int (nI n), .int (nI z'), .int (b2 ar')])), (hme, .inl (cI, N, .inl (fun i_ => nI (mem' i_)))), (hle, .inl (cI, N, .inl (fun i_ => lvO (g' i_))))]) hP hD [1, 2, 3] [0, 4, 5, 6] rfl rfl (by decide) (by decide) hk1 hFc hP1 hD1
  generalize H1 = H at hP hS ⊢
  have hP : va_P D vwCl [(h0, .inr (6, fs)), (hbs, .inr (0, [.ref hru, .ref hjo, .int (b2 bt)])), (ht, .inr (5, [.ref hro, .int (nI n), .int (nI (o + 1))])), (hro, .inl (cI, 20, .inl (fun i_ => nI ((va_up r o w) i_)))), (hf, .inr (1, [.ref hme, .ref hle, .int (nI n), .int (nI z'), .int (b2 ar')])), (hme, .inl (cI, N, .inl (fun i_ => nI (mem' i_)))), (hle, .inl (cI, N, .inl (fun i_ => lvO (g' i_))))] H := hP
  have hD : va_D A [(h0, .inr (6, fs)), (hbs, .inr (0, [.ref hru, .ref hjo, .int (b2 bt)])), (ht, .inr (5, [.ref hro, .int (nI n), .int (nI (o + 1))])), (hro, .inl (cI, 20, .inl (fun i_ => nI ((va_up r o w) i_)))), (hf, .inr (1, [.ref hme, .ref hle, .int (nI n), .int (nI z'), .int (b2 ar')])), (hme, .inl (cI, N, .inl (fun i_ => nI (mem' i_)))), (hle, .inl (cI, N, .inl (fun i_ => lvO (g' i_))))] := hD
  refine lv_aload_n hx hb dX7_addRow_17 rfl (lv_at hl 1 rfl) ?_
  refine va_get (D := D) (ci := 6) (v := .ref hbs) (C := RX7) (T := TX7) (N := 5) hx hb hts (by decide +kernel) hown hK hP 0 rfl rfl 4 (by decide) (hts (.fieldLink RX7 40 "ConceptTable" "stem" "LConceptTable$Base;") (by decide +kernel)) (fun _ h9 => h9) c4 dX7_addRow_18 ?_
  have hPc := hP.sub (ws' := [(hbs, .inr (0, [.ref hru, .ref hjo, .int (b2 bt)]))]) [1] rfl
  have hDc := hD.sub (ws' := [(hbs, .inr (0, [.ref hru, .ref hjo, .int (b2 bt)]))]) [1] (by decide) rfl
  have hKc := hK.sub (tys' := []) [] rfl
  have hFc := va_free (wc := [(hbs, .inr (0, [.ref hru, .ref hjo, .int (b2 bt)]))]) hD hS hA [1] rfl
  refine mu_call (va_runV (As := []) (rest := []) ⟨hx, hb, hml, hown, hts⟩ (c_X0_forget l D H.size hbs hru hjo bt ) (cwV 0 hts gX7_addRow_X0_forget rfl rfl rfl (by decide +kernel) ⟨Nat.le_of_ble_eq_true rfl, Nat.le_of_ble_eq_true rfl⟩) ⟨mu_bl, va_recv hKc hPc (ci := 0) (q0 := 0) rfl rfl, fun U hU hW => ⟨rfl, by rw [hU], by rw [hU]; exact hPc, va_K.moved hW.alike hKc, hDc.weaken (fun _ _ _ _ => trivial)⟩⟩ rfl rfl hl.1 rfl (lv_room (Nat.le_of_ble_eq_true rfl)) dX7_addRow_21 ⟨Nat.le_of_ble_eq_true rfl, Nat.le_of_ble_eq_true rfl⟩) hS (fun q _ h => hFc q h) hFc (fun H1 locs hP1 hD1 hk1 hS => ?_)
  obtain ⟨hP, hD⟩ := va_join (wr := [(h0, .inr (6, fs)), (ht, .inr (5, [.ref hro, .int (nI n), .int (nI (o + 1))])), (hro, .inl (cI, 20, .inl (fun i_ => nI ((va_up r o w) i_)))), (hf, .inr (1, [.ref hme, .ref hle, .int (nI n), .int (nI z'), .int (b2 ar')])), (hme, .inl (cI, N, .inl (fun i_ => nI (mem' i_)))), (hle, .inl (cI, N, .inl (fun i_ => lvO (g' i_))))]) (w1 := [(hbs, .inr (0, [.ref hru, .ref hjo, .int (b2 false)]))]) hP hD [1] [0, 2, 3, 4, 5, 6] rfl rfl (by decide) (by decide) hk1 hFc hP1 hD1
  generalize H1 = H at hP hS ⊢
  have hP : va_P D vwCl [(h0, .inr (6, fs)), (ht, .inr (5, [.ref hro, .int (nI n), .int (nI (o + 1))])), (hro, .inl (cI, 20, .inl (fun i_ => nI ((va_up r o w) i_)))), (hf, .inr (1, [.ref hme, .ref hle, .int (nI n), .int (nI z'), .int (b2 ar')])), (hme, .inl (cI, N, .inl (fun i_ => nI (mem' i_)))), (hle, .inl (cI, N, .inl (fun i_ => lvO (g' i_)))), (hbs, .inr (0, [.ref hru, .ref hjo, .int (b2 false)]))] H := hP
  have hD : va_D A [(h0, .inr (6, fs)), (ht, .inr (5, [.ref hro, .int (nI n), .int (nI (o + 1))])), (hro, .inl (cI, 20, .inl (fun i_ => nI ((va_up r o w) i_)))), (hf, .inr (1, [.ref hme, .ref hle, .int (nI n), .int (nI z'), .int (b2 ar')])), (hme, .inl (cI, N, .inl (fun i_ => nI (mem' i_)))), (hle, .inl (cI, N, .inl (fun i_ => lvO (g' i_)))), (hbs, .inr (0, [.ref hru, .ref hjo, .int (b2 false)]))] := hD
  refine lv_iload_n hx hb dX7_addRow_24 rfl (lv_at hl 0 rfl) ?_
  have hP := hP.sub (ws' := [(h0, .inr (6, fs)), (ht, .inr (5, [.ref hro, .int (nI n), .int (nI (o + 1))])), (hro, .inl (cI, 20, .inl (fun i_ => nI ((va_up r o w) i_)))), (hf, .inr (1, [.ref hme, .ref hle, .int (nI n), .int (nI z'), .int (b2 ar')])), (hme, .inl (cI, N, .inl (fun i_ => nI (mem' i_)))), (hle, .inl (cI, N, .inl (fun i_ => lvO (g' i_)))), (hbs, .inr (0, [.ref hru, .ref hjo, .int (b2 false)]))]) [0, 1, 2, 3, 4, 5, 6] rfl
  have hD := hD.sub (ws' := [(h0, .inr (6, fs)), (ht, .inr (5, [.ref hro, .int (nI n), .int (nI (o + 1))])), (hro, .inl (cI, 20, .inl (fun i_ => nI ((va_up r o w) i_)))), (hf, .inr (1, [.ref hme, .ref hle, .int (nI n), .int (nI z'), .int (b2 ar')])), (hme, .inl (cI, N, .inl (fun i_ => nI (mem' i_)))), (hle, .inl (cI, N, .inl (fun i_ => lvO (g' i_)))), (hbs, .inr (0, [.ref hru, .ref hjo, .int (b2 false)]))]) [0, 1, 2, 3, 4, 5, 6] (by decide) rfl
  exact W.iret (v := (nI o)) hx hb hr (fun t ht hW => ⟨⟨(z', ar', mem', g'), rfl, ⟨hF, hB, hAr⟩, by rw [ht]; exact hP, hD⟩, hS.F ht⟩) hS.2.2 dX7_addRow_25

set_option maxHeartbeats 4000000 in
set_option maxRecDepth 100000 in
theorem c_X7_object_bad (l : Launch) (D : va_G) (h0 : Nat) (fs : List Value) (ht : Nat) (ft : List Value) (n : Nat) (x : Int32) (c0 : fs[0]? = some (.ref ht)) (t1 : ft[1]? = some (.int (nI n))) (hn : n ≤ 12) (hb_ : sb x (nI (2 ^ n - 1)) = false) : Met l yX7_object wsX7_object ({ frames := 3, cells := 0, slots := 0, locals := 61 }) (va_Pc [.ref h0, .int x] (fun U => va_P D vwCl [(h0, .inr (6, fs)), (ht, .inr (5, ft))] U.heap ∧ va_K D vwCl [] U)) (QcRead (-2)) 0 0 (fun _ => False) := by
  refine Met.ofW (cc := cX7_object) (maxL := 2) (ret := (some .int)) (by decide) rfl ?_
  intro p e s m args below meth c s₁ B hml hv
  obtain ⟨rfl, hP, hK⟩ := hv
  have hx := B.exec
  have hb := B.bytes
  have hr := B.returns
  have hts := atoms_spec (ws := wsX7_object) B.pre
  have hown : s.vm.findClass RX7 = some m.cls := findClass_of_methodNamed B.named
  have hlocks := B.notSynchronized
  have hl := lv_entry ([.ref h0, .int x]) (n := 2) (Nat.le_of_ble_eq_true rfl)
  rw [lg_entry_eq]
  generalize (lg_sl ([.ref h0, .int x]) ++ List.replicate (2 - (lg_sl ([.ref h0, .int x])).length) Slot.unset).toArray = ls at hl ⊢
  have hl : lv_has ls 2 [(0, .ref h0), (1, .int x)] := hl
  refine lv_aload_n hx hb dX7_object_0 rfl (lv_at hl 0 rfl) ?_
  refine va_get (D := D) (ci := 6) (v := .ref ht) (C := RX7) (T := TX7) (N := 5) hx hb hts (by decide +kernel) hown hK hP 0 rfl rfl 0 (by decide) (hts (.fieldLink RX7 12 "ConceptTable" "table" "LConceptTable$Table;") (by decide +kernel)) (fun _ h9 => h9) c0 dX7_object_1 ?_
  refine lv_iload_n hx hb dX7_object_4 rfl (lv_at hl 1 rfl) ?_
  refine rd_V (As := [.int x]) (rest := []) ⟨hx, hb, hml, hown, hts⟩ (c_X6_isAttributeSet l D ht ft n x t1 (by assumption)) (cwV 1 hts gX7_object_X6_isAttributeSet rfl rfl rfl (by decide +kernel) ⟨Nat.le_of_ble_eq_true rfl, Nat.le_of_ble_eq_true rfl⟩) (hP.sub (ws' := [(ht, .inr (5, ft))]) [1] rfl) (hK.sub (tys' := []) [] rfl) (va_recv hK hP (ci := 5) (q0 := 1) rfl rfl) rfl rfl hl.1 rfl (lv_room (Nat.le_of_ble_eq_true rfl)) dX7_object_5 ⟨Nat.le_of_ble_eq_true rfl, Nat.le_of_ble_eq_true rfl⟩ ?_
  refine lv_if_ne (tgt := 14) hx hb dX7_object_8 (by decide) (fun c_8 => ?_) (fun c_8 => ?_)
  · have c_8 := b2_n0.mp c_8
    exact Bool.noConfusion (hb_.symm.trans c_8)
  · have c_8 := b2_0.mp c_8
    refine lv_bipush (v := -2) hx hb dX7_object_11 (by decide) ?_
    have e_ret : (-2 : Int32) = (-2) := by rfl
    exact W.iret (v := (-2 : Int32)) hx hb hr (fun t ht hW => ⟨congrArg (fun z_ => Outcome.returned (some (Value.int z_))) e_ret, ht⟩) (fun q h => by cases h) dX7_object_13

set_option maxHeartbeats 4000000 in
set_option maxRecDepth 100000 in
theorem c_X7_object_full (l : Launch) (D : va_G) (h0 : Nat) (fs : List Value) (ht : Nat) (ft : List Value) (hro : Nat) (cI : ClassId) (r : Nat → Nat) (n : Nat) (o : Nat) (x : Int32) (c0 : fs[0]? = some (.ref ht)) (t0 : ft[0]? = some (.ref hro)) (t1 : ft[1]? = some (.int (nI n))) (t2 : ft[2]? = some (.int (nI o))) (hn : n ≤ 12) (ho : o = 20) (hb_ : sb x (nI (2 ^ n - 1)) = true) : Met l yX7_object wsX7_object ({ frames := 3, cells := 0, slots := 0, locals := 61 }) (va_Pc [.ref h0, .int x] (fun U => va_P D vwCl [(h0, .inr (6, fs)), (ht, .inr (5, ft)), (hro, .inl (cI, 20, .inl (fun i_ => nI (r i_))))] U.heap ∧ va_K D vwCl [(cI, .int)] U)) (QcRead (-3)) 0 0 (fun _ => False) := by
  refine Met.ofW (cc := cX7_object) (maxL := 2) (ret := (some .int)) (by decide) rfl ?_
  intro p e s m args below meth c s₁ B hml hv
  obtain ⟨rfl, hP, hK⟩ := hv
  have hx := B.exec
  have hb := B.bytes
  have hr := B.returns
  have hts := atoms_spec (ws := wsX7_object) B.pre
  have hown : s.vm.findClass RX7 = some m.cls := findClass_of_methodNamed B.named
  have hlocks := B.notSynchronized
  have hl := lv_entry ([.ref h0, .int x]) (n := 2) (Nat.le_of_ble_eq_true rfl)
  rw [lg_entry_eq]
  generalize (lg_sl ([.ref h0, .int x]) ++ List.replicate (2 - (lg_sl ([.ref h0, .int x])).length) Slot.unset).toArray = ls at hl ⊢
  have hl : lv_has ls 2 [(0, .ref h0), (1, .int x)] := hl
  refine lv_aload_n hx hb dX7_object_0 rfl (lv_at hl 0 rfl) ?_
  refine va_get (D := D) (ci := 6) (v := .ref ht) (C := RX7) (T := TX7) (N := 5) hx hb hts (by decide +kernel) hown hK hP 0 rfl rfl 0 (by decide) (hts (.fieldLink RX7 12 "ConceptTable" "table" "LConceptTable$Table;") (by decide +kernel)) (fun _ h9 => h9) c0 dX7_object_1 ?_
  refine lv_iload_n hx hb dX7_object_4 rfl (lv_at hl 1 rfl) ?_
  refine rd_V (As := [.int x]) (rest := []) ⟨hx, hb, hml, hown, hts⟩ (c_X6_isAttributeSet l D ht ft n x t1 (by assumption)) (cwV 1 hts gX7_object_X6_isAttributeSet rfl rfl rfl (by decide +kernel) ⟨Nat.le_of_ble_eq_true rfl, Nat.le_of_ble_eq_true rfl⟩) (hP.sub (ws' := [(ht, .inr (5, ft))]) [1] rfl) (hK.sub (tys' := []) [] rfl) (va_recv hK hP (ci := 5) (q0 := 1) rfl rfl) rfl rfl hl.1 rfl (lv_room (Nat.le_of_ble_eq_true rfl)) dX7_object_5 ⟨Nat.le_of_ble_eq_true rfl, Nat.le_of_ble_eq_true rfl⟩ ?_
  refine lv_if_ne (tgt := 14) hx hb dX7_object_8 (by decide) (fun c_8 => ?_) (fun c_8 => ?_)
  · have c_8 := b2_n0.mp c_8
    refine lv_aload_n hx hb dX7_object_14 rfl (lv_at hl 0 rfl) ?_
    refine va_get (D := D) (ci := 6) (v := .ref ht) (C := RX7) (T := TX7) (N := 5) hx hb hts (by decide +kernel) hown hK hP 0 rfl rfl 0 (by decide) (hts (.fieldLink RX7 12 "ConceptTable" "table" "LConceptTable$Table;") (by decide +kernel)) (fun _ h9 => h9) c0 dX7_object_15 ?_
    refine rd_V (As := []) (rest := []) ⟨hx, hb, hml, hown, hts⟩ (c_X6_isFull l D ht ft hro cI o r t0 t2 (by omega)) (cwV 0 hts gX7_object_X6_isFull rfl rfl rfl (by decide +kernel) ⟨Nat.le_of_ble_eq_true rfl, Nat.le_of_ble_eq_true rfl⟩) (hP.sub (ws' := [(ht, .inr (5, ft)), (hro, .inl (cI, 20, .inl (fun i_ => nI (r i_))))]) [1, 2] rfl) (hK.sub (tys' := [(cI, .int)]) [0] rfl) (va_recv hK hP (ci := 5) (q0 := 1) rfl rfl) rfl rfl hl.1 rfl (lv_room (Nat.le_of_ble_eq_true rfl)) dX7_object_18 ⟨Nat.le_of_ble_eq_true rfl, Nat.le_of_ble_eq_true rfl⟩ ?_
    refine lv_if_eq (tgt := 27) hx hb dX7_object_21 (by decide) (fun c_21 => ?_) (fun c_21 => ?_)
    · have c_21 := b2_0.mp c_21
      exact absurd c_21 (by rw [decide_eq_true (by omega)]; decide)
    · have c_21 := b2_n0.mp c_21
      refine lv_bipush (v := -3) hx hb dX7_object_24 (by decide) ?_
      have e_ret : (-3 : Int32) = (-3) := by rfl
      exact W.iret (v := (-3 : Int32)) hx hb hr (fun t ht hW => ⟨congrArg (fun z_ => Outcome.returned (some (Value.int z_))) e_ret, ht⟩) (fun q h => by cases h) dX7_object_26
  · have c_8 := b2_0.mp c_8
    exact Bool.noConfusion (hb_.symm.trans c_8)

set_option maxHeartbeats 4000000 in
set_option maxRecDepth 100000 in
theorem c_X7_object_ok (l : Launch) (D : va_G) (sz : Nat) (h0 : Nat) (fs : List Value) (ht : Nat) (hro : Nat) (n : Nat) (o : Nat) (cI : ClassId) (r : Nat → Nat) (hf : Nat) (hme : Nat) (hle : Nat) (z : Nat) (ar : Bool) (N : Nat) (mem : Nat → Nat) (g : Nat → Option Nat) (hbs : Nat) (hru : Nat) (hjo : Nat) (bt : Bool) (hiq : Nat) (hag : Nat) (op : Bool) (ask : Int32) (w : Nat) (c0 : fs[0]? = some (.ref ht)) (c2 : fs[2]? = some (.ref hiq)) (c3 : fs[3]? = some (.ref hf)) (c4 : fs[4]? = some (.ref hbs)) (hn : n ≤ 12) (ho : o < 20) (hN : 2 ^ n ≤ N) (hN2 : N ≤ 4096) (hfam : FamOK n g mem z) (hb_ : sb (nI w) (nI (2 ^ n - 1)) = true) : Met l yX7_object wsX7_object ({ frames := 6, cells := 0, slots := 0, locals := 129 }) (va_Pc [.ref h0, .int (nI w)] (fun U => U.heap.size = sz ∧ va_P D vwCl [(h0, .inr (6, fs)), (ht, .inr (5, [.ref hro, .int (nI n), .int (nI o)])), (hro, .inl (cI, 20, .inl (fun i_ => nI (r i_)))), (hf, .inr (1, [.ref hme, .ref hle, .int (nI n), .int (nI z), .int (b2 ar)])), (hme, .inl (cI, N, .inl (fun i_ => nI (mem i_)))), (hle, .inl (cI, N, .inl (fun i_ => lvO (g i_)))), (hbs, .inr (0, [.ref hru, .ref hjo, .int (b2 bt)])), (hiq, .inr (2, [.ref hag, .int (b2 op), .int ask]))] U.heap ∧ va_K D vwCl [(cI, .int)] U ∧ va_D (fun _ => True) [(h0, .inr (6, fs)), (ht, .inr (5, [.ref hro, .int (nI n), .int (nI o)])), (hro, .inl (cI, 20, .inl (fun i_ => nI (r i_)))), (hf, .inr (1, [.ref hme, .ref hle, .int (nI n), .int (nI z), .int (b2 ar)])), (hme, .inl (cI, N, .inl (fun i_ => nI (mem i_)))), (hle, .inl (cI, N, .inl (fun i_ => lvO (g i_)))), (hbs, .inr (0, [.ref hru, .ref hjo, .int (b2 bt)])), (hiq, .inr (2, [.ref hag, .int (b2 op), .int ask]))])) (mxQ (fun u_ : Nat × Bool × (Nat → Nat) × (Nat → Option Nat) => match u_ with | (z', ar', mem', g') => (some (.int (nI o)))) (fun u_ : Nat × Bool × (Nat → Nat) × (Nat → Option Nat) => match u_ with | (z', ar', mem', g') => (FamOK n g' mem' z') ∧ (∀ x, x < 2 ^ n → (gB g' x = true ↔ gB g x = true ∨ ∃ p, p < 2 ^ n ∧ gB g p = true ∧ (p &&& w) = x)) ∧ (ar' = true → ar = true ∧ g' = g ∧ mem' = mem ∧ z' = z)) (fun u_ : Nat × Bool × (Nat → Nat) × (Nat → Option Nat) => match u_ with | (z', ar', mem', g') => [(h0, .inr (6, fs)), (ht, .inr (5, [.ref hro, .int (nI n), .int (nI (o + 1))])), (hro, .inl (cI, 20, .inl (fun i_ => nI ((va_up r o w) i_)))), (hf, .inr (1, [.ref hme, .ref hle, .int (nI n), .int (nI z'), .int (b2 ar')])), (hme, .inl (cI, N, .inl (fun i_ => nI (mem' i_)))), (hle, .inl (cI, N, .inl (fun i_ => lvO (g' i_)))), (hbs, .inr (0, [.ref hru, .ref hjo, .int (b2 false)])), (hiq, .inr (2, [.ref hag, .int (b2 false), .int (-1 : Int32)]))]) D vwCl (va_A [(h0, .inr (6, fs)), (ht, .inr (5, [.ref hro, .int (nI n), .int (nI o)])), (hro, .inl (cI, 20, .inl (fun i_ => nI (r i_)))), (hf, .inr (1, [.ref hme, .ref hle, .int (nI n), .int (nI z), .int (b2 ar)])), (hme, .inl (cI, N, .inl (fun i_ => nI (mem i_)))), (hle, .inl (cI, N, .inl (fun i_ => lvO (g i_)))), (hbs, .inr (0, [.ref hru, .ref hjo, .int (b2 bt)])), (hiq, .inr (2, [.ref hag, .int (b2 op), .int ask]))] sz)) 0 0 (va_A [(h0, .inr (6, fs)), (ht, .inr (5, [.ref hro, .int (nI n), .int (nI o)])), (hro, .inl (cI, 20, .inl (fun i_ => nI (r i_)))), (hf, .inr (1, [.ref hme, .ref hle, .int (nI n), .int (nI z), .int (b2 ar)])), (hme, .inl (cI, N, .inl (fun i_ => nI (mem i_)))), (hle, .inl (cI, N, .inl (fun i_ => lvO (g i_)))), (hbs, .inr (0, [.ref hru, .ref hjo, .int (b2 bt)])), (hiq, .inr (2, [.ref hag, .int (b2 op), .int ask]))] sz) := by
  refine Met.ofW (cc := cX7_object) (maxL := 2) (ret := (some .int)) (by decide) rfl ?_
  intro p e s m args below meth c s₁ B hml hv
  obtain ⟨rfl, hsz, hP, hK, hD0⟩ := hv
  have hx := B.exec
  have hb := B.bytes
  have hr := B.returns
  have hts := atoms_spec (ws := wsX7_object) B.pre
  have hown : s.vm.findClass RX7 = some m.cls := findClass_of_methodNamed B.named
  have hlocks := B.notSynchronized
  subst hsz
  have hD := hD0.self (sz := s.heap.size)
  generalize hAe : va_A [(h0, .inr (6, fs)), (ht, .inr (5, [.ref hro, .int (nI n), .int (nI o)])), (hro, .inl (cI, 20, .inl (fun i_ => nI (r i_)))), (hf, .inr (1, [.ref hme, .ref hle, .int (nI n), .int (nI z), .int (b2 ar)])), (hme, .inl (cI, N, .inl (fun i_ => nI (mem i_)))), (hle, .inl (cI, N, .inl (fun i_ => lvO (g i_)))), (hbs, .inr (0, [.ref hru, .ref hjo, .int (b2 bt)])), (hiq, .inr (2, [.ref hag, .int (b2 op), .int ask]))] s.heap.size = A at hD ⊢
  have hA : ∀ q : Nat, s.heap.size ≤ q → A q := fun q h => by rw [← hAe]; exact Or.inr h
  have hS : va_S A s.heap s.heap [] := va_S.rf
  have hl := lv_entry ([.ref h0, .int (nI w)]) (n := 2) (Nat.le_of_ble_eq_true rfl)
  rw [lg_entry_eq]
  generalize (lg_sl ([.ref h0, .int (nI w)]) ++ List.replicate (2 - (lg_sl ([.ref h0, .int (nI w)])).length) Slot.unset).toArray = ls at hl ⊢
  have hl : lv_has ls 2 [(0, .ref h0), (1, .int (nI w))] := hl
  refine lv_aload_n hx hb dX7_object_0 rfl (lv_at hl 0 rfl) ?_
  refine va_get (D := D) (ci := 6) (v := .ref ht) (C := RX7) (T := TX7) (N := 5) hx hb hts (by decide +kernel) hown hK hP 0 rfl rfl 0 (by decide) (hts (.fieldLink RX7 12 "ConceptTable" "table" "LConceptTable$Table;") (by decide +kernel)) (fun _ h9 => h9) c0 dX7_object_1 ?_
  refine lv_iload_n hx hb dX7_object_4 rfl (lv_at hl 1 rfl) ?_
  refine rd_V (As := [.int (nI w)]) (rest := []) ⟨hx, hb, hml, hown, hts⟩ (c_X6_isAttributeSet l D ht ([.ref hro, .int (nI n), .int (nI o)]) n (nI w) rfl (by assumption)) (cwV 1 hts gX7_object_X6_isAttributeSet rfl rfl rfl (by decide +kernel) ⟨Nat.le_of_ble_eq_true rfl, Nat.le_of_ble_eq_true rfl⟩) (hP.sub (ws' := [(ht, .inr (5, [.ref hro, .int (nI n), .int (nI o)]))]) [1] rfl) (hK.sub (tys' := []) [] rfl) (va_recv hK hP (ci := 5) (q0 := 1) rfl rfl) rfl rfl hl.1 rfl (lv_room (Nat.le_of_ble_eq_true rfl)) dX7_object_5 ⟨Nat.le_of_ble_eq_true rfl, Nat.le_of_ble_eq_true rfl⟩ ?_
  refine lv_if_ne (tgt := 14) hx hb dX7_object_8 (by decide) (fun c_8 => ?_) (fun c_8 => ?_)
  · have c_8 := b2_n0.mp c_8
    refine lv_aload_n hx hb dX7_object_14 rfl (lv_at hl 0 rfl) ?_
    refine va_get (D := D) (ci := 6) (v := .ref ht) (C := RX7) (T := TX7) (N := 5) hx hb hts (by decide +kernel) hown hK hP 0 rfl rfl 0 (by decide) (hts (.fieldLink RX7 12 "ConceptTable" "table" "LConceptTable$Table;") (by decide +kernel)) (fun _ h9 => h9) c0 dX7_object_15 ?_
    refine rd_V (As := []) (rest := []) ⟨hx, hb, hml, hown, hts⟩ (c_X6_isFull l D ht ([.ref hro, .int (nI n), .int (nI o)]) hro cI o r rfl rfl (by omega)) (cwV 0 hts gX7_object_X6_isFull rfl rfl rfl (by decide +kernel) ⟨Nat.le_of_ble_eq_true rfl, Nat.le_of_ble_eq_true rfl⟩) (hP.sub (ws' := [(ht, .inr (5, [.ref hro, .int (nI n), .int (nI o)])), (hro, .inl (cI, 20, .inl (fun i_ => nI (r i_))))]) [1, 2] rfl) (hK.sub (tys' := [(cI, .int)]) [0] rfl) (va_recv hK hP (ci := 5) (q0 := 1) rfl rfl) rfl rfl hl.1 rfl (lv_room (Nat.le_of_ble_eq_true rfl)) dX7_object_18 ⟨Nat.le_of_ble_eq_true rfl, Nat.le_of_ble_eq_true rfl⟩ ?_
    refine lv_if_eq (tgt := 27) hx hb dX7_object_21 (by decide) (fun c_21 => ?_) (fun c_21 => ?_)
    · have c_21 := b2_0.mp c_21
      refine lv_aload_n hx hb dX7_object_27 rfl (lv_at hl 0 rfl) ?_
      refine va_get (D := D) (ci := 6) (v := .ref hiq) (C := RX7) (T := TX7) (N := 5) hx hb hts (by decide +kernel) hown hK hP 0 rfl rfl 2 (by decide) (hts (.fieldLink RX7 26 "ConceptTable" "inquiry" "LConceptTable$Inquiry;") (by decide +kernel)) (fun _ h9 => h9) c2 dX7_object_28 ?_
      have hPc := hP.sub (ws' := [(hiq, .inr (2, [.ref hag, .int (b2 op), .int ask]))]) [7] rfl
      have hDc := hD.sub (ws' := [(hiq, .inr (2, [.ref hag, .int (b2 op), .int ask]))]) [7] (by decide) rfl
      have hKc := hK.sub (tys' := []) [] rfl
      have hFc := va_free (wc := [(hiq, .inr (2, [.ref hag, .int (b2 op), .int ask]))]) hD hS hA [7] rfl
      refine mu_call (va_runV (As := []) (rest := []) ⟨hx, hb, hml, hown, hts⟩ (c_X2_stop l D s.heap.size hiq hag op ask ) (cwV 0 hts gX7_object_X2_stop rfl rfl rfl (by decide +kernel) ⟨Nat.le_of_ble_eq_true rfl, Nat.le_of_ble_eq_true rfl⟩) ⟨mu_bl, va_recv hKc hPc (ci := 2) (q0 := 0) rfl rfl, fun U hU hW => ⟨rfl, by rw [hU], by rw [hU]; exact hPc, va_K.moved hW.alike hKc, hDc.weaken (fun _ _ _ _ => trivial)⟩⟩ rfl rfl hl.1 rfl (lv_room (Nat.le_of_ble_eq_true rfl)) dX7_object_31 ⟨Nat.le_of_ble_eq_true rfl, Nat.le_of_ble_eq_true rfl⟩) hS (fun q _ h => hFc q h) hFc (fun H1 locs hP1 hD1 hk1 hS => ?_)
      obtain ⟨hP, hD⟩ := va_join (wr := [(h0, .inr (6, fs)), (ht, .inr (5, [.ref hro, .int (nI n), .int (nI o)])), (hro, .inl (cI, 20, .inl (fun i_ => nI (r i_)))), (hf, .inr (1, [.ref hme, .ref hle, .int (nI n), .int (nI z), .int (b2 ar)])), (hme, .inl (cI, N, .inl (fun i_ => nI (mem i_)))), (hle, .inl (cI, N, .inl (fun i_ => lvO (g i_)))), (hbs, .inr (0, [.ref hru, .ref hjo, .int (b2 bt)]))]) (w1 := [(hiq, .inr (2, [.ref hag, .int (b2 false), .int (-1 : Int32)]))]) hP hD [7] [0, 1, 2, 3, 4, 5, 6] rfl rfl (by decide) (by decide) hk1 hFc hP1 hD1
      generalize H1 = H at hP hS ⊢
      have hP : va_P D vwCl [(h0, .inr (6, fs)), (ht, .inr (5, [.ref hro, .int (nI n), .int (nI o)])), (hro, .inl (cI, 20, .inl (fun i_ => nI (r i_)))), (hf, .inr (1, [.ref hme, .ref hle, .int (nI n), .int (nI z), .int (b2 ar)])), (hme, .inl (cI, N, .inl (fun i_ => nI (mem i_)))), (hle, .inl (cI, N, .inl (fun i_ => lvO (g i_)))), (hbs, .inr (0, [.ref hru, .ref hjo, .int (b2 bt)])), (hiq, .inr (2, [.ref hag, .int (b2 false), .int (-1 : Int32)]))] H := hP
      have hD : va_D A [(h0, .inr (6, fs)), (ht, .inr (5, [.ref hro, .int (nI n), .int (nI o)])), (hro, .inl (cI, 20, .inl (fun i_ => nI (r i_)))), (hf, .inr (1, [.ref hme, .ref hle, .int (nI n), .int (nI z), .int (b2 ar)])), (hme, .inl (cI, N, .inl (fun i_ => nI (mem i_)))), (hle, .inl (cI, N, .inl (fun i_ => lvO (g i_)))), (hbs, .inr (0, [.ref hru, .ref hjo, .int (b2 bt)])), (hiq, .inr (2, [.ref hag, .int (b2 false), .int (-1 : Int32)]))] := hD
      refine lv_aload_n hx hb dX7_object_34 rfl (lv_at hl 0 rfl) ?_
      refine lv_iload_n hx hb dX7_object_35 rfl (lv_at hl 1 rfl) ?_
      have hPc := hP.sub (ws' := [(h0, .inr (6, fs)), (ht, .inr (5, [.ref hro, .int (nI n), .int (nI o)])), (hro, .inl (cI, 20, .inl (fun i_ => nI (r i_)))), (hf, .inr (1, [.ref hme, .ref hle, .int (nI n), .int (nI z), .int (b2 ar)])), (hme, .inl (cI, N, .inl (fun i_ => nI (mem i_)))), (hle, .inl (cI, N, .inl (fun i_ => lvO (g i_)))), (hbs, .inr (0, [.ref hru, .ref hjo, .int (b2 bt)]))]) [0, 1, 2, 3, 4, 5, 6] rfl
      have hDc := hD.sub (ws' := [(h0, .inr (6, fs)), (ht, .inr (5, [.ref hro, .int (nI n), .int (nI o)])), (hro, .inl (cI, 20, .inl (fun i_ => nI (r i_)))), (hf, .inr (1, [.ref hme, .ref hle, .int (nI n), .int (nI z), .int (b2 ar)])), (hme, .inl (cI, N, .inl (fun i_ => nI (mem i_)))), (hle, .inl (cI, N, .inl (fun i_ => lvO (g i_)))), (hbs, .inr (0, [.ref hru, .ref hjo, .int (b2 bt)]))]) [0, 1, 2, 3, 4, 5, 6] (by decide) rfl
      have hKc := hK.sub (tys' := [(cI, .int)]) [0] rfl
      have hFc := va_free (wc := [(h0, .inr (6, fs)), (ht, .inr (5, [.ref hro, .int (nI n), .int (nI o)])), (hro, .inl (cI, 20, .inl (fun i_ => nI (r i_)))), (hf, .inr (1, [.ref hme, .ref hle, .int (nI n), .int (nI z), .int (b2 ar)])), (hme, .inl (cI, N, .inl (fun i_ => nI (mem i_)))), (hle, .inl (cI, N, .inl (fun i_ => lvO (g i_)))), (hbs, .inr (0, [.ref hru, .ref hjo, .int (b2 bt)]))]) hD hS hA [0, 1, 2, 3, 4, 5, 6] rfl
      refine mx_call (va_runV (As := [.int (nI w)]) (rest := []) ⟨hx, hb, hml, hown, hts⟩ (c_X7_addRow l D H.size h0 fs ht hro n o cI r hf hme hle z ar N mem g hbs hru hjo bt w c0 c3 c4 hn ho hN hN2 hfam) (cwV 1 hts gX7_object_X7_addRow rfl rfl rfl (by decide +kernel) ⟨Nat.le_of_ble_eq_true rfl, Nat.le_of_ble_eq_true rfl⟩) ⟨mu_bl, va_recv hKc hPc (ci := 6) (q0 := 0) rfl rfl, fun U hU hW => ⟨rfl, by rw [hU], by rw [hU]; exact hPc, va_K.moved hW.alike hKc, hDc.weaken (fun _ _ _ _ => trivial)⟩⟩ rfl rfl hl.1 rfl (lv_room (Nat.le_of_ble_eq_true rfl)) dX7_object_36 ⟨Nat.le_of_ble_eq_true rfl, Nat.le_of_ble_eq_true rfl⟩) hS (fun q _ h => hFc q h) hFc (fun u_ H1 locs hq_ hP1 hD1 hk1 hS => ?_)
      obtain ⟨z', ar', mem', g'⟩ := u_
      have hP1 : va_P D vwCl [(h0, .inr (6, fs)), (ht, .inr (5, [.ref hro, .int (nI n), .int (nI (o + 1))])), (hro, .inl (cI, 20, .inl (fun i_ => nI ((va_up r o w) i_)))), (hf, .inr (1, [.ref hme, .ref hle, .int (nI n), .int (nI z'), .int (b2 ar')])), (hme, .inl (cI, N, .inl (fun i_ => nI (mem' i_)))), (hle, .inl (cI, N, .inl (fun i_ => lvO (g' i_)))), (hbs, .inr (0, [.ref hru, .ref hjo, .int (b2 false)]))] H1 := hP1
      have hD1 : va_D (va_A [(h0, .inr (6, fs)), (ht, .inr (5, [.ref hro, .int (nI n), .int (nI o)])), (hro, .inl (cI, 20, .inl (fun i_ => nI (r i_)))), (hf, .inr (1, [.ref hme, .ref hle, .int (nI n), .int (nI z), .int (b2 ar)])), (hme, .inl (cI, N, .inl (fun i_ => nI (mem i_)))), (hle, .inl (cI, N, .inl (fun i_ => lvO (g i_)))), (hbs, .inr (0, [.ref hru, .ref hjo, .int (b2 bt)]))] H.size) [(h0, .inr (6, fs)), (ht, .inr (5, [.ref hro, .int (nI n), .int (nI (o + 1))])), (hro, .inl (cI, 20, .inl (fun i_ => nI ((va_up r o w) i_)))), (hf, .inr (1, [.ref hme, .ref hle, .int (nI n), .int (nI z'), .int (b2 ar')])), (hme, .inl (cI, N, .inl (fun i_ => nI (mem' i_)))), (hle, .inl (cI, N, .inl (fun i_ => lvO (g' i_)))), (hbs, .inr (0, [.ref hru, .ref hjo, .int (b2 false)]))] := hD1
      obtain ⟨hF, hB, hAr⟩ := hq_
      have hF : FamOK n g' mem' z' := hF
      have hB : ∀ x, x < 2 ^ n → (gB g' x = true ↔ gB g x = true ∨ ∃ p, p < 2 ^ n ∧ gB g p = true ∧ (p &&& w) = x) := hB
      have hAr : ar' = true → ar = true ∧ g' = g ∧ mem' = mem ∧ z' = z := hAr
      obtain ⟨hP, hD⟩ := va_join (wr := [(hiq, .inr (2, [.ref hag, .int (b2 false), .int (-1 : Int32)]))]) (w1 := [(h0, .inr (6, fs)), (ht, .inr (5, [.ref hro, .int (nI n), .int (nI (o + 1))])), (hro, .inl (cI, 20, .inl (fun i_ => nI ((va_up r o w) i_)))), (hf, .inr (1, [.ref hme, .ref hle, .int (nI n), .int (nI z'), .int (b2 ar')])), (hme, .inl (cI, N, .inl (fun i_ => nI (mem' i_)))), (hle, .inl (cI, N, .inl (fun i_ => lvO (g' i_)))), (hbs, .inr (0, [.ref hru, .ref hjo, .int (b2 false)]))]) hP hD [0, 1, 2, 3, 4, 5, 6] [7] rfl rfl (by decide) (by decide) hk1 hFc hP1 hD1
      generalize H1 = H at hP hS ⊢
      have hP : va_P D vwCl [(hiq, .inr (2, [.ref hag, .int (b2 false), .int (-1 : Int32)])), (h0, .inr (6, fs)), (ht, .inr (5, [.ref hro, .int (nI n), .int (nI (o + 1))])), (hro, .inl (cI, 20, .inl (fun i_ => nI ((va_up r o w) i_)))), (hf, .inr (1, [.ref hme, .ref hle, .int (nI n), .int (nI z'), .int (b2 ar')])), (hme, .inl (cI, N, .inl (fun i_ => nI (mem' i_)))), (hle, .inl (cI, N, .inl (fun i_ => lvO (g' i_)))), (hbs, .inr (0, [.ref hru, .ref hjo, .int (b2 false)]))] H := hP
      have hD : va_D A [(hiq, .inr (2, [.ref hag, .int (b2 false), .int (-1 : Int32)])), (h0, .inr (6, fs)), (ht, .inr (5, [.ref hro, .int (nI n), .int (nI (o + 1))])), (hro, .inl (cI, 20, .inl (fun i_ => nI ((va_up r o w) i_)))), (hf, .inr (1, [.ref hme, .ref hle, .int (nI n), .int (nI z'), .int (b2 ar')])), (hme, .inl (cI, N, .inl (fun i_ => nI (mem' i_)))), (hle, .inl (cI, N, .inl (fun i_ => lvO (g' i_)))), (hbs, .inr (0, [.ref hru, .ref hjo, .int (b2 false)]))] := hD
      have hP := hP.sub (ws' := [(h0, .inr (6, fs)), (ht, .inr (5, [.ref hro, .int (nI n), .int (nI (o + 1))])), (hro, .inl (cI, 20, .inl (fun i_ => nI ((va_up r o w) i_)))), (hf, .inr (1, [.ref hme, .ref hle, .int (nI n), .int (nI z'), .int (b2 ar')])), (hme, .inl (cI, N, .inl (fun i_ => nI (mem' i_)))), (hle, .inl (cI, N, .inl (fun i_ => lvO (g' i_)))), (hbs, .inr (0, [.ref hru, .ref hjo, .int (b2 false)])), (hiq, .inr (2, [.ref hag, .int (b2 false), .int (-1 : Int32)]))]) [1, 2, 3, 4, 5, 6, 7, 0] rfl
      have hD := hD.sub (ws' := [(h0, .inr (6, fs)), (ht, .inr (5, [.ref hro, .int (nI n), .int (nI (o + 1))])), (hro, .inl (cI, 20, .inl (fun i_ => nI ((va_up r o w) i_)))), (hf, .inr (1, [.ref hme, .ref hle, .int (nI n), .int (nI z'), .int (b2 ar')])), (hme, .inl (cI, N, .inl (fun i_ => nI (mem' i_)))), (hle, .inl (cI, N, .inl (fun i_ => lvO (g' i_)))), (hbs, .inr (0, [.ref hru, .ref hjo, .int (b2 false)])), (hiq, .inr (2, [.ref hag, .int (b2 false), .int (-1 : Int32)]))]) [1, 2, 3, 4, 5, 6, 7, 0] (by decide) rfl
      exact W.iret (v := (nI o)) hx hb hr (fun t ht hW => ⟨⟨(z', ar', mem', g'), rfl, ⟨hF, hB, hAr⟩, by rw [ht]; exact hP, hD⟩, hS.F ht⟩) hS.2.2 dX7_object_39
    · have c_21 := b2_n0.mp c_21
      exact absurd c_21 (by rw [decide_eq_false (by omega)]; decide)
  · have c_8 := b2_0.mp c_8
    exact Bool.noConfusion (hb_.symm.trans c_8)

set_option maxHeartbeats 4000000 in
set_option maxRecDepth 100000 in
theorem c_X7_remove_bad (l : Launch) (D : va_G) (h0 : Nat) (fs : List Value) (ht : Nat) (ft : List Value) (o : Nat) (x : Int32) (c0 : fs[0]? = some (.ref ht)) (t2 : ft[2]? = some (.int (nI o))) (hb_ : (decide (¬ x < 0) && decide (¬ nI o ≤ x)) = false) : Met l yX7_remove wsX7_remove ({ frames := 1, cells := 0, slots := 0, locals := 21 }) (va_Pc [.ref h0, .int x] (fun U => va_P D vwCl [(h0, .inr (6, fs)), (ht, .inr (5, ft))] U.heap ∧ va_K D vwCl [] U)) (QcRead (-2)) 0 0 (fun _ => False) := by
  refine Met.ofW (cc := cX7_remove) (maxL := 4) (ret := (some .int)) (by decide) rfl ?_
  intro p e s m args below meth c s₁ B hml hv
  obtain ⟨rfl, hP, hK⟩ := hv
  have hx := B.exec
  have hb := B.bytes
  have hr := B.returns
  have hts := atoms_spec (ws := wsX7_remove) B.pre
  have hown : s.vm.findClass RX7 = some m.cls := findClass_of_methodNamed B.named
  have hlocks := B.notSynchronized
  have hl := lv_entry ([.ref h0, .int x]) (n := 4) (Nat.le_of_ble_eq_true rfl)
  rw [lg_entry_eq]
  generalize (lg_sl ([.ref h0, .int x]) ++ List.replicate (4 - (lg_sl ([.ref h0, .int x])).length) Slot.unset).toArray = ls at hl ⊢
  have hl : lv_has ls 4 [(0, .ref h0), (1, .int x)] := hl
  refine lv_aload_n hx hb dX7_remove_0 rfl (lv_at hl 0 rfl) ?_
  refine va_get (D := D) (ci := 6) (v := .ref ht) (C := RX7) (T := TX7) (N := 5) hx hb hts (by decide +kernel) hown hK hP 0 rfl rfl 0 (by decide) (hts (.fieldLink RX7 12 "ConceptTable" "table" "LConceptTable$Table;") (by decide +kernel)) (fun _ h9 => h9) c0 dX7_remove_1 ?_
  refine lv_iload_n hx hb dX7_remove_4 rfl (lv_at hl 1 rfl) ?_
  refine rd_V (As := [.int x]) (rest := []) ⟨hx, hb, hml, hown, hts⟩ (c_X6_isObject l D ht ft o x t2) (cwV 1 hts gX7_remove_X6_isObject rfl rfl rfl (by decide +kernel) ⟨Nat.le_of_ble_eq_true rfl, Nat.le_of_ble_eq_true rfl⟩) (hP.sub (ws' := [(ht, .inr (5, ft))]) [1] rfl) (hK.sub (tys' := []) [] rfl) (va_recv hK hP (ci := 5) (q0 := 1) rfl rfl) rfl rfl hl.1 rfl (lv_room (Nat.le_of_ble_eq_true rfl)) dX7_remove_5 ⟨Nat.le_of_ble_eq_true rfl, Nat.le_of_ble_eq_true rfl⟩ ?_
  refine lv_if_ne (tgt := 14) hx hb dX7_remove_8 (by decide) (fun c_8 => ?_) (fun c_8 => ?_)
  · have c_8 := b2_n0.mp c_8
    exact Bool.noConfusion (hb_.symm.trans c_8)
  · have c_8 := b2_0.mp c_8
    refine lv_bipush (v := -2) hx hb dX7_remove_11 (by decide) ?_
    have e_ret : (-2 : Int32) = (-2) := by rfl
    exact W.iret (v := (-2 : Int32)) hx hb hr (fun t ht hW => ⟨congrArg (fun z_ => Outcome.returned (some (Value.int z_))) e_ret, ht⟩) (fun q h => by cases h) dX7_remove_13

set_option maxHeartbeats 4000000 in
set_option maxRecDepth 100000 in
theorem c_X7_remove_ok (l : Launch) (D : va_G) (sz : Nat) (h0 : Nat) (fs : List Value) (ht : Nat) (hro : Nat) (n : Nat) (o : Nat) (cI : ClassId) (r : Nat → Nat) (hf : Nat) (hme : Nat) (hle : Nat) (z : Nat) (ar : Bool) (N : Nat) (mem : Nat → Nat) (g : Nat → Option Nat) (hbs : Nat) (hru : Nat) (hjo : Nat) (bt : Bool) (hiq : Nat) (hag : Nat) (op : Bool) (ask : Int32) (j : Nat) (c0 : fs[0]? = some (.ref ht)) (c2 : fs[2]? = some (.ref hiq)) (c3 : fs[3]? = some (.ref hf)) (c4 : fs[4]? = some (.ref hbs)) (hn : n ≤ 12) (ho : o ≤ 20) (hN : 2 ^ n ≤ N) (hN2 : N ≤ 4096) (hfam : FamOK n g mem z) (hj : j < o) : Met l yX7_remove wsX7_remove ({ frames := 5, cells := 0, slots := 0, locals := 107 }) (va_Pc [.ref h0, .int (nI j)] (fun U => U.heap.size = sz ∧ va_P D vwCl [(h0, .inr (6, fs)), (ht, .inr (5, [.ref hro, .int (nI n), .int (nI o)])), (hro, .inl (cI, 20, .inl (fun i_ => nI (r i_)))), (hf, .inr (1, [.ref hme, .ref hle, .int (nI n), .int (nI z), .int (b2 ar)])), (hme, .inl (cI, N, .inl (fun i_ => nI (mem i_)))), (hle, .inl (cI, N, .inl (fun i_ => lvO (g i_)))), (hbs, .inr (0, [.ref hru, .ref hjo, .int (b2 bt)])), (hiq, .inr (2, [.ref hag, .int (b2 op), .int ask]))] U.heap ∧ va_K D vwCl [(cI, .int)] U ∧ va_D (fun _ => True) [(h0, .inr (6, fs)), (ht, .inr (5, [.ref hro, .int (nI n), .int (nI o)])), (hro, .inl (cI, 20, .inl (fun i_ => nI (r i_)))), (hf, .inr (1, [.ref hme, .ref hle, .int (nI n), .int (nI z), .int (b2 ar)])), (hme, .inl (cI, N, .inl (fun i_ => nI (mem i_)))), (hle, .inl (cI, N, .inl (fun i_ => lvO (g i_)))), (hbs, .inr (0, [.ref hru, .ref hjo, .int (b2 bt)])), (hiq, .inr (2, [.ref hag, .int (b2 op), .int ask]))])) (mxQ (fun u_ : Nat × Bool × (Nat → Nat) × (Nat → Option Nat) => match u_ with | (z', ar', mem', g') => (some (.int (nI (r j))))) (fun u_ : Nat × Bool × (Nat → Nat) × (Nat → Option Nat) => match u_ with | (z', ar', mem', g') => (FamOK n g' mem' z') ∧ (∀ x, x < 2 ^ n → (gB g' x = true ↔ clo (rem_ r j (o - 1)) n (o - 1) x = x)) ∧ (ar' = false)) (fun u_ : Nat × Bool × (Nat → Nat) × (Nat → Option Nat) => match u_ with | (z', ar', mem', g') => [(h0, .inr (6, fs)), (ht, .inr (5, [.ref hro, .int (nI n), .int (nI (o - 1))])), (hro, .inl (cI, 20, .inl (fun i_ => nI ((rem_ r j (o - 1)) i_)))), (hf, .inr (1, [.ref hme, .ref hle, .int (nI n), .int (nI z'), .int (b2 ar')])), (hme, .inl (cI, N, .inl (fun i_ => nI (mem' i_)))), (hle, .inl (cI, N, .inl (fun i_ => lvO (g' i_)))), (hbs, .inr (0, [.ref hru, .ref hjo, .int (b2 false)])), (hiq, .inr (2, [.ref hag, .int (b2 false), .int (-1 : Int32)]))]) D vwCl (va_A [(h0, .inr (6, fs)), (ht, .inr (5, [.ref hro, .int (nI n), .int (nI o)])), (hro, .inl (cI, 20, .inl (fun i_ => nI (r i_)))), (hf, .inr (1, [.ref hme, .ref hle, .int (nI n), .int (nI z), .int (b2 ar)])), (hme, .inl (cI, N, .inl (fun i_ => nI (mem i_)))), (hle, .inl (cI, N, .inl (fun i_ => lvO (g i_)))), (hbs, .inr (0, [.ref hru, .ref hjo, .int (b2 bt)])), (hiq, .inr (2, [.ref hag, .int (b2 op), .int ask]))] sz)) 0 0 (va_A [(h0, .inr (6, fs)), (ht, .inr (5, [.ref hro, .int (nI n), .int (nI o)])), (hro, .inl (cI, 20, .inl (fun i_ => nI (r i_)))), (hf, .inr (1, [.ref hme, .ref hle, .int (nI n), .int (nI z), .int (b2 ar)])), (hme, .inl (cI, N, .inl (fun i_ => nI (mem i_)))), (hle, .inl (cI, N, .inl (fun i_ => lvO (g i_)))), (hbs, .inr (0, [.ref hru, .ref hjo, .int (b2 bt)])), (hiq, .inr (2, [.ref hag, .int (b2 op), .int ask]))] sz) := by
  refine Met.ofW (cc := cX7_remove) (maxL := 4) (ret := (some .int)) (by decide) rfl ?_
  intro p e s m args below meth c s₁ B hml hv
  obtain ⟨rfl, hsz, hP, hK, hD0⟩ := hv
  have hx := B.exec
  have hb := B.bytes
  have hr := B.returns
  have hts := atoms_spec (ws := wsX7_remove) B.pre
  have hown : s.vm.findClass RX7 = some m.cls := findClass_of_methodNamed B.named
  have hlocks := B.notSynchronized
  subst hsz
  have hD := hD0.self (sz := s.heap.size)
  generalize hAe : va_A [(h0, .inr (6, fs)), (ht, .inr (5, [.ref hro, .int (nI n), .int (nI o)])), (hro, .inl (cI, 20, .inl (fun i_ => nI (r i_)))), (hf, .inr (1, [.ref hme, .ref hle, .int (nI n), .int (nI z), .int (b2 ar)])), (hme, .inl (cI, N, .inl (fun i_ => nI (mem i_)))), (hle, .inl (cI, N, .inl (fun i_ => lvO (g i_)))), (hbs, .inr (0, [.ref hru, .ref hjo, .int (b2 bt)])), (hiq, .inr (2, [.ref hag, .int (b2 op), .int ask]))] s.heap.size = A at hD ⊢
  have hA : ∀ q : Nat, s.heap.size ≤ q → A q := fun q h => by rw [← hAe]; exact Or.inr h
  have hS : va_S A s.heap s.heap [] := va_S.rf
  have hl := lv_entry ([.ref h0, .int (nI j)]) (n := 4) (Nat.le_of_ble_eq_true rfl)
  rw [lg_entry_eq]
  generalize (lg_sl ([.ref h0, .int (nI j)]) ++ List.replicate (4 - (lg_sl ([.ref h0, .int (nI j)])).length) Slot.unset).toArray = ls at hl ⊢
  have hl : lv_has ls 4 [(0, .ref h0), (1, .int (nI j))] := hl
  refine lv_aload_n hx hb dX7_remove_0 rfl (lv_at hl 0 rfl) ?_
  refine va_get (D := D) (ci := 6) (v := .ref ht) (C := RX7) (T := TX7) (N := 5) hx hb hts (by decide +kernel) hown hK hP 0 rfl rfl 0 (by decide) (hts (.fieldLink RX7 12 "ConceptTable" "table" "LConceptTable$Table;") (by decide +kernel)) (fun _ h9 => h9) c0 dX7_remove_1 ?_
  refine lv_iload_n hx hb dX7_remove_4 rfl (lv_at hl 1 rfl) ?_
  refine rd_V (As := [.int (nI j)]) (rest := []) ⟨hx, hb, hml, hown, hts⟩ (c_X6_isObject l D ht ([.ref hro, .int (nI n), .int (nI o)]) o (nI j) rfl) (cwV 1 hts gX7_remove_X6_isObject rfl rfl rfl (by decide +kernel) ⟨Nat.le_of_ble_eq_true rfl, Nat.le_of_ble_eq_true rfl⟩) (hP.sub (ws' := [(ht, .inr (5, [.ref hro, .int (nI n), .int (nI o)]))]) [1] rfl) (hK.sub (tys' := []) [] rfl) (va_recv hK hP (ci := 5) (q0 := 1) rfl rfl) rfl rfl hl.1 rfl (lv_room (Nat.le_of_ble_eq_true rfl)) dX7_remove_5 ⟨Nat.le_of_ble_eq_true rfl, Nat.le_of_ble_eq_true rfl⟩ ?_
  refine lv_if_ne (tgt := 14) hx hb dX7_remove_8 (by decide) (fun c_8 => ?_) (fun c_8 => ?_)
  · have c_8 := b2_n0.mp c_8
    refine lv_aload_n hx hb dX7_remove_14 rfl (lv_at hl 0 rfl) ?_
    refine va_get (D := D) (ci := 6) (v := .ref hiq) (C := RX7) (T := TX7) (N := 5) hx hb hts (by decide +kernel) hown hK hP 0 rfl rfl 2 (by decide) (hts (.fieldLink RX7 26 "ConceptTable" "inquiry" "LConceptTable$Inquiry;") (by decide +kernel)) (fun _ h9 => h9) c2 dX7_remove_15 ?_
    have hPc := hP.sub (ws' := [(hiq, .inr (2, [.ref hag, .int (b2 op), .int ask]))]) [7] rfl
    have hDc := hD.sub (ws' := [(hiq, .inr (2, [.ref hag, .int (b2 op), .int ask]))]) [7] (by decide) rfl
    have hKc := hK.sub (tys' := []) [] rfl
    have hFc := va_free (wc := [(hiq, .inr (2, [.ref hag, .int (b2 op), .int ask]))]) hD hS hA [7] rfl
    refine mu_call (va_runV (As := []) (rest := []) ⟨hx, hb, hml, hown, hts⟩ (c_X2_stop l D s.heap.size hiq hag op ask ) (cwV 0 hts gX7_remove_X2_stop rfl rfl rfl (by decide +kernel) ⟨Nat.le_of_ble_eq_true rfl, Nat.le_of_ble_eq_true rfl⟩) ⟨mu_bl, va_recv hKc hPc (ci := 2) (q0 := 0) rfl rfl, fun U hU hW => ⟨rfl, by rw [hU], by rw [hU]; exact hPc, va_K.moved hW.alike hKc, hDc.weaken (fun _ _ _ _ => trivial)⟩⟩ rfl rfl hl.1 rfl (lv_room (Nat.le_of_ble_eq_true rfl)) dX7_remove_18 ⟨Nat.le_of_ble_eq_true rfl, Nat.le_of_ble_eq_true rfl⟩) hS (fun q _ h => hFc q h) hFc (fun H1 locs hP1 hD1 hk1 hS => ?_)
    obtain ⟨hP, hD⟩ := va_join (wr := [(h0, .inr (6, fs)), (ht, .inr (5, [.ref hro, .int (nI n), .int (nI o)])), (hro, .inl (cI, 20, .inl (fun i_ => nI (r i_)))), (hf, .inr (1, [.ref hme, .ref hle, .int (nI n), .int (nI z), .int (b2 ar)])), (hme, .inl (cI, N, .inl (fun i_ => nI (mem i_)))), (hle, .inl (cI, N, .inl (fun i_ => lvO (g i_)))), (hbs, .inr (0, [.ref hru, .ref hjo, .int (b2 bt)]))]) (w1 := [(hiq, .inr (2, [.ref hag, .int (b2 false), .int (-1 : Int32)]))]) hP hD [7] [0, 1, 2, 3, 4, 5, 6] rfl rfl (by decide) (by decide) hk1 hFc hP1 hD1
    generalize H1 = H at hP hS ⊢
    have hP : va_P D vwCl [(h0, .inr (6, fs)), (ht, .inr (5, [.ref hro, .int (nI n), .int (nI o)])), (hro, .inl (cI, 20, .inl (fun i_ => nI (r i_)))), (hf, .inr (1, [.ref hme, .ref hle, .int (nI n), .int (nI z), .int (b2 ar)])), (hme, .inl (cI, N, .inl (fun i_ => nI (mem i_)))), (hle, .inl (cI, N, .inl (fun i_ => lvO (g i_)))), (hbs, .inr (0, [.ref hru, .ref hjo, .int (b2 bt)])), (hiq, .inr (2, [.ref hag, .int (b2 false), .int (-1 : Int32)]))] H := hP
    have hD : va_D A [(h0, .inr (6, fs)), (ht, .inr (5, [.ref hro, .int (nI n), .int (nI o)])), (hro, .inl (cI, 20, .inl (fun i_ => nI (r i_)))), (hf, .inr (1, [.ref hme, .ref hle, .int (nI n), .int (nI z), .int (b2 ar)])), (hme, .inl (cI, N, .inl (fun i_ => nI (mem i_)))), (hle, .inl (cI, N, .inl (fun i_ => lvO (g i_)))), (hbs, .inr (0, [.ref hru, .ref hjo, .int (b2 bt)])), (hiq, .inr (2, [.ref hag, .int (b2 false), .int (-1 : Int32)]))] := hD
    refine lv_aload_n hx hb dX7_remove_21 rfl (lv_at hl 0 rfl) ?_
    refine va_get (D := D) (ci := 6) (v := .ref ht) (C := RX7) (T := TX7) (N := 5) hx hb hts (by decide +kernel) hown hK hP 0 rfl rfl 0 (by decide) (hts (.fieldLink RX7 12 "ConceptTable" "table" "LConceptTable$Table;") (by decide +kernel)) (fun _ h9 => h9) c0 dX7_remove_22 ?_
    refine lv_iload_n hx hb dX7_remove_25 rfl (lv_at hl 1 rfl) ?_
    have hPc := hP.sub (ws' := [(ht, .inr (5, [.ref hro, .int (nI n), .int (nI o)])), (hro, .inl (cI, 20, .inl (fun i_ => nI (r i_))))]) [1, 2] rfl
    have hDc := hD.sub (ws' := [(ht, .inr (5, [.ref hro, .int (nI n), .int (nI o)])), (hro, .inl (cI, 20, .inl (fun i_ => nI (r i_))))]) [1, 2] (by decide) rfl
    have hKc := hK.sub (tys' := [(cI, .int)]) [0] rfl
    have hFc := va_free (wc := [(ht, .inr (5, [.ref hro, .int (nI n), .int (nI o)])), (hro, .inl (cI, 20, .inl (fun i_ => nI (r i_))))]) hD hS hA [1, 2] rfl
    refine mu_call (va_runV (As := [.int (nI j)]) (rest := []) ⟨hx, hb, hml, hown, hts⟩ (c_X6_takeOut l D H.size ht hro n o cI r j hj ho) (cwV 1 hts gX7_remove_X6_takeOut rfl rfl rfl (by decide +kernel) ⟨Nat.le_of_ble_eq_true rfl, Nat.le_of_ble_eq_true rfl⟩) ⟨mu_bl, va_recv hKc hPc (ci := 5) (q0 := 0) rfl rfl, fun U hU hW => ⟨rfl, by rw [hU], by rw [hU]; exact hPc, va_K.moved hW.alike hKc, hDc.weaken (fun _ _ _ _ => trivial)⟩⟩ rfl rfl hl.1 rfl (lv_room (Nat.le_of_ble_eq_true rfl)) dX7_remove_26 ⟨Nat.le_of_ble_eq_true rfl, Nat.le_of_ble_eq_true rfl⟩) hS (fun q _ h => hFc q h) hFc (fun H1 locs hP1 hD1 hk1 hS => ?_)
    obtain ⟨hP, hD⟩ := va_join (wr := [(h0, .inr (6, fs)), (hf, .inr (1, [.ref hme, .ref hle, .int (nI n), .int (nI z), .int (b2 ar)])), (hme, .inl (cI, N, .inl (fun i_ => nI (mem i_)))), (hle, .inl (cI, N, .inl (fun i_ => lvO (g i_)))), (hbs, .inr (0, [.ref hru, .ref hjo, .int (b2 bt)])), (hiq, .inr (2, [.ref hag, .int (b2 false), .int (-1 : Int32)]))]) (w1 := [(ht, .inr (5, [.ref hro, .int (nI n), .int (nI (o - 1))])), (hro, .inl (cI, 20, .inl (fun i_ => nI ((rem_ r j (o - 1)) i_))))]) hP hD [1, 2] [0, 3, 4, 5, 6, 7] rfl rfl (by decide) (by decide) hk1 hFc hP1 hD1
    generalize H1 = H at hP hS ⊢
    have hP : va_P D vwCl [(h0, .inr (6, fs)), (hf, .inr (1, [.ref hme, .ref hle, .int (nI n), .int (nI z), .int (b2 ar)])), (hme, .inl (cI, N, .inl (fun i_ => nI (mem i_)))), (hle, .inl (cI, N, .inl (fun i_ => lvO (g i_)))), (hbs, .inr (0, [.ref hru, .ref hjo, .int (b2 bt)])), (hiq, .inr (2, [.ref hag, .int (b2 false), .int (-1 : Int32)])), (ht, .inr (5, [.ref hro, .int (nI n), .int (nI (o - 1))])), (hro, .inl (cI, 20, .inl (fun i_ => nI ((rem_ r j (o - 1)) i_))))] H := hP
    have hD : va_D A [(h0, .inr (6, fs)), (hf, .inr (1, [.ref hme, .ref hle, .int (nI n), .int (nI z), .int (b2 ar)])), (hme, .inl (cI, N, .inl (fun i_ => nI (mem i_)))), (hle, .inl (cI, N, .inl (fun i_ => lvO (g i_)))), (hbs, .inr (0, [.ref hru, .ref hjo, .int (b2 bt)])), (hiq, .inr (2, [.ref hag, .int (b2 false), .int (-1 : Int32)])), (ht, .inr (5, [.ref hro, .int (nI n), .int (nI (o - 1))])), (hro, .inl (cI, 20, .inl (fun i_ => nI ((rem_ r j (o - 1)) i_))))] := hD
    refine lv_istore_n (lv' := [(2, .int (nI (r j))), (0, .ref h0), (1, .int (nI j))]) hx hb dX7_remove_29 rfl hl (by decide) rfl (fun ls hl => ?_)
    refine lv_aload_n hx hb dX7_remove_30 rfl (lv_at hl 1 rfl) ?_
    refine va_get (D := D) (ci := 6) (v := .ref hf) (C := RX7) (T := TX7) (N := 5) hx hb hts (by decide +kernel) hown hK hP 0 rfl rfl 3 (by decide) (hts (.fieldLink RX7 33 "ConceptTable" "family" "LConceptTable$Family;") (by decide +kernel)) (fun _ h9 => h9) c3 dX7_remove_31 ?_
    refine lv_aload_n hx hb dX7_remove_34 rfl (lv_at hl 1 rfl) ?_
    refine va_get (D := D) (ci := 6) (v := .ref ht) (C := RX7) (T := TX7) (N := 5) hx hb hts (by decide +kernel) hown hK hP 0 rfl rfl 0 (by decide) (hts (.fieldLink RX7 12 "ConceptTable" "table" "LConceptTable$Table;") (by decide +kernel)) (fun _ h9 => h9) c0 dX7_remove_35 ?_
    refine rd_V (As := []) (rest := [.ref hf]) ⟨hx, hb, hml, hown, hts⟩ (c_X6_attributes l D ht ([.ref hro, .int (nI n), .int (nI (o - 1))]) n rfl) (cwV 0 hts gX7_remove_X6_attributes rfl rfl rfl (by decide +kernel) ⟨Nat.le_of_ble_eq_true rfl, Nat.le_of_ble_eq_true rfl⟩) (hP.sub (ws' := [(ht, .inr (5, [.ref hro, .int (nI n), .int (nI (o - 1))]))]) [6] rfl) (hK.sub (tys' := []) [] rfl) (va_recv hK hP (ci := 5) (q0 := 6) rfl rfl) rfl rfl hl.1 rfl (lv_room (Nat.le_of_ble_eq_true rfl)) dX7_remove_38 ⟨Nat.le_of_ble_eq_true rfl, Nat.le_of_ble_eq_true rfl⟩ ?_
    have hPc := hP.sub (ws' := [(hf, .inr (1, [.ref hme, .ref hle, .int (nI n), .int (nI z), .int (b2 ar)])), (hme, .inl (cI, N, .inl (fun i_ => nI (mem i_)))), (hle, .inl (cI, N, .inl (fun i_ => lvO (g i_))))]) [1, 2, 3] rfl
    have hDc := hD.sub (ws' := [(hf, .inr (1, [.ref hme, .ref hle, .int (nI n), .int (nI z), .int (b2 ar)])), (hme, .inl (cI, N, .inl (fun i_ => nI (mem i_)))), (hle, .inl (cI, N, .inl (fun i_ => lvO (g i_))))]) [1, 2, 3] (by decide) rfl
    have hKc := hK.sub (tys' := [(cI, .int)]) [0] rfl
    have hFc := va_free (wc := [(hf, .inr (1, [.ref hme, .ref hle, .int (nI n), .int (nI z), .int (b2 ar)])), (hme, .inl (cI, N, .inl (fun i_ => nI (mem i_)))), (hle, .inl (cI, N, .inl (fun i_ => lvO (g i_))))]) hD hS hA [1, 2, 3] rfl
    refine mx_call (va_runV (As := [.int (nI n)]) (rest := []) ⟨hx, hb, hml, hown, hts⟩ (c_X1_restart l D H.size hf hme hle n z ar cI N mem g n hn hN hN2 hfam.2.2.2) (cwV 1 hts gX7_remove_X1_restart rfl rfl rfl (by decide +kernel) ⟨Nat.le_of_ble_eq_true rfl, Nat.le_of_ble_eq_true rfl⟩) ⟨mu_bl, va_recv hKc hPc (ci := 1) (q0 := 0) rfl rfl, fun U hU hW => ⟨rfl, by rw [hU], by rw [hU]; exact hPc, va_K.moved hW.alike hKc, hDc.weaken (fun _ _ _ _ => trivial)⟩⟩ rfl rfl hl.1 rfl (lv_room (Nat.le_of_ble_eq_true rfl)) dX7_remove_41 ⟨Nat.le_of_ble_eq_true rfl, Nat.le_of_ble_eq_true rfl⟩) hS (fun q _ h => hFc q h) hFc (fun u_ H1 locs hq_ hP1 hD1 hk1 hS => ?_)
    obtain ⟨z', ar', mem', g'⟩ := u_
    have hP1 : va_P D vwCl [(hf, .inr (1, [.ref hme, .ref hle, .int (nI n), .int (nI z'), .int (b2 ar')])), (hme, .inl (cI, N, .inl (fun i_ => nI (mem' i_)))), (hle, .inl (cI, N, .inl (fun i_ => lvO (g' i_))))] H1 := hP1
    have hD1 : va_D (va_A [(hf, .inr (1, [.ref hme, .ref hle, .int (nI n), .int (nI z), .int (b2 ar)])), (hme, .inl (cI, N, .inl (fun i_ => nI (mem i_)))), (hle, .inl (cI, N, .inl (fun i_ => lvO (g i_))))] H.size) [(hf, .inr (1, [.ref hme, .ref hle, .int (nI n), .int (nI z'), .int (b2 ar')])), (hme, .inl (cI, N, .inl (fun i_ => nI (mem' i_)))), (hle, .inl (cI, N, .inl (fun i_ => lvO (g' i_))))] := hD1
    obtain ⟨hF, hB, hA0⟩ := hq_
    have hF : FamOK n g' mem' z' := hF
    have hB : ∀ x, x < 2 ^ n → (gB g' x = true ↔ x = 2 ^ n - 1) := hB
    have hA0 : ar' = false := hA0
    obtain ⟨hP, hD⟩ := va_join (wr := [(h0, .inr (6, fs)), (hbs, .inr (0, [.ref hru, .ref hjo, .int (b2 bt)])), (hiq, .inr (2, [.ref hag, .int (b2 false), .int (-1 : Int32)])), (ht, .inr (5, [.ref hro, .int (nI n), .int (nI (o - 1))])), (hro, .inl (cI, 20, .inl (fun i_ => nI ((rem_ r j (o - 1)) i_))))]) (w1 := [(hf, .inr (1, [.ref hme, .ref hle, .int (nI n), .int (nI z'), .int (b2 ar')])), (hme, .inl (cI, N, .inl (fun i_ => nI (mem' i_)))), (hle, .inl (cI, N, .inl (fun i_ => lvO (g' i_))))]) hP hD [1, 2, 3] [0, 4, 5, 6, 7] rfl rfl (by decide) (by decide) hk1 hFc hP1 hD1
    generalize H1 = H at hP hS ⊢
    have hP : va_P D vwCl [(h0, .inr (6, fs)), (hbs, .inr (0, [.ref hru, .ref hjo, .int (b2 bt)])), (hiq, .inr (2, [.ref hag, .int (b2 false), .int (-1 : Int32)])), (ht, .inr (5, [.ref hro, .int (nI n), .int (nI (o - 1))])), (hro, .inl (cI, 20, .inl (fun i_ => nI ((rem_ r j (o - 1)) i_)))), (hf, .inr (1, [.ref hme, .ref hle, .int (nI n), .int (nI z'), .int (b2 ar')])), (hme, .inl (cI, N, .inl (fun i_ => nI (mem' i_)))), (hle, .inl (cI, N, .inl (fun i_ => lvO (g' i_))))] H := hP
    have hD : va_D A [(h0, .inr (6, fs)), (hbs, .inr (0, [.ref hru, .ref hjo, .int (b2 bt)])), (hiq, .inr (2, [.ref hag, .int (b2 false), .int (-1 : Int32)])), (ht, .inr (5, [.ref hro, .int (nI n), .int (nI (o - 1))])), (hro, .inl (cI, 20, .inl (fun i_ => nI ((rem_ r j (o - 1)) i_)))), (hf, .inr (1, [.ref hme, .ref hle, .int (nI n), .int (nI z'), .int (b2 ar')])), (hme, .inl (cI, N, .inl (fun i_ => nI (mem' i_)))), (hle, .inl (cI, N, .inl (fun i_ => lvO (g' i_))))] := hD
    refine lv_iconst (v := 0) hx hb dX7_remove_44 (by decide) ?_
    refine lv_istore_n (lv' := [(3, .int (0 : Int32)), (2, .int (nI (r j))), (0, .ref h0), (1, .int (nI j))]) hx hb dX7_remove_45 rfl hl (by decide) rfl (fun ls hl => ?_)
    have lp_46 : ∀ (n_ : Nat) (k : Nat) (z1 : Nat) (ar1 : Bool) (mem1 : Nat → Nat) (g1 : Nat → Option Nat), o - 1 - k < n_ → (k ≤ o - 1) → (FamOK n g1 mem1 z1) → (∀ x, x < 2 ^ n → (gB g1 x = true ↔ clo (rem_ r j (o - 1)) n k x = x)) → (ar1 = false) → ∀ (x3 : Int32), x3 = nI k → ∀ (f_hf_3 : Int32), f_hf_3 = nI z1 → ∀ (f_hf_4 : Int32), f_hf_4 = b2 ar1 → ∀ (H : Heap) (locs : List Loc), va_P D vwCl [(h0, .inr (6, fs)), (hbs, .inr (0, [.ref hru, .ref hjo, .int (b2 bt)])), (hiq, .inr (2, [.ref hag, .int (b2 false), .int (-1 : Int32)])), (ht, .inr (5, [.ref hro, .int (nI n), .int (nI (o - 1))])), (hro, .inl (cI, 20, .inl (fun i_ => nI ((rem_ r j (o - 1)) i_)))), (hf, .inr (1, [.ref hme, .ref hle, .int (nI n), .int f_hf_3, .int f_hf_4])), (hme, .inl (cI, N, .inl (fun i_ => nI (mem1 i_)))), (hle, .inl (cI, N, .inl (fun i_ => lvO (g1 i_))))] H → va_D A [(h0, .inr (6, fs)), (hbs, .inr (0, [.ref hru, .ref hjo, .int (b2 bt)])), (hiq, .inr (2, [.ref hag, .int (b2 false), .int (-1 : Int32)])), (ht, .inr (5, [.ref hro, .int (nI n), .int (nI (o - 1))])), (hro, .inl (cI, 20, .inl (fun i_ => nI ((rem_ r j (o - 1)) i_)))), (hf, .inr (1, [.ref hme, .ref hle, .int (nI n), .int f_hf_3, .int f_hf_4])), (hme, .inl (cI, N, .inl (fun i_ => nI (mem1 i_)))), (hle, .inl (cI, N, .inl (fun i_ => lvO (g1 i_))))] → va_S A s.heap H locs → ∀ (ls : Array Slot), lv_has ls 4 [(3, .int x3), (2, .int (nI (r j))), (0, .ref h0), (1, .int (nI j))] → W p l e (headSpec wsX7_remove ({ frames := 5, cells := 0, slots := 0, locals := 107 })).room s m ([.ref h0, .int (nI j)] : List Value).toArray below meth c H locs 0 0 (MQ below (mxQ (fun u_ : Nat × Bool × (Nat → Nat) × (Nat → Option Nat) => match u_ with | (z', ar', mem', g') => (some (.int (nI (r j))))) (fun u_ : Nat × Bool × (Nat → Nat) × (Nat → Option Nat) => match u_ with | (z', ar', mem', g') => (FamOK n g' mem' z') ∧ (∀ x, x < 2 ^ n → (gB g' x = true ↔ clo (rem_ r j (o - 1)) n (o - 1) x = x)) ∧ (ar' = false)) (fun u_ : Nat × Bool × (Nat → Nat) × (Nat → Option Nat) => match u_ with | (z', ar', mem', g') => [(h0, .inr (6, fs)), (ht, .inr (5, [.ref hro, .int (nI n), .int (nI (o - 1))])), (hro, .inl (cI, 20, .inl (fun i_ => nI ((rem_ r j (o - 1)) i_)))), (hf, .inr (1, [.ref hme, .ref hle, .int (nI n), .int (nI z'), .int (b2 ar')])), (hme, .inl (cI, N, .inl (fun i_ => nI (mem' i_)))), (hle, .inl (cI, N, .inl (fun i_ => lvO (g' i_)))), (hbs, .inr (0, [.ref hru, .ref hjo, .int (b2 false)])), (hiq, .inr (2, [.ref hag, .int (b2 false), .int (-1 : Int32)]))]) D vwCl A) ([.ref h0, .int (nI j)] : List Value).toArray s 0 0 A) (F0 m 46 ls []) := by
      intro n_
      induction n_ with
      | zero => intro k z1 ar1 mem1 g1 h0_; exact absurd h0_ (Nat.not_lt_zero _)
      | succ n_ ih_46 =>
        intro k z1 ar1 mem1 g1 hm_46 hk hf1 hb1 ha1 x3 e_x3 f_hf_3 e_f_hf_3 f_hf_4 e_f_hf_4 H locs hP hD hS ls hl
        subst e_x3
        subst e_f_hf_3
        subst e_f_hf_4
        refine lv_iload_n hx hb dX7_remove_46 rfl (lv_at hl 0 rfl) ?_
        refine lv_aload_n hx hb dX7_remove_47 rfl (lv_at hl 2 rfl) ?_
        refine va_get (D := D) (ci := 6) (v := .ref ht) (C := RX7) (T := TX7) (N := 5) hx hb hts (by decide +kernel) hown hK hP 0 rfl rfl 0 (by decide) (hts (.fieldLink RX7 12 "ConceptTable" "table" "LConceptTable$Table;") (by decide +kernel)) (fun _ h9 => h9) c0 dX7_remove_48 ?_
        refine rd_V (As := []) (rest := [.int (nI k)]) ⟨hx, hb, hml, hown, hts⟩ (c_X6_size l D ht ([.ref hro, .int (nI n), .int (nI (o - 1))]) (o - 1) rfl) (cwV 0 hts gX7_remove_X6_size rfl rfl rfl (by decide +kernel) ⟨Nat.le_of_ble_eq_true rfl, Nat.le_of_ble_eq_true rfl⟩) (hP.sub (ws' := [(ht, .inr (5, [.ref hro, .int (nI n), .int (nI (o - 1))]))]) [3] rfl) (hK.sub (tys' := []) [] rfl) (va_recv hK hP (ci := 5) (q0 := 3) rfl rfl) rfl rfl hl.1 rfl (lv_room (Nat.le_of_ble_eq_true rfl)) dX7_remove_51 ⟨Nat.le_of_ble_eq_true rfl, Nat.le_of_ble_eq_true rfl⟩ ?_
        refine lv_icmp_ge (tgt := 78) hx hb dX7_remove_54 (by decide) (fun c_54 => ?_) (fun c_54 => ?_)
        · have c_54 : (o - 1) ≤ k := (nI_leI (a := (o - 1)) (b := k) (by omega) (by omega)).mp c_54
          refine lv_aload_n hx hb dX7_remove_78 rfl (lv_at hl 2 rfl) ?_
          refine va_get (D := D) (ci := 6) (v := .ref hbs) (C := RX7) (T := TX7) (N := 5) hx hb hts (by decide +kernel) hown hK hP 0 rfl rfl 4 (by decide) (hts (.fieldLink RX7 40 "ConceptTable" "stem" "LConceptTable$Base;") (by decide +kernel)) (fun _ h9 => h9) c4 dX7_remove_79 ?_
          have hPc := hP.sub (ws' := [(hbs, .inr (0, [.ref hru, .ref hjo, .int (b2 bt)]))]) [1] rfl
          have hDc := hD.sub (ws' := [(hbs, .inr (0, [.ref hru, .ref hjo, .int (b2 bt)]))]) [1] (by decide) rfl
          have hKc := hK.sub (tys' := []) [] rfl
          have hFc := va_free (wc := [(hbs, .inr (0, [.ref hru, .ref hjo, .int (b2 bt)]))]) hD hS hA [1] rfl
          refine mu_call (va_runV (As := []) (rest := []) ⟨hx, hb, hml, hown, hts⟩ (c_X0_forget l D H.size hbs hru hjo bt ) (cwV 0 hts gX7_remove_X0_forget rfl rfl rfl (by decide +kernel) ⟨Nat.le_of_ble_eq_true rfl, Nat.le_of_ble_eq_true rfl⟩) ⟨mu_bl, va_recv hKc hPc (ci := 0) (q0 := 0) rfl rfl, fun U hU hW => ⟨rfl, by rw [hU], by rw [hU]; exact hPc, va_K.moved hW.alike hKc, hDc.weaken (fun _ _ _ _ => trivial)⟩⟩ rfl rfl hl.1 rfl (lv_room (Nat.le_of_ble_eq_true rfl)) dX7_remove_82 ⟨Nat.le_of_ble_eq_true rfl, Nat.le_of_ble_eq_true rfl⟩) hS (fun q _ h => hFc q h) hFc (fun H1 locs hP1 hD1 hk1 hS => ?_)
          obtain ⟨hP, hD⟩ := va_join (wr := [(h0, .inr (6, fs)), (hiq, .inr (2, [.ref hag, .int (b2 false), .int (-1 : Int32)])), (ht, .inr (5, [.ref hro, .int (nI n), .int (nI (o - 1))])), (hro, .inl (cI, 20, .inl (fun i_ => nI ((rem_ r j (o - 1)) i_)))), (hf, .inr (1, [.ref hme, .ref hle, .int (nI n), .int (nI z1), .int (b2 ar1)])), (hme, .inl (cI, N, .inl (fun i_ => nI (mem1 i_)))), (hle, .inl (cI, N, .inl (fun i_ => lvO (g1 i_))))]) (w1 := [(hbs, .inr (0, [.ref hru, .ref hjo, .int (b2 false)]))]) hP hD [1] [0, 2, 3, 4, 5, 6, 7] rfl rfl (by decide) (by decide) hk1 hFc hP1 hD1
          generalize H1 = H at hP hS ⊢
          have hP : va_P D vwCl [(h0, .inr (6, fs)), (hiq, .inr (2, [.ref hag, .int (b2 false), .int (-1 : Int32)])), (ht, .inr (5, [.ref hro, .int (nI n), .int (nI (o - 1))])), (hro, .inl (cI, 20, .inl (fun i_ => nI ((rem_ r j (o - 1)) i_)))), (hf, .inr (1, [.ref hme, .ref hle, .int (nI n), .int (nI z1), .int (b2 ar1)])), (hme, .inl (cI, N, .inl (fun i_ => nI (mem1 i_)))), (hle, .inl (cI, N, .inl (fun i_ => lvO (g1 i_)))), (hbs, .inr (0, [.ref hru, .ref hjo, .int (b2 false)]))] H := hP
          have hD : va_D A [(h0, .inr (6, fs)), (hiq, .inr (2, [.ref hag, .int (b2 false), .int (-1 : Int32)])), (ht, .inr (5, [.ref hro, .int (nI n), .int (nI (o - 1))])), (hro, .inl (cI, 20, .inl (fun i_ => nI ((rem_ r j (o - 1)) i_)))), (hf, .inr (1, [.ref hme, .ref hle, .int (nI n), .int (nI z1), .int (b2 ar1)])), (hme, .inl (cI, N, .inl (fun i_ => nI (mem1 i_)))), (hle, .inl (cI, N, .inl (fun i_ => lvO (g1 i_)))), (hbs, .inr (0, [.ref hru, .ref hjo, .int (b2 false)]))] := hD
          refine lv_iload_n hx hb dX7_remove_85 rfl (lv_at hl 1 rfl) ?_
          have hP := hP.sub (ws' := [(h0, .inr (6, fs)), (ht, .inr (5, [.ref hro, .int (nI n), .int (nI (o - 1))])), (hro, .inl (cI, 20, .inl (fun i_ => nI ((rem_ r j (o - 1)) i_)))), (hf, .inr (1, [.ref hme, .ref hle, .int (nI n), .int (nI z1), .int (b2 ar1)])), (hme, .inl (cI, N, .inl (fun i_ => nI (mem1 i_)))), (hle, .inl (cI, N, .inl (fun i_ => lvO (g1 i_)))), (hbs, .inr (0, [.ref hru, .ref hjo, .int (b2 false)])), (hiq, .inr (2, [.ref hag, .int (b2 false), .int (-1 : Int32)]))]) [0, 2, 3, 4, 5, 6, 7, 1] rfl
          have hD := hD.sub (ws' := [(h0, .inr (6, fs)), (ht, .inr (5, [.ref hro, .int (nI n), .int (nI (o - 1))])), (hro, .inl (cI, 20, .inl (fun i_ => nI ((rem_ r j (o - 1)) i_)))), (hf, .inr (1, [.ref hme, .ref hle, .int (nI n), .int (nI z1), .int (b2 ar1)])), (hme, .inl (cI, N, .inl (fun i_ => nI (mem1 i_)))), (hle, .inl (cI, N, .inl (fun i_ => lvO (g1 i_)))), (hbs, .inr (0, [.ref hru, .ref hjo, .int (b2 false)])), (hiq, .inr (2, [.ref hag, .int (b2 false), .int (-1 : Int32)]))]) [0, 2, 3, 4, 5, 6, 7, 1] (by decide) rfl
          exact W.iret (v := (nI (r j))) hx hb hr (fun t ht hW => ⟨⟨(z1, ar1, mem1, g1), rfl, ⟨hf1, (Eq.subst (motive := fun k_ => ∀ x, x < 2 ^ n → (gB g1 x = true ↔ clo (rem_ r j (o - 1)) n k_ x = x)) (show k = o - 1 by omega) hb1), ha1⟩, by rw [ht]; exact hP, hD⟩, hS.F ht⟩) hS.2.2 dX7_remove_86
        · have c_54 : k < (o - 1) := Nat.lt_of_not_le (fun h_ => c_54 ((nI_leI (a := (o - 1)) (b := k) (by omega) (by omega)).mpr h_))
          refine lv_aload_n hx hb dX7_remove_57 rfl (lv_at hl 2 rfl) ?_
          refine va_get (D := D) (ci := 6) (v := .ref hf) (C := RX7) (T := TX7) (N := 5) hx hb hts (by decide +kernel) hown hK hP 0 rfl rfl 3 (by decide) (hts (.fieldLink RX7 33 "ConceptTable" "family" "LConceptTable$Family;") (by decide +kernel)) (fun _ h9 => h9) c3 dX7_remove_58 ?_
          refine lv_aload_n hx hb dX7_remove_61 rfl (lv_at hl 2 rfl) ?_
          refine va_get (D := D) (ci := 6) (v := .ref ht) (C := RX7) (T := TX7) (N := 5) hx hb hts (by decide +kernel) hown hK hP 0 rfl rfl 0 (by decide) (hts (.fieldLink RX7 12 "ConceptTable" "table" "LConceptTable$Table;") (by decide +kernel)) (fun _ h9 => h9) c0 dX7_remove_62 ?_
          refine lv_iload_n hx hb dX7_remove_65 rfl (lv_at hl 0 rfl) ?_
          refine rd_V (As := [.int (nI k)]) (rest := [.ref hf]) ⟨hx, hb, hml, hown, hts⟩ (c_X6_row l D ht ([.ref hro, .int (nI n), .int (nI (o - 1))]) hro cI (o - 1) (rem_ r j (o - 1)) k rfl rfl (by omega) (by omega)) (cwV 1 hts gX7_remove_X6_row rfl rfl rfl (by decide +kernel) ⟨Nat.le_of_ble_eq_true rfl, Nat.le_of_ble_eq_true rfl⟩) (hP.sub (ws' := [(ht, .inr (5, [.ref hro, .int (nI n), .int (nI (o - 1))])), (hro, .inl (cI, 20, .inl (fun i_ => nI ((rem_ r j (o - 1)) i_))))]) [3, 4] rfl) (hK.sub (tys' := [(cI, .int)]) [0] rfl) (va_recv hK hP (ci := 5) (q0 := 3) rfl rfl) rfl rfl hl.1 rfl (lv_room (Nat.le_of_ble_eq_true rfl)) dX7_remove_66 ⟨Nat.le_of_ble_eq_true rfl, Nat.le_of_ble_eq_true rfl⟩ ?_
          have hPc := hP.sub (ws' := [(hf, .inr (1, [.ref hme, .ref hle, .int (nI n), .int (nI z1), .int (b2 ar1)])), (hme, .inl (cI, N, .inl (fun i_ => nI (mem1 i_)))), (hle, .inl (cI, N, .inl (fun i_ => lvO (g1 i_))))]) [5, 6, 7] rfl
          have hDc := hD.sub (ws' := [(hf, .inr (1, [.ref hme, .ref hle, .int (nI n), .int (nI z1), .int (b2 ar1)])), (hme, .inl (cI, N, .inl (fun i_ => nI (mem1 i_)))), (hle, .inl (cI, N, .inl (fun i_ => lvO (g1 i_))))]) [5, 6, 7] (by decide) rfl
          have hKc := hK.sub (tys' := [(cI, .int)]) [0] rfl
          have hFc := va_free (wc := [(hf, .inr (1, [.ref hme, .ref hle, .int (nI n), .int (nI z1), .int (b2 ar1)])), (hme, .inl (cI, N, .inl (fun i_ => nI (mem1 i_)))), (hle, .inl (cI, N, .inl (fun i_ => lvO (g1 i_))))]) hD hS hA [5, 6, 7] rfl
          refine mx_call (va_runV (As := [.int (nI ((rem_ r j (o - 1)) k))]) (rest := []) ⟨hx, hb, hml, hown, hts⟩ (c_X1_meetWith l D H.size hf hme hle n z1 ar1 cI N mem1 g1 ((rem_ r j (o - 1)) k) hn hN hN2 hf1) (cwV 1 hts gX7_remove_X1_meetWith rfl rfl rfl (by decide +kernel) ⟨Nat.le_of_ble_eq_true rfl, Nat.le_of_ble_eq_true rfl⟩) ⟨mu_bl, va_recv hKc hPc (ci := 1) (q0 := 0) rfl rfl, fun U hU hW => ⟨rfl, by rw [hU], by rw [hU]; exact hPc, va_K.moved hW.alike hKc, hDc.weaken (fun _ _ _ _ => trivial)⟩⟩ rfl rfl hl.1 rfl (lv_room (Nat.le_of_ble_eq_true rfl)) dX7_remove_69 ⟨Nat.le_of_ble_eq_true rfl, Nat.le_of_ble_eq_true rfl⟩) hS (fun q _ h => hFc q h) hFc (fun u_ H1 locs hq_ hP1 hD1 hk1 hS => ?_)
          obtain ⟨z2, ar2, mem2, g2⟩ := u_
          have hP1 : va_P D vwCl [(hf, .inr (1, [.ref hme, .ref hle, .int (nI n), .int (nI z2), .int (b2 ar2)])), (hme, .inl (cI, N, .inl (fun i_ => nI (mem2 i_)))), (hle, .inl (cI, N, .inl (fun i_ => lvO (g2 i_))))] H1 := hP1
          have hD1 : va_D (va_A [(hf, .inr (1, [.ref hme, .ref hle, .int (nI n), .int (nI z1), .int (b2 ar1)])), (hme, .inl (cI, N, .inl (fun i_ => nI (mem1 i_)))), (hle, .inl (cI, N, .inl (fun i_ => lvO (g1 i_))))] H.size) [(hf, .inr (1, [.ref hme, .ref hle, .int (nI n), .int (nI z2), .int (b2 ar2)])), (hme, .inl (cI, N, .inl (fun i_ => nI (mem2 i_)))), (hle, .inl (cI, N, .inl (fun i_ => lvO (g2 i_))))] := hD1
          obtain ⟨hF2, hB2, hAr2⟩ := hq_
          have hF2 : FamOK n g2 mem2 z2 := hF2
          have hB2 : ∀ x, x < 2 ^ n → (gB g2 x = true ↔ gB g1 x = true ∨ ∃ p, p < 2 ^ n ∧ gB g1 p = true ∧ (p &&& ((rem_ r j (o - 1)) k)) = x) := hB2
          have hAr2 : ar2 = true → ar1 = true ∧ g2 = g1 ∧ mem2 = mem1 ∧ z2 = z1 := hAr2
          obtain ⟨hP, hD⟩ := va_join (wr := [(h0, .inr (6, fs)), (hbs, .inr (0, [.ref hru, .ref hjo, .int (b2 bt)])), (hiq, .inr (2, [.ref hag, .int (b2 false), .int (-1 : Int32)])), (ht, .inr (5, [.ref hro, .int (nI n), .int (nI (o - 1))])), (hro, .inl (cI, 20, .inl (fun i_ => nI ((rem_ r j (o - 1)) i_))))]) (w1 := [(hf, .inr (1, [.ref hme, .ref hle, .int (nI n), .int (nI z2), .int (b2 ar2)])), (hme, .inl (cI, N, .inl (fun i_ => nI (mem2 i_)))), (hle, .inl (cI, N, .inl (fun i_ => lvO (g2 i_))))]) hP hD [5, 6, 7] [0, 1, 2, 3, 4] rfl rfl (by decide) (by decide) hk1 hFc hP1 hD1
          generalize H1 = H at hP hS ⊢
          have hP : va_P D vwCl [(h0, .inr (6, fs)), (hbs, .inr (0, [.ref hru, .ref hjo, .int (b2 bt)])), (hiq, .inr (2, [.ref hag, .int (b2 false), .int (-1 : Int32)])), (ht, .inr (5, [.ref hro, .int (nI n), .int (nI (o - 1))])), (hro, .inl (cI, 20, .inl (fun i_ => nI ((rem_ r j (o - 1)) i_)))), (hf, .inr (1, [.ref hme, .ref hle, .int (nI n), .int (nI z2), .int (b2 ar2)])), (hme, .inl (cI, N, .inl (fun i_ => nI (mem2 i_)))), (hle, .inl (cI, N, .inl (fun i_ => lvO (g2 i_))))] H := hP
          have hD : va_D A [(h0, .inr (6, fs)), (hbs, .inr (0, [.ref hru, .ref hjo, .int (b2 bt)])), (hiq, .inr (2, [.ref hag, .int (b2 false), .int (-1 : Int32)])), (ht, .inr (5, [.ref hro, .int (nI n), .int (nI (o - 1))])), (hro, .inl (cI, 20, .inl (fun i_ => nI ((rem_ r j (o - 1)) i_)))), (hf, .inr (1, [.ref hme, .ref hle, .int (nI n), .int (nI z2), .int (b2 ar2)])), (hme, .inl (cI, N, .inl (fun i_ => nI (mem2 i_)))), (hle, .inl (cI, N, .inl (fun i_ => lvO (g2 i_))))] := hD
          refine lv_iinc (v := (nI (k + 1))) (lv' := [(3, .int (nI (k + 1))), (2, .int (nI (r j))), (0, .ref h0), (1, .int (nI j))]) hx hb dX7_remove_72 hl (k := 0) rfl (nI_add _ 1) (by decide) rfl (fun ls hl => ?_)
          refine lv_goto (tgt := 46) hx hb dX7_remove_75 (by decide) ?_
          exact ih_46 (k + 1) z2 ar2 mem2 g2 (by omega) (by omega) hF2 (fun x hx => by rw [hB2 x hx, clo_more hx, hb1 x hx]; exact ⟨fun h_ => h_.imp id (fun ⟨p, h1, h2, h3⟩ => ⟨p, h1, (hb1 p h1).mp h2, h3⟩), fun h_ => h_.imp id (fun ⟨p, h1, h2, h3⟩ => ⟨p, h1, (hb1 p h1).mpr h2, h3⟩)⟩) (by cases ar2; rfl; exact absurd (hAr2 rfl).1 (by rw [ha1]; decide)) _ rfl _ rfl _ rfl _ _ (hP.sub [0, 1, 2, 3, 4, 5, 6, 7] rfl) (hD.sub [0, 1, 2, 3, 4, 5, 6, 7] (by decide) rfl) hS _ (lv_sub hl [0, 1, 2, 3] rfl)
    exact lp_46 _ 0 z' ar' mem' g' (Nat.lt_succ_self _) (Nat.zero_le _) hF (fun x hx => by rw [hB x hx, clo_0]; exact ⟨fun e => e.symm, fun e => e.symm⟩) hA0 _ rfl _ rfl _ rfl _ _ hP hD hS _ (lv_sub hl [0, 1, 2, 3] rfl)
  · have c_8 := b2_0.mp c_8
    exact Bool.noConfusion (c_8.symm.trans (ib_t (by omega) hj))

set_option maxHeartbeats 4000000 in
set_option maxRecDepth 100000 in
theorem c_X7_ask (l : Launch) (D : va_G) (sz : Nat) (h0 : Nat) (fs : List Value) (hiq : Nat) (hag : Nat) (op : Bool) (ask : Int32) (hai : Nat) (hac : Nat) (az : Nat) (NA : Nat) (aif : Nat → Nat) (ath : Nat → Nat) (hf : Nat) (ff : List Value) (hle : Nat) (N : Nat) (g : Nat → Option Nat) (cI : ClassId) (n : Nat) (o : Nat) (r : Nat → Nat) (c2 : fs[2]? = some (.ref hiq)) (c3 : fs[3]? = some (.ref hf)) (g1 : ff[1]? = some (.ref hle)) (g2 : ff[2]? = some (.int (nI n))) (hn : n ≤ 12) (hN : 2 ^ n ≤ N) (hN2 : N ≤ 4096) (haz : az ≤ NA) (hNA : NA ≤ 4096) (hai_ : ∀ j, aif j < 4096) (hac_ : ∀ j, ath j < 4096) (hgb : ∀ j v, g j = some v → v ≤ 4096) (hgc : ∀ q, q < 2 ^ n → (gB g q = true ↔ clo r n o q = q)) : Met l yX7_ask wsX7_ask ({ frames := 4, cells := 0, slots := 0, locals := 86 }) (va_Pc [.ref h0] (fun U => U.heap.size = sz ∧ va_P D vwCl [(h0, .inr (6, fs)), (hiq, .inr (2, [.ref hag, .int (b2 op), .int ask])), (hag, .inr (4, [.ref hai, .ref hac, .int (nI az)])), (hai, .inl (cI, NA, .inl (fun i_ => nI (aif i_)))), (hac, .inl (cI, NA, .inl (fun i_ => nI (ath i_)))), (hf, .inr (1, ff)), (hle, .inl (cI, N, .inl (fun i_ => lvO (g i_))))] U.heap ∧ va_K D vwCl [(cI, .int)] U ∧ va_D (fun _ => True) [(h0, .inr (6, fs)), (hiq, .inr (2, [.ref hag, .int (b2 op), .int ask])), (hag, .inr (4, [.ref hai, .ref hac, .int (nI az)])), (hai, .inl (cI, NA, .inl (fun i_ => nI (aif i_)))), (hac, .inl (cI, NA, .inl (fun i_ => nI (ath i_)))), (hf, .inr (1, ff)), (hle, .inl (cI, N, .inl (fun i_ => lvO (g i_))))])) (muQ (some (.int (fQ r n o aif ath 0))) D vwCl [(h0, .inr (6, fs)), (hiq, .inr (2, [.ref hag, .int (b2 true), .int (fQ r n o aif ath 0)])), (hag, .inr (4, [.ref hai, .ref hac, .int (nI 0)])), (hai, .inl (cI, NA, .inl (fun i_ => nI (aif i_)))), (hac, .inl (cI, NA, .inl (fun i_ => nI (ath i_)))), (hf, .inr (1, ff)), (hle, .inl (cI, N, .inl (fun i_ => lvO (g i_))))] (va_A [(h0, .inr (6, fs)), (hiq, .inr (2, [.ref hag, .int (b2 op), .int ask])), (hag, .inr (4, [.ref hai, .ref hac, .int (nI az)])), (hai, .inl (cI, NA, .inl (fun i_ => nI (aif i_)))), (hac, .inl (cI, NA, .inl (fun i_ => nI (ath i_)))), (hf, .inr (1, ff)), (hle, .inl (cI, N, .inl (fun i_ => lvO (g i_))))] sz)) 0 0 (va_A [(h0, .inr (6, fs)), (hiq, .inr (2, [.ref hag, .int (b2 op), .int ask])), (hag, .inr (4, [.ref hai, .ref hac, .int (nI az)])), (hai, .inl (cI, NA, .inl (fun i_ => nI (aif i_)))), (hac, .inl (cI, NA, .inl (fun i_ => nI (ath i_)))), (hf, .inr (1, ff)), (hle, .inl (cI, N, .inl (fun i_ => lvO (g i_))))] sz) := by
  refine Met.ofW (cc := cX7_ask) (maxL := 1) (ret := (some .int)) (by decide) rfl ?_
  intro p e s m args below meth c s₁ B hml hv
  obtain ⟨rfl, hsz, hP, hK, hD0⟩ := hv
  have hx := B.exec
  have hb := B.bytes
  have hr := B.returns
  have hts := atoms_spec (ws := wsX7_ask) B.pre
  have hown : s.vm.findClass RX7 = some m.cls := findClass_of_methodNamed B.named
  have hlocks := B.notSynchronized
  subst hsz
  have hD := hD0.self (sz := s.heap.size)
  generalize hAe : va_A [(h0, .inr (6, fs)), (hiq, .inr (2, [.ref hag, .int (b2 op), .int ask])), (hag, .inr (4, [.ref hai, .ref hac, .int (nI az)])), (hai, .inl (cI, NA, .inl (fun i_ => nI (aif i_)))), (hac, .inl (cI, NA, .inl (fun i_ => nI (ath i_)))), (hf, .inr (1, ff)), (hle, .inl (cI, N, .inl (fun i_ => lvO (g i_))))] s.heap.size = A at hD ⊢
  have hA : ∀ q : Nat, s.heap.size ≤ q → A q := fun q h => by rw [← hAe]; exact Or.inr h
  have hS : va_S A s.heap s.heap [] := va_S.rf
  have hl := lv_entry ([.ref h0]) (n := 1) (Nat.le_of_ble_eq_true rfl)
  rw [lg_entry_eq]
  generalize (lg_sl ([.ref h0]) ++ List.replicate (1 - (lg_sl ([.ref h0])).length) Slot.unset).toArray = ls at hl ⊢
  have hl : lv_has ls 1 [(0, .ref h0)] := hl
  refine lv_aload_n hx hb dX7_ask_0 rfl (lv_at hl 0 rfl) ?_
  refine va_get (D := D) (ci := 6) (v := .ref hiq) (C := RX7) (T := TX7) (N := 5) hx hb hts (by decide +kernel) hown hK hP 0 rfl rfl 2 (by decide) (hts (.fieldLink RX7 26 "ConceptTable" "inquiry" "LConceptTable$Inquiry;") (by decide +kernel)) (fun _ h9 => h9) c2 dX7_ask_1 ?_
  have hPc := hP.sub (ws' := [(hiq, .inr (2, [.ref hag, .int (b2 op), .int ask])), (hag, .inr (4, [.ref hai, .ref hac, .int (nI az)]))]) [1, 2] rfl
  have hDc := hD.sub (ws' := [(hiq, .inr (2, [.ref hag, .int (b2 op), .int ask])), (hag, .inr (4, [.ref hai, .ref hac, .int (nI az)]))]) [1, 2] (by decide) rfl
  have hKc := hK.sub (tys' := []) [] rfl
  have hFc := va_free (wc := [(hiq, .inr (2, [.ref hag, .int (b2 op), .int ask])), (hag, .inr (4, [.ref hai, .ref hac, .int (nI az)]))]) hD hS hA [1, 2] rfl
  refine mu_call (va_runV (As := []) (rest := []) ⟨hx, hb, hml, hown, hts⟩ (c_X2_start l D s.heap.size hiq hag op ask hai hac az ) (cwV 0 hts gX7_ask_X2_start rfl rfl rfl (by decide +kernel) ⟨Nat.le_of_ble_eq_true rfl, Nat.le_of_ble_eq_true rfl⟩) ⟨mu_bl, va_recv hKc hPc (ci := 2) (q0 := 0) rfl rfl, fun U hU hW => ⟨rfl, by rw [hU], by rw [hU]; exact hPc, va_K.moved hW.alike hKc, hDc.weaken (fun _ _ _ _ => trivial)⟩⟩ rfl rfl hl.1 rfl (lv_room (Nat.le_of_ble_eq_true rfl)) dX7_ask_4 ⟨Nat.le_of_ble_eq_true rfl, Nat.le_of_ble_eq_true rfl⟩) hS (fun q _ h => hFc q h) hFc (fun H1 locs hP1 hD1 hk1 hS => ?_)
  obtain ⟨hP, hD⟩ := va_join (wr := [(h0, .inr (6, fs)), (hai, .inl (cI, NA, .inl (fun i_ => nI (aif i_)))), (hac, .inl (cI, NA, .inl (fun i_ => nI (ath i_)))), (hf, .inr (1, ff)), (hle, .inl (cI, N, .inl (fun i_ => lvO (g i_))))]) (w1 := [(hiq, .inr (2, [.ref hag, .int (b2 true), .int (nI 0)])), (hag, .inr (4, [.ref hai, .ref hac, .int (nI 0)]))]) hP hD [1, 2] [0, 3, 4, 5, 6] rfl rfl (by decide) (by decide) hk1 hFc hP1 hD1
  generalize H1 = H at hP hS ⊢
  have hP : va_P D vwCl [(h0, .inr (6, fs)), (hai, .inl (cI, NA, .inl (fun i_ => nI (aif i_)))), (hac, .inl (cI, NA, .inl (fun i_ => nI (ath i_)))), (hf, .inr (1, ff)), (hle, .inl (cI, N, .inl (fun i_ => lvO (g i_)))), (hiq, .inr (2, [.ref hag, .int (b2 true), .int (nI 0)])), (hag, .inr (4, [.ref hai, .ref hac, .int (nI 0)]))] H := hP
  have hD : va_D A [(h0, .inr (6, fs)), (hai, .inl (cI, NA, .inl (fun i_ => nI (aif i_)))), (hac, .inl (cI, NA, .inl (fun i_ => nI (ath i_)))), (hf, .inr (1, ff)), (hle, .inl (cI, N, .inl (fun i_ => lvO (g i_)))), (hiq, .inr (2, [.ref hag, .int (b2 true), .int (nI 0)])), (hag, .inr (4, [.ref hai, .ref hac, .int (nI 0)]))] := hD
  refine lv_aload_n hx hb dX7_ask_7 rfl (lv_at hl 0 rfl) ?_
  refine va_get (D := D) (ci := 6) (v := .ref hiq) (C := RX7) (T := TX7) (N := 5) hx hb hts (by decide +kernel) hown hK hP 0 rfl rfl 2 (by decide) (hts (.fieldLink RX7 26 "ConceptTable" "inquiry" "LConceptTable$Inquiry;") (by decide +kernel)) (fun _ h9 => h9) c2 dX7_ask_8 ?_
  refine lv_aload_n hx hb dX7_ask_11 rfl (lv_at hl 0 rfl) ?_
  refine va_get (D := D) (ci := 6) (v := .ref hf) (C := RX7) (T := TX7) (N := 5) hx hb hts (by decide +kernel) hown hK hP 0 rfl rfl 3 (by decide) (hts (.fieldLink RX7 33 "ConceptTable" "family" "LConceptTable$Family;") (by decide +kernel)) (fun _ h9 => h9) c3 dX7_ask_12 ?_
  have hPc := hP.sub (ws' := [(hiq, .inr (2, [.ref hag, .int (b2 true), .int (nI 0)])), (hag, .inr (4, [.ref hai, .ref hac, .int (nI 0)])), (hai, .inl (cI, NA, .inl (fun i_ => nI (aif i_)))), (hac, .inl (cI, NA, .inl (fun i_ => nI (ath i_)))), (hf, .inr (1, ff)), (hle, .inl (cI, N, .inl (fun i_ => lvO (g i_))))]) [5, 6, 1, 2, 3, 4] rfl
  have hDc := hD.sub (ws' := [(hiq, .inr (2, [.ref hag, .int (b2 true), .int (nI 0)])), (hag, .inr (4, [.ref hai, .ref hac, .int (nI 0)])), (hai, .inl (cI, NA, .inl (fun i_ => nI (aif i_)))), (hac, .inl (cI, NA, .inl (fun i_ => nI (ath i_)))), (hf, .inr (1, ff)), (hle, .inl (cI, N, .inl (fun i_ => lvO (g i_))))]) [5, 6, 1, 2, 3, 4] (by decide) rfl
  have hKc := hK.sub (tys' := [(cI, .int)]) [0] rfl
  have hFc := va_free (wc := [(hiq, .inr (2, [.ref hag, .int (b2 true), .int (nI 0)])), (hag, .inr (4, [.ref hai, .ref hac, .int (nI 0)])), (hai, .inl (cI, NA, .inl (fun i_ => nI (aif i_)))), (hac, .inl (cI, NA, .inl (fun i_ => nI (ath i_)))), (hf, .inr (1, ff)), (hle, .inl (cI, N, .inl (fun i_ => lvO (g i_))))]) hD hS hA [5, 6, 1, 2, 3, 4] rfl
  refine mu_call (va_runV (As := [.ref hf]) (rest := []) ⟨hx, hb, hml, hown, hts⟩ (c_X2_seek l D H.size hiq hag true 0 0 ([.ref hai, .ref hac, .int (nI 0)]) hai hac 0 cI NA aif ath hf ff hle n N g o r rfl rfl rfl g1 g2 hn (Nat.zero_le _) hNA (fun j h => absurd h (Nat.not_lt_zero _)) (fun j h => absurd h (Nat.not_lt_zero _)) hN hN2 hgb hgc (p2_pos n) (tur_0 n n).symm) (cwV 1 hts gX7_ask_X2_seek rfl rfl rfl (by decide +kernel) ⟨Nat.le_of_ble_eq_true rfl, Nat.le_of_ble_eq_true rfl⟩) ⟨mu_bl, va_recv hKc hPc (ci := 2) (q0 := 0) rfl rfl, fun U hU hW => ⟨rfl, by rw [hU], by rw [hU]; exact hPc, va_K.moved hW.alike hKc, hDc.weaken (fun _ _ _ _ => trivial)⟩⟩ rfl rfl hl.1 rfl (lv_room (Nat.le_of_ble_eq_true rfl)) dX7_ask_15 ⟨Nat.le_of_ble_eq_true rfl, Nat.le_of_ble_eq_true rfl⟩) hS (fun q _ h => hFc q h) hFc (fun H1 locs hP1 hD1 hk1 hS => ?_)
  obtain ⟨hP, hD⟩ := va_join (wr := [(h0, .inr (6, fs))]) (w1 := [(hiq, .inr (2, [.ref hag, .int (b2 true), .int (fqF r n o aif ath 0 (2 ^ n - 0) 0)])), (hag, .inr (4, [.ref hai, .ref hac, .int (nI 0)])), (hai, .inl (cI, NA, .inl (fun i_ => nI (aif i_)))), (hac, .inl (cI, NA, .inl (fun i_ => nI (ath i_)))), (hf, .inr (1, ff)), (hle, .inl (cI, N, .inl (fun i_ => lvO (g i_))))]) hP hD [5, 6, 1, 2, 3, 4] [0] rfl rfl (by decide) (by decide) hk1 hFc hP1 hD1
  generalize H1 = H at hP hS ⊢
  have hP : va_P D vwCl [(h0, .inr (6, fs)), (hiq, .inr (2, [.ref hag, .int (b2 true), .int (fqF r n o aif ath 0 (2 ^ n - 0) 0)])), (hag, .inr (4, [.ref hai, .ref hac, .int (nI 0)])), (hai, .inl (cI, NA, .inl (fun i_ => nI (aif i_)))), (hac, .inl (cI, NA, .inl (fun i_ => nI (ath i_)))), (hf, .inr (1, ff)), (hle, .inl (cI, N, .inl (fun i_ => lvO (g i_))))] H := hP
  have hD : va_D A [(h0, .inr (6, fs)), (hiq, .inr (2, [.ref hag, .int (b2 true), .int (fqF r n o aif ath 0 (2 ^ n - 0) 0)])), (hag, .inr (4, [.ref hai, .ref hac, .int (nI 0)])), (hai, .inl (cI, NA, .inl (fun i_ => nI (aif i_)))), (hac, .inl (cI, NA, .inl (fun i_ => nI (ath i_)))), (hf, .inr (1, ff)), (hle, .inl (cI, N, .inl (fun i_ => lvO (g i_))))] := hD
  have e_ret : (fqF r n o aif ath 0 (2 ^ n - 0) 0) = (fQ r n o aif ath 0) := by rfl
  have hP := hP.sub (ws' := [(h0, .inr (6, fs)), (hiq, .inr (2, [.ref hag, .int (b2 true), .int (fqF r n o aif ath 0 (2 ^ n - 0) 0)])), (hag, .inr (4, [.ref hai, .ref hac, .int (nI 0)])), (hai, .inl (cI, NA, .inl (fun i_ => nI (aif i_)))), (hac, .inl (cI, NA, .inl (fun i_ => nI (ath i_)))), (hf, .inr (1, ff)), (hle, .inl (cI, N, .inl (fun i_ => lvO (g i_))))]) [0, 1, 2, 3, 4, 5, 6] rfl
  have hD := hD.sub (ws' := [(h0, .inr (6, fs)), (hiq, .inr (2, [.ref hag, .int (b2 true), .int (fqF r n o aif ath 0 (2 ^ n - 0) 0)])), (hag, .inr (4, [.ref hai, .ref hac, .int (nI 0)])), (hai, .inl (cI, NA, .inl (fun i_ => nI (aif i_)))), (hac, .inl (cI, NA, .inl (fun i_ => nI (ath i_)))), (hf, .inr (1, ff)), (hle, .inl (cI, N, .inl (fun i_ => lvO (g i_))))]) [0, 1, 2, 3, 4, 5, 6] (by decide) rfl
  have hP : va_P D vwCl [(h0, .inr (6, fs)), (hiq, .inr (2, [.ref hag, .int (b2 true), .int (fQ r n o aif ath 0)])), (hag, .inr (4, [.ref hai, .ref hac, .int (nI 0)])), (hai, .inl (cI, NA, .inl (fun i_ => nI (aif i_)))), (hac, .inl (cI, NA, .inl (fun i_ => nI (ath i_)))), (hf, .inr (1, ff)), (hle, .inl (cI, N, .inl (fun i_ => lvO (g i_))))] H := by exact hP
  have hD : va_D A [(h0, .inr (6, fs)), (hiq, .inr (2, [.ref hag, .int (b2 true), .int (fQ r n o aif ath 0)])), (hag, .inr (4, [.ref hai, .ref hac, .int (nI 0)])), (hai, .inl (cI, NA, .inl (fun i_ => nI (aif i_)))), (hac, .inl (cI, NA, .inl (fun i_ => nI (ath i_)))), (hf, .inr (1, ff)), (hle, .inl (cI, N, .inl (fun i_ => lvO (g i_))))] := by exact hD
  exact W.iret (v := (fqF r n o aif ath 0 (2 ^ n - 0) 0)) hx hb hr (fun t ht hW => ⟨⟨congrArg (fun z_ => Outcome.returned (some (Value.int z_))) e_ret, by rw [ht]; exact hP, hD⟩, hS.F ht⟩) hS.2.2 dX7_ask_18

set_option maxHeartbeats 4000000 in
set_option maxRecDepth 100000 in
theorem c_X7_yes_bad (l : Launch) (D : va_G) (h0 : Nat) (fs : List Value) (hiq : Nat) (fi : List Value) (c2 : fs[2]? = some (.ref hiq)) (i2 : fi[2]? = some (.int (-1 : Int32))) : Met l yX7_yes wsX7_yes ({ frames := 1, cells := 0, slots := 0, locals := 20 }) (va_Pc [.ref h0] (fun U => va_P D vwCl [(h0, .inr (6, fs)), (hiq, .inr (2, fi))] U.heap ∧ va_K D vwCl [] U)) (QcRead (-2)) 0 0 (fun _ => False) := by
  refine Met.ofW (cc := cX7_yes) (maxL := 2) (ret := (some .int)) (by decide) rfl ?_
  intro p e s m args below meth c s₁ B hml hv
  obtain ⟨rfl, hP, hK⟩ := hv
  have hx := B.exec
  have hb := B.bytes
  have hr := B.returns
  have hts := atoms_spec (ws := wsX7_yes) B.pre
  have hown : s.vm.findClass RX7 = some m.cls := findClass_of_methodNamed B.named
  have hlocks := B.notSynchronized
  have hl := lv_entry ([.ref h0]) (n := 2) (Nat.le_of_ble_eq_true rfl)
  rw [lg_entry_eq]
  generalize (lg_sl ([.ref h0]) ++ List.replicate (2 - (lg_sl ([.ref h0])).length) Slot.unset).toArray = ls at hl ⊢
  have hl : lv_has ls 2 [(0, .ref h0)] := hl
  refine lv_aload_n hx hb dX7_yes_0 rfl (lv_at hl 0 rfl) ?_
  refine va_get (D := D) (ci := 6) (v := .ref hiq) (C := RX7) (T := TX7) (N := 5) hx hb hts (by decide +kernel) hown hK hP 0 rfl rfl 2 (by decide) (hts (.fieldLink RX7 26 "ConceptTable" "inquiry" "LConceptTable$Inquiry;") (by decide +kernel)) (fun _ h9 => h9) c2 dX7_yes_1 ?_
  refine rd_V (As := []) (rest := []) ⟨hx, hb, hml, hown, hts⟩ (c_X2_asked l D hiq fi (-1 : Int32) i2) (cwV 0 hts gX7_yes_X2_asked rfl rfl rfl (by decide +kernel) ⟨Nat.le_of_ble_eq_true rfl, Nat.le_of_ble_eq_true rfl⟩) (hP.sub (ws' := [(hiq, .inr (2, fi))]) [1] rfl) (hK.sub (tys' := []) [] rfl) (va_recv hK hP (ci := 2) (q0 := 1) rfl rfl) rfl rfl hl.1 rfl (lv_room (Nat.le_of_ble_eq_true rfl)) dX7_yes_4 ⟨Nat.le_of_ble_eq_true rfl, Nat.le_of_ble_eq_true rfl⟩ ?_
  refine lv_istore_n (lv' := [(1, .int (-1 : Int32)), (0, .ref h0)]) hx hb dX7_yes_7 rfl hl (by decide) rfl (fun ls hl => ?_)
  refine lv_iload_n hx hb dX7_yes_8 rfl (lv_at hl 0 rfl) ?_
  refine lv_iconst (v := -1) hx hb dX7_yes_9 (by decide) ?_
  refine lv_icmp_ne (tgt := 16) hx hb dX7_yes_10 (by decide) (fun c_10 => ?_) (fun c_10 => ?_)
  · exact absurd c_10 (by decide)
  · refine lv_bipush (v := -2) hx hb dX7_yes_13 (by decide) ?_
    have e_ret : (-2 : Int32) = (-2) := by rfl
    exact W.iret (v := (-2 : Int32)) hx hb hr (fun t ht hW => ⟨congrArg (fun z_ => Outcome.returned (some (Value.int z_))) e_ret, ht⟩) (fun q h => by cases h) dX7_yes_15

set_option maxHeartbeats 4000000 in
set_option maxRecDepth 100000 in
theorem c_X7_yes_ok (l : Launch) (D : va_G) (sz : Nat) (h0 : Nat) (fs : List Value) (hiq : Nat) (hag : Nat) (op : Bool) (t_ : Nat) (hai : Nat) (hac : Nat) (az : Nat) (NA : Nat) (aif : Nat → Nat) (ath : Nat → Nat) (hf : Nat) (ff : List Value) (hle : Nat) (N : Nat) (g : Nat → Option Nat) (cI : ClassId) (ht : Nat) (ft : List Value) (hro : Nat) (n : Nat) (o : Nat) (r : Nat → Nat) (p_ : Nat) (c0 : fs[0]? = some (.ref ht)) (c2 : fs[2]? = some (.ref hiq)) (c3 : fs[3]? = some (.ref hf)) (g1 : ff[1]? = some (.ref hle)) (g2 : ff[2]? = some (.int (nI n))) (t0 : ft[0]? = some (.ref hro)) (t1 : ft[1]? = some (.int (nI n))) (t2 : ft[2]? = some (.int (nI o))) (hn : n ≤ 12) (ho : o ≤ 20) (hN : 2 ^ n ≤ N) (hN2 : N ≤ 4096) (haz : az < NA) (hNA : NA ≤ 4096) (hai_ : ∀ j, aif j < 4096) (hac_ : ∀ j, ath j < 4096) (hgb : ∀ j v, g j = some v → v ≤ 4096) (hgc : ∀ q, q < 2 ^ n → (gB g q = true ↔ clo r n o q = q)) (hp_ : p_ < 2 ^ n) (ht9 : t_ = tur n p_ n) : Met l yX7_yes wsX7_yes ({ frames := 4, cells := 0, slots := 0, locals := 86 }) (va_Pc [.ref h0] (fun U => U.heap.size = sz ∧ va_P D vwCl [(h0, .inr (6, fs)), (hiq, .inr (2, [.ref hag, .int (b2 op), .int (nI t_)])), (hag, .inr (4, [.ref hai, .ref hac, .int (nI az)])), (hai, .inl (cI, NA, .inl (fun i_ => nI (aif i_)))), (hac, .inl (cI, NA, .inl (fun i_ => nI (ath i_)))), (hf, .inr (1, ff)), (hle, .inl (cI, N, .inl (fun i_ => lvO (g i_)))), (ht, .inr (5, ft)), (hro, .inl (cI, 20, .inl (fun i_ => nI (r i_))))] U.heap ∧ va_K D vwCl [(cI, .int)] U ∧ va_D (fun _ => True) [(h0, .inr (6, fs)), (hiq, .inr (2, [.ref hag, .int (b2 op), .int (nI t_)])), (hag, .inr (4, [.ref hai, .ref hac, .int (nI az)])), (hai, .inl (cI, NA, .inl (fun i_ => nI (aif i_)))), (hac, .inl (cI, NA, .inl (fun i_ => nI (ath i_)))), (hf, .inr (1, ff)), (hle, .inl (cI, N, .inl (fun i_ => lvO (g i_)))), (ht, .inr (5, ft)), (hro, .inl (cI, 20, .inl (fun i_ => nI (r i_))))])) (muQ (some (.int (fqF r n o (va_up aif az t_) (va_up ath az (clo r n o t_)) (az + 1) (2 ^ n - p_) p_))) D vwCl [(h0, .inr (6, fs)), (hiq, .inr (2, [.ref hag, .int (b2 op), .int (fqF r n o (va_up aif az t_) (va_up ath az (clo r n o t_)) (az + 1) (2 ^ n - p_) p_)])), (hag, .inr (4, [.ref hai, .ref hac, .int (nI (az + 1))])), (hai, .inl (cI, NA, .inl (fun i_ => nI ((va_up aif az t_) i_)))), (hac, .inl (cI, NA, .inl (fun i_ => nI ((va_up ath az (clo r n o t_)) i_)))), (hf, .inr (1, ff)), (hle, .inl (cI, N, .inl (fun i_ => lvO (g i_)))), (ht, .inr (5, ft)), (hro, .inl (cI, 20, .inl (fun i_ => nI (r i_))))] (va_A [(h0, .inr (6, fs)), (hiq, .inr (2, [.ref hag, .int (b2 op), .int (nI t_)])), (hag, .inr (4, [.ref hai, .ref hac, .int (nI az)])), (hai, .inl (cI, NA, .inl (fun i_ => nI (aif i_)))), (hac, .inl (cI, NA, .inl (fun i_ => nI (ath i_)))), (hf, .inr (1, ff)), (hle, .inl (cI, N, .inl (fun i_ => lvO (g i_)))), (ht, .inr (5, ft)), (hro, .inl (cI, 20, .inl (fun i_ => nI (r i_))))] sz)) 0 0 (va_A [(h0, .inr (6, fs)), (hiq, .inr (2, [.ref hag, .int (b2 op), .int (nI t_)])), (hag, .inr (4, [.ref hai, .ref hac, .int (nI az)])), (hai, .inl (cI, NA, .inl (fun i_ => nI (aif i_)))), (hac, .inl (cI, NA, .inl (fun i_ => nI (ath i_)))), (hf, .inr (1, ff)), (hle, .inl (cI, N, .inl (fun i_ => lvO (g i_)))), (ht, .inr (5, ft)), (hro, .inl (cI, 20, .inl (fun i_ => nI (r i_))))] sz) := by
  refine Met.ofW (cc := cX7_yes) (maxL := 2) (ret := (some .int)) (by decide) rfl ?_
  intro p e s m args below meth c s₁ B hml hv
  obtain ⟨rfl, hsz, hP, hK, hD0⟩ := hv
  have hx := B.exec
  have hb := B.bytes
  have hr := B.returns
  have hts := atoms_spec (ws := wsX7_yes) B.pre
  have hown : s.vm.findClass RX7 = some m.cls := findClass_of_methodNamed B.named
  have hlocks := B.notSynchronized
  subst hsz
  have hD := hD0.self (sz := s.heap.size)
  generalize hAe : va_A [(h0, .inr (6, fs)), (hiq, .inr (2, [.ref hag, .int (b2 op), .int (nI t_)])), (hag, .inr (4, [.ref hai, .ref hac, .int (nI az)])), (hai, .inl (cI, NA, .inl (fun i_ => nI (aif i_)))), (hac, .inl (cI, NA, .inl (fun i_ => nI (ath i_)))), (hf, .inr (1, ff)), (hle, .inl (cI, N, .inl (fun i_ => lvO (g i_)))), (ht, .inr (5, ft)), (hro, .inl (cI, 20, .inl (fun i_ => nI (r i_))))] s.heap.size = A at hD ⊢
  have hA : ∀ q : Nat, s.heap.size ≤ q → A q := fun q h => by rw [← hAe]; exact Or.inr h
  have hS : va_S A s.heap s.heap [] := va_S.rf
  have hl := lv_entry ([.ref h0]) (n := 2) (Nat.le_of_ble_eq_true rfl)
  rw [lg_entry_eq]
  generalize (lg_sl ([.ref h0]) ++ List.replicate (2 - (lg_sl ([.ref h0])).length) Slot.unset).toArray = ls at hl ⊢
  have hl : lv_has ls 2 [(0, .ref h0)] := hl
  have h2n := p2_le hn
  have ht_ : t_ < 2 ^ n := by rw [ht9]; exact tur_lt n p_ n
  have hcl_ := clo_lt r n o t_
  refine lv_aload_n hx hb dX7_yes_0 rfl (lv_at hl 0 rfl) ?_
  refine va_get (D := D) (ci := 6) (v := .ref hiq) (C := RX7) (T := TX7) (N := 5) hx hb hts (by decide +kernel) hown hK hP 0 rfl rfl 2 (by decide) (hts (.fieldLink RX7 26 "ConceptTable" "inquiry" "LConceptTable$Inquiry;") (by decide +kernel)) (fun _ h9 => h9) c2 dX7_yes_1 ?_
  refine rd_V (As := []) (rest := []) ⟨hx, hb, hml, hown, hts⟩ (c_X2_asked l D hiq ([.ref hag, .int (b2 op), .int (nI t_)]) (nI t_) rfl) (cwV 0 hts gX7_yes_X2_asked rfl rfl rfl (by decide +kernel) ⟨Nat.le_of_ble_eq_true rfl, Nat.le_of_ble_eq_true rfl⟩) (hP.sub (ws' := [(hiq, .inr (2, [.ref hag, .int (b2 op), .int (nI t_)]))]) [1] rfl) (hK.sub (tys' := []) [] rfl) (va_recv hK hP (ci := 2) (q0 := 1) rfl rfl) rfl rfl hl.1 rfl (lv_room (Nat.le_of_ble_eq_true rfl)) dX7_yes_4 ⟨Nat.le_of_ble_eq_true rfl, Nat.le_of_ble_eq_true rfl⟩ ?_
  refine lv_istore_n (lv' := [(1, .int (nI t_)), (0, .ref h0)]) hx hb dX7_yes_7 rfl hl (by decide) rfl (fun ls hl => ?_)
  refine lv_iload_n hx hb dX7_yes_8 rfl (lv_at hl 0 rfl) ?_
  refine lv_iconst (v := -1) hx hb dX7_yes_9 (by decide) ?_
  refine lv_icmp_ne (tgt := 16) hx hb dX7_yes_10 (by decide) (fun c_10 => ?_) (fun c_10 => ?_)
  · refine lv_aload_n hx hb dX7_yes_16 rfl (lv_at hl 1 rfl) ?_
    refine va_get (D := D) (ci := 6) (v := .ref hiq) (C := RX7) (T := TX7) (N := 5) hx hb hts (by decide +kernel) hown hK hP 0 rfl rfl 2 (by decide) (hts (.fieldLink RX7 26 "ConceptTable" "inquiry" "LConceptTable$Inquiry;") (by decide +kernel)) (fun _ h9 => h9) c2 dX7_yes_17 ?_
    refine lv_aload_n hx hb dX7_yes_20 rfl (lv_at hl 1 rfl) ?_
    refine va_get (D := D) (ci := 6) (v := .ref ht) (C := RX7) (T := TX7) (N := 5) hx hb hts (by decide +kernel) hown hK hP 0 rfl rfl 0 (by decide) (hts (.fieldLink RX7 12 "ConceptTable" "table" "LConceptTable$Table;") (by decide +kernel)) (fun _ h9 => h9) c0 dX7_yes_21 ?_
    refine lv_iload_n hx hb dX7_yes_24 rfl (lv_at hl 0 rfl) ?_
    refine rd_V (As := [.int (nI t_)]) (rest := [.ref hiq]) ⟨hx, hb, hml, hown, hts⟩ (c_X6_closureOf l D ht ft hro cI n o r t_ t0 t1 t2 hn ho (by omega)) (cwV 1 hts gX7_yes_X6_closureOf rfl rfl rfl (by decide +kernel) ⟨Nat.le_of_ble_eq_true rfl, Nat.le_of_ble_eq_true rfl⟩) (hP.sub (ws' := [(ht, .inr (5, ft)), (hro, .inl (cI, 20, .inl (fun i_ => nI (r i_))))]) [7, 8] rfl) (hK.sub (tys' := [(cI, .int)]) [0] rfl) (va_recv hK hP (ci := 5) (q0 := 7) rfl rfl) rfl rfl hl.1 rfl (lv_room (Nat.le_of_ble_eq_true rfl)) dX7_yes_25 ⟨Nat.le_of_ble_eq_true rfl, Nat.le_of_ble_eq_true rfl⟩ ?_
    have hPc := hP.sub (ws' := [(hiq, .inr (2, [.ref hag, .int (b2 op), .int (nI t_)])), (hag, .inr (4, [.ref hai, .ref hac, .int (nI az)])), (hai, .inl (cI, NA, .inl (fun i_ => nI (aif i_)))), (hac, .inl (cI, NA, .inl (fun i_ => nI (ath i_))))]) [1, 2, 3, 4] rfl
    have hDc := hD.sub (ws' := [(hiq, .inr (2, [.ref hag, .int (b2 op), .int (nI t_)])), (hag, .inr (4, [.ref hai, .ref hac, .int (nI az)])), (hai, .inl (cI, NA, .inl (fun i_ => nI (aif i_)))), (hac, .inl (cI, NA, .inl (fun i_ => nI (ath i_))))]) [1, 2, 3, 4] (by decide) rfl
    have hKc := hK.sub (tys' := [(cI, .int)]) [0] rfl
    have hFc := va_free (wc := [(hiq, .inr (2, [.ref hag, .int (b2 op), .int (nI t_)])), (hag, .inr (4, [.ref hai, .ref hac, .int (nI az)])), (hai, .inl (cI, NA, .inl (fun i_ => nI (aif i_)))), (hac, .inl (cI, NA, .inl (fun i_ => nI (ath i_))))]) hD hS hA [1, 2, 3, 4] rfl
    refine mu_call (va_runV (As := [.int (nI (clo r n o t_))]) (rest := []) ⟨hx, hb, hml, hown, hts⟩ (c_X2_agree l D s.heap.size hiq hag op t_ hai hac az cI NA aif ath (clo r n o t_) haz hNA) (cwV 1 hts gX7_yes_X2_agree rfl rfl rfl (by decide +kernel) ⟨Nat.le_of_ble_eq_true rfl, Nat.le_of_ble_eq_true rfl⟩) ⟨mu_bl, va_recv hKc hPc (ci := 2) (q0 := 0) rfl rfl, fun U hU hW => ⟨rfl, by rw [hU], by rw [hU]; exact hPc, va_K.moved hW.alike hKc, hDc.weaken (fun _ _ _ _ => trivial)⟩⟩ rfl rfl hl.1 rfl (lv_room (Nat.le_of_ble_eq_true rfl)) dX7_yes_28 ⟨Nat.le_of_ble_eq_true rfl, Nat.le_of_ble_eq_true rfl⟩) hS (fun q _ h => hFc q h) hFc (fun H1 locs hP1 hD1 hk1 hS => ?_)
    obtain ⟨hP, hD⟩ := va_join (wr := [(h0, .inr (6, fs)), (hf, .inr (1, ff)), (hle, .inl (cI, N, .inl (fun i_ => lvO (g i_)))), (ht, .inr (5, ft)), (hro, .inl (cI, 20, .inl (fun i_ => nI (r i_))))]) (w1 := [(hiq, .inr (2, [.ref hag, .int (b2 op), .int (nI t_)])), (hag, .inr (4, [.ref hai, .ref hac, .int (nI (az + 1))])), (hai, .inl (cI, NA, .inl (fun i_ => nI ((va_up aif az t_) i_)))), (hac, .inl (cI, NA, .inl (fun i_ => nI ((va_up ath az (clo r n o t_)) i_))))]) hP hD [1, 2, 3, 4] [0, 5, 6, 7, 8] rfl rfl (by decide) (by decide) hk1 hFc hP1 hD1
    generalize H1 = H at hP hS ⊢
    have hP : va_P D vwCl [(h0, .inr (6, fs)), (hf, .inr (1, ff)), (hle, .inl (cI, N, .inl (fun i_ => lvO (g i_)))), (ht, .inr (5, ft)), (hro, .inl (cI, 20, .inl (fun i_ => nI (r i_)))), (hiq, .inr (2, [.ref hag, .int (b2 op), .int (nI t_)])), (hag, .inr (4, [.ref hai, .ref hac, .int (nI (az + 1))])), (hai, .inl (cI, NA, .inl (fun i_ => nI ((va_up aif az t_) i_)))), (hac, .inl (cI, NA, .inl (fun i_ => nI ((va_up ath az (clo r n o t_)) i_))))] H := hP
    have hD : va_D A [(h0, .inr (6, fs)), (hf, .inr (1, ff)), (hle, .inl (cI, N, .inl (fun i_ => lvO (g i_)))), (ht, .inr (5, ft)), (hro, .inl (cI, 20, .inl (fun i_ => nI (r i_)))), (hiq, .inr (2, [.ref hag, .int (b2 op), .int (nI t_)])), (hag, .inr (4, [.ref hai, .ref hac, .int (nI (az + 1))])), (hai, .inl (cI, NA, .inl (fun i_ => nI ((va_up aif az t_) i_)))), (hac, .inl (cI, NA, .inl (fun i_ => nI ((va_up ath az (clo r n o t_)) i_))))] := hD
    refine lv_aload_n hx hb dX7_yes_31 rfl (lv_at hl 1 rfl) ?_
    refine va_get (D := D) (ci := 6) (v := .ref hiq) (C := RX7) (T := TX7) (N := 5) hx hb hts (by decide +kernel) hown hK hP 0 rfl rfl 2 (by decide) (hts (.fieldLink RX7 26 "ConceptTable" "inquiry" "LConceptTable$Inquiry;") (by decide +kernel)) (fun _ h9 => h9) c2 dX7_yes_32 ?_
    refine lv_aload_n hx hb dX7_yes_35 rfl (lv_at hl 1 rfl) ?_
    refine va_get (D := D) (ci := 6) (v := .ref hf) (C := RX7) (T := TX7) (N := 5) hx hb hts (by decide +kernel) hown hK hP 0 rfl rfl 3 (by decide) (hts (.fieldLink RX7 33 "ConceptTable" "family" "LConceptTable$Family;") (by decide +kernel)) (fun _ h9 => h9) c3 dX7_yes_36 ?_
    have hPc := hP.sub (ws' := [(hiq, .inr (2, [.ref hag, .int (b2 op), .int (nI t_)])), (hag, .inr (4, [.ref hai, .ref hac, .int (nI (az + 1))])), (hai, .inl (cI, NA, .inl (fun i_ => nI ((va_up aif az t_) i_)))), (hac, .inl (cI, NA, .inl (fun i_ => nI ((va_up ath az (clo r n o t_)) i_)))), (hf, .inr (1, ff)), (hle, .inl (cI, N, .inl (fun i_ => lvO (g i_))))]) [5, 6, 7, 8, 1, 2] rfl
    have hDc := hD.sub (ws' := [(hiq, .inr (2, [.ref hag, .int (b2 op), .int (nI t_)])), (hag, .inr (4, [.ref hai, .ref hac, .int (nI (az + 1))])), (hai, .inl (cI, NA, .inl (fun i_ => nI ((va_up aif az t_) i_)))), (hac, .inl (cI, NA, .inl (fun i_ => nI ((va_up ath az (clo r n o t_)) i_)))), (hf, .inr (1, ff)), (hle, .inl (cI, N, .inl (fun i_ => lvO (g i_))))]) [5, 6, 7, 8, 1, 2] (by decide) rfl
    have hKc := hK.sub (tys' := [(cI, .int)]) [0] rfl
    have hFc := va_free (wc := [(hiq, .inr (2, [.ref hag, .int (b2 op), .int (nI t_)])), (hag, .inr (4, [.ref hai, .ref hac, .int (nI (az + 1))])), (hai, .inl (cI, NA, .inl (fun i_ => nI ((va_up aif az t_) i_)))), (hac, .inl (cI, NA, .inl (fun i_ => nI ((va_up ath az (clo r n o t_)) i_)))), (hf, .inr (1, ff)), (hle, .inl (cI, N, .inl (fun i_ => lvO (g i_))))]) hD hS hA [5, 6, 7, 8, 1, 2] rfl
    refine mu_call (va_runV (As := [.ref hf]) (rest := []) ⟨hx, hb, hml, hown, hts⟩ (c_X2_seek l D H.size hiq hag op t_ p_ ([.ref hai, .ref hac, .int (nI (az + 1))]) hai hac (az + 1) cI NA (va_up aif az t_) (va_up ath az (clo r n o t_)) hf ff hle n N g o r rfl rfl rfl g1 g2 hn (by omega) hNA (fun j _ => by unfold va_up; split; omega; exact Nat.lt_trans (hai_ j) (by decide)) (fun j _ => by unfold va_up; split; omega; exact Nat.lt_trans (hac_ j) (by decide)) hN hN2 hgb hgc hp_ ht9) (cwV 1 hts gX7_yes_X2_seek rfl rfl rfl (by decide +kernel) ⟨Nat.le_of_ble_eq_true rfl, Nat.le_of_ble_eq_true rfl⟩) ⟨mu_bl, va_recv hKc hPc (ci := 2) (q0 := 0) rfl rfl, fun U hU hW => ⟨rfl, by rw [hU], by rw [hU]; exact hPc, va_K.moved hW.alike hKc, hDc.weaken (fun _ _ _ _ => trivial)⟩⟩ rfl rfl hl.1 rfl (lv_room (Nat.le_of_ble_eq_true rfl)) dX7_yes_39 ⟨Nat.le_of_ble_eq_true rfl, Nat.le_of_ble_eq_true rfl⟩) hS (fun q _ h => hFc q h) hFc (fun H1 locs hP1 hD1 hk1 hS => ?_)
    obtain ⟨hP, hD⟩ := va_join (wr := [(h0, .inr (6, fs)), (ht, .inr (5, ft)), (hro, .inl (cI, 20, .inl (fun i_ => nI (r i_))))]) (w1 := [(hiq, .inr (2, [.ref hag, .int (b2 op), .int (fqF r n o (va_up aif az t_) (va_up ath az (clo r n o t_)) (az + 1) (2 ^ n - p_) p_)])), (hag, .inr (4, [.ref hai, .ref hac, .int (nI (az + 1))])), (hai, .inl (cI, NA, .inl (fun i_ => nI ((va_up aif az t_) i_)))), (hac, .inl (cI, NA, .inl (fun i_ => nI ((va_up ath az (clo r n o t_)) i_)))), (hf, .inr (1, ff)), (hle, .inl (cI, N, .inl (fun i_ => lvO (g i_))))]) hP hD [5, 6, 7, 8, 1, 2] [0, 3, 4] rfl rfl (by decide) (by decide) hk1 hFc hP1 hD1
    generalize H1 = H at hP hS ⊢
    have hP : va_P D vwCl [(h0, .inr (6, fs)), (ht, .inr (5, ft)), (hro, .inl (cI, 20, .inl (fun i_ => nI (r i_)))), (hiq, .inr (2, [.ref hag, .int (b2 op), .int (fqF r n o (va_up aif az t_) (va_up ath az (clo r n o t_)) (az + 1) (2 ^ n - p_) p_)])), (hag, .inr (4, [.ref hai, .ref hac, .int (nI (az + 1))])), (hai, .inl (cI, NA, .inl (fun i_ => nI ((va_up aif az t_) i_)))), (hac, .inl (cI, NA, .inl (fun i_ => nI ((va_up ath az (clo r n o t_)) i_)))), (hf, .inr (1, ff)), (hle, .inl (cI, N, .inl (fun i_ => lvO (g i_))))] H := hP
    have hD : va_D A [(h0, .inr (6, fs)), (ht, .inr (5, ft)), (hro, .inl (cI, 20, .inl (fun i_ => nI (r i_)))), (hiq, .inr (2, [.ref hag, .int (b2 op), .int (fqF r n o (va_up aif az t_) (va_up ath az (clo r n o t_)) (az + 1) (2 ^ n - p_) p_)])), (hag, .inr (4, [.ref hai, .ref hac, .int (nI (az + 1))])), (hai, .inl (cI, NA, .inl (fun i_ => nI ((va_up aif az t_) i_)))), (hac, .inl (cI, NA, .inl (fun i_ => nI ((va_up ath az (clo r n o t_)) i_)))), (hf, .inr (1, ff)), (hle, .inl (cI, N, .inl (fun i_ => lvO (g i_))))] := hD
    have e_ret : (fqF r n o (va_up aif az t_) (va_up ath az (clo r n o t_)) (az + 1) (2 ^ n - p_) p_) = (fqF r n o (va_up aif az t_) (va_up ath az (clo r n o t_)) (az + 1) (2 ^ n - p_) p_) := by rfl
    have hP := hP.sub (ws' := [(h0, .inr (6, fs)), (hiq, .inr (2, [.ref hag, .int (b2 op), .int (fqF r n o (va_up aif az t_) (va_up ath az (clo r n o t_)) (az + 1) (2 ^ n - p_) p_)])), (hag, .inr (4, [.ref hai, .ref hac, .int (nI (az + 1))])), (hai, .inl (cI, NA, .inl (fun i_ => nI ((va_up aif az t_) i_)))), (hac, .inl (cI, NA, .inl (fun i_ => nI ((va_up ath az (clo r n o t_)) i_)))), (hf, .inr (1, ff)), (hle, .inl (cI, N, .inl (fun i_ => lvO (g i_)))), (ht, .inr (5, ft)), (hro, .inl (cI, 20, .inl (fun i_ => nI (r i_))))]) [0, 3, 4, 5, 6, 7, 8, 1, 2] rfl
    have hD := hD.sub (ws' := [(h0, .inr (6, fs)), (hiq, .inr (2, [.ref hag, .int (b2 op), .int (fqF r n o (va_up aif az t_) (va_up ath az (clo r n o t_)) (az + 1) (2 ^ n - p_) p_)])), (hag, .inr (4, [.ref hai, .ref hac, .int (nI (az + 1))])), (hai, .inl (cI, NA, .inl (fun i_ => nI ((va_up aif az t_) i_)))), (hac, .inl (cI, NA, .inl (fun i_ => nI ((va_up ath az (clo r n o t_)) i_)))), (hf, .inr (1, ff)), (hle, .inl (cI, N, .inl (fun i_ => lvO (g i_)))), (ht, .inr (5, ft)), (hro, .inl (cI, 20, .inl (fun i_ => nI (r i_))))]) [0, 3, 4, 5, 6, 7, 8, 1, 2] (by decide) rfl
    have hP : va_P D vwCl [(h0, .inr (6, fs)), (hiq, .inr (2, [.ref hag, .int (b2 op), .int (fqF r n o (va_up aif az t_) (va_up ath az (clo r n o t_)) (az + 1) (2 ^ n - p_) p_)])), (hag, .inr (4, [.ref hai, .ref hac, .int (nI (az + 1))])), (hai, .inl (cI, NA, .inl (fun i_ => nI ((va_up aif az t_) i_)))), (hac, .inl (cI, NA, .inl (fun i_ => nI ((va_up ath az (clo r n o t_)) i_)))), (hf, .inr (1, ff)), (hle, .inl (cI, N, .inl (fun i_ => lvO (g i_)))), (ht, .inr (5, ft)), (hro, .inl (cI, 20, .inl (fun i_ => nI (r i_))))] H := by exact hP
    have hD : va_D A [(h0, .inr (6, fs)), (hiq, .inr (2, [.ref hag, .int (b2 op), .int (fqF r n o (va_up aif az t_) (va_up ath az (clo r n o t_)) (az + 1) (2 ^ n - p_) p_)])), (hag, .inr (4, [.ref hai, .ref hac, .int (nI (az + 1))])), (hai, .inl (cI, NA, .inl (fun i_ => nI ((va_up aif az t_) i_)))), (hac, .inl (cI, NA, .inl (fun i_ => nI ((va_up ath az (clo r n o t_)) i_)))), (hf, .inr (1, ff)), (hle, .inl (cI, N, .inl (fun i_ => lvO (g i_)))), (ht, .inr (5, ft)), (hro, .inl (cI, 20, .inl (fun i_ => nI (r i_))))] := by exact hD
    exact W.iret (v := (fqF r n o (va_up aif az t_) (va_up ath az (clo r n o t_)) (az + 1) (2 ^ n - p_) p_)) hx hb hr (fun t ht hW => ⟨⟨congrArg (fun z_ => Outcome.returned (some (Value.int z_))) e_ret, by rw [ht]; exact hP, hD⟩, hS.F ht⟩) hS.2.2 dX7_yes_42
  · exact absurd c_10 (nI_ne1 (by omega))

set_option maxHeartbeats 4000000 in
set_option maxRecDepth 100000 in
theorem c_X7_no_bad1 (l : Launch) (D : va_G) (h0 : Nat) (fs : List Value) (hiq : Nat) (fi : List Value) (x : Int32) (c2 : fs[2]? = some (.ref hiq)) (i2 : fi[2]? = some (.int (-1 : Int32))) : Met l yX7_no wsX7_no ({ frames := 1, cells := 0, slots := 0, locals := 20 }) (va_Pc [.ref h0, .int x] (fun U => va_P D vwCl [(h0, .inr (6, fs)), (hiq, .inr (2, fi))] U.heap ∧ va_K D vwCl [] U)) (QcRead (-2)) 0 0 (fun _ => False) := by
  refine Met.ofW (cc := cX7_no) (maxL := 4) (ret := (some .int)) (by decide) rfl ?_
  intro p e s m args below meth c s₁ B hml hv
  obtain ⟨rfl, hP, hK⟩ := hv
  have hx := B.exec
  have hb := B.bytes
  have hr := B.returns
  have hts := atoms_spec (ws := wsX7_no) B.pre
  have hown : s.vm.findClass RX7 = some m.cls := findClass_of_methodNamed B.named
  have hlocks := B.notSynchronized
  have hl := lv_entry ([.ref h0, .int x]) (n := 4) (Nat.le_of_ble_eq_true rfl)
  rw [lg_entry_eq]
  generalize (lg_sl ([.ref h0, .int x]) ++ List.replicate (4 - (lg_sl ([.ref h0, .int x])).length) Slot.unset).toArray = ls at hl ⊢
  have hl : lv_has ls 4 [(0, .ref h0), (1, .int x)] := hl
  refine lv_aload_n hx hb dX7_no_0 rfl (lv_at hl 0 rfl) ?_
  refine va_get (D := D) (ci := 6) (v := .ref hiq) (C := RX7) (T := TX7) (N := 5) hx hb hts (by decide +kernel) hown hK hP 0 rfl rfl 2 (by decide) (hts (.fieldLink RX7 26 "ConceptTable" "inquiry" "LConceptTable$Inquiry;") (by decide +kernel)) (fun _ h9 => h9) c2 dX7_no_1 ?_
  refine rd_V (As := []) (rest := []) ⟨hx, hb, hml, hown, hts⟩ (c_X2_asked l D hiq fi (-1 : Int32) i2) (cwV 0 hts gX7_no_X2_asked rfl rfl rfl (by decide +kernel) ⟨Nat.le_of_ble_eq_true rfl, Nat.le_of_ble_eq_true rfl⟩) (hP.sub (ws' := [(hiq, .inr (2, fi))]) [1] rfl) (hK.sub (tys' := []) [] rfl) (va_recv hK hP (ci := 2) (q0 := 1) rfl rfl) rfl rfl hl.1 rfl (lv_room (Nat.le_of_ble_eq_true rfl)) dX7_no_4 ⟨Nat.le_of_ble_eq_true rfl, Nat.le_of_ble_eq_true rfl⟩ ?_
  refine lv_istore_n (lv' := [(2, .int (-1 : Int32)), (0, .ref h0), (1, .int x)]) hx hb dX7_no_7 rfl hl (by decide) rfl (fun ls hl => ?_)
  refine lv_iload_n hx hb dX7_no_8 rfl (lv_at hl 0 rfl) ?_
  refine lv_iconst (v := -1) hx hb dX7_no_9 (by decide) ?_
  refine lv_icmp_eq (tgt := 24) hx hb dX7_no_10 (by decide) (fun c_10 => ?_) (fun c_10 => ?_)
  · refine lv_bipush (v := -2) hx hb dX7_no_24 (by decide) ?_
    have e_ret : (-2 : Int32) = (-2) := by rfl
    exact W.iret (v := (-2 : Int32)) hx hb hr (fun t ht hW => ⟨congrArg (fun z_ => Outcome.returned (some (Value.int z_))) e_ret, ht⟩) (fun q h => by cases h) dX7_no_26
  · exact absurd c_10 (by decide)

set_option maxHeartbeats 4000000 in
set_option maxRecDepth 100000 in
theorem c_X7_no_bad2 (l : Launch) (D : va_G) (h0 : Nat) (fs : List Value) (hiq : Nat) (fi : List Value) (t_ : Nat) (ht : Nat) (ft : List Value) (n : Nat) (x : Int32) (c0 : fs[0]? = some (.ref ht)) (c2 : fs[2]? = some (.ref hiq)) (i2 : fi[2]? = some (.int (nI t_))) (t1 : ft[1]? = some (.int (nI n))) (hn : n ≤ 12) (htt : t_ < 4096) (hb_ : sb x (nI (2 ^ n - 1)) = false) : Met l yX7_no wsX7_no ({ frames := 3, cells := 0, slots := 0, locals := 61 }) (va_Pc [.ref h0, .int x] (fun U => va_P D vwCl [(h0, .inr (6, fs)), (hiq, .inr (2, fi)), (ht, .inr (5, ft))] U.heap ∧ va_K D vwCl [] U)) (QcRead (-2)) 0 0 (fun _ => False) := by
  refine Met.ofW (cc := cX7_no) (maxL := 4) (ret := (some .int)) (by decide) rfl ?_
  intro p e s m args below meth c s₁ B hml hv
  obtain ⟨rfl, hP, hK⟩ := hv
  have hx := B.exec
  have hb := B.bytes
  have hr := B.returns
  have hts := atoms_spec (ws := wsX7_no) B.pre
  have hown : s.vm.findClass RX7 = some m.cls := findClass_of_methodNamed B.named
  have hlocks := B.notSynchronized
  have hl := lv_entry ([.ref h0, .int x]) (n := 4) (Nat.le_of_ble_eq_true rfl)
  rw [lg_entry_eq]
  generalize (lg_sl ([.ref h0, .int x]) ++ List.replicate (4 - (lg_sl ([.ref h0, .int x])).length) Slot.unset).toArray = ls at hl ⊢
  have hl : lv_has ls 4 [(0, .ref h0), (1, .int x)] := hl
  refine lv_aload_n hx hb dX7_no_0 rfl (lv_at hl 0 rfl) ?_
  refine va_get (D := D) (ci := 6) (v := .ref hiq) (C := RX7) (T := TX7) (N := 5) hx hb hts (by decide +kernel) hown hK hP 0 rfl rfl 2 (by decide) (hts (.fieldLink RX7 26 "ConceptTable" "inquiry" "LConceptTable$Inquiry;") (by decide +kernel)) (fun _ h9 => h9) c2 dX7_no_1 ?_
  refine rd_V (As := []) (rest := []) ⟨hx, hb, hml, hown, hts⟩ (c_X2_asked l D hiq fi (nI t_) i2) (cwV 0 hts gX7_no_X2_asked rfl rfl rfl (by decide +kernel) ⟨Nat.le_of_ble_eq_true rfl, Nat.le_of_ble_eq_true rfl⟩) (hP.sub (ws' := [(hiq, .inr (2, fi))]) [1] rfl) (hK.sub (tys' := []) [] rfl) (va_recv hK hP (ci := 2) (q0 := 1) rfl rfl) rfl rfl hl.1 rfl (lv_room (Nat.le_of_ble_eq_true rfl)) dX7_no_4 ⟨Nat.le_of_ble_eq_true rfl, Nat.le_of_ble_eq_true rfl⟩ ?_
  refine lv_istore_n (lv' := [(2, .int (nI t_)), (0, .ref h0), (1, .int x)]) hx hb dX7_no_7 rfl hl (by decide) rfl (fun ls hl => ?_)
  refine lv_iload_n hx hb dX7_no_8 rfl (lv_at hl 0 rfl) ?_
  refine lv_iconst (v := -1) hx hb dX7_no_9 (by decide) ?_
  refine lv_icmp_eq (tgt := 24) hx hb dX7_no_10 (by decide) (fun c_10 => ?_) (fun c_10 => ?_)
  · refine lv_bipush (v := -2) hx hb dX7_no_24 (by decide) ?_
    have e_ret : (-2 : Int32) = (-2) := by rfl
    exact W.iret (v := (-2 : Int32)) hx hb hr (fun t ht hW => ⟨congrArg (fun z_ => Outcome.returned (some (Value.int z_))) e_ret, ht⟩) (fun q h => by cases h) dX7_no_26
  · refine lv_aload_n hx hb dX7_no_13 rfl (lv_at hl 1 rfl) ?_
    refine va_get (D := D) (ci := 6) (v := .ref ht) (C := RX7) (T := TX7) (N := 5) hx hb hts (by decide +kernel) hown hK hP 0 rfl rfl 0 (by decide) (hts (.fieldLink RX7 12 "ConceptTable" "table" "LConceptTable$Table;") (by decide +kernel)) (fun _ h9 => h9) c0 dX7_no_14 ?_
    refine lv_iload_n hx hb dX7_no_17 rfl (lv_at hl 2 rfl) ?_
    refine rd_V (As := [.int x]) (rest := []) ⟨hx, hb, hml, hown, hts⟩ (c_X6_isAttributeSet l D ht ft n x t1 (by assumption)) (cwV 1 hts gX7_no_X6_isAttributeSet rfl rfl rfl (by decide +kernel) ⟨Nat.le_of_ble_eq_true rfl, Nat.le_of_ble_eq_true rfl⟩) (hP.sub (ws' := [(ht, .inr (5, ft))]) [2] rfl) (hK.sub (tys' := []) [] rfl) (va_recv hK hP (ci := 5) (q0 := 2) rfl rfl) rfl rfl hl.1 rfl (lv_room (Nat.le_of_ble_eq_true rfl)) dX7_no_18 ⟨Nat.le_of_ble_eq_true rfl, Nat.le_of_ble_eq_true rfl⟩ ?_
    refine lv_if_ne (tgt := 27) hx hb dX7_no_21 (by decide) (fun c_21 => ?_) (fun c_21 => ?_)
    · have c_21 := b2_n0.mp c_21
      exact Bool.noConfusion (hb_.symm.trans c_21)
    · have c_21 := b2_0.mp c_21
      refine lv_bipush (v := -2) hx hb dX7_no_24 (by decide) ?_
      have e_ret : (-2 : Int32) = (-2) := by rfl
      exact W.iret (v := (-2 : Int32)) hx hb hr (fun t ht hW => ⟨congrArg (fun z_ => Outcome.returned (some (Value.int z_))) e_ret, ht⟩) (fun q h => by cases h) dX7_no_26

set_option maxHeartbeats 4000000 in
set_option maxRecDepth 100000 in
theorem c_X7_no_against (l : Launch) (D : va_G) (h0 : Nat) (fs : List Value) (hiq : Nat) (fi : List Value) (t_ : Nat) (hag : Nat) (fr : List Value) (hai : Nat) (hac : Nat) (az : Nat) (NA : Nat) (aif : Nat → Nat) (ath : Nat → Nat) (cI : ClassId) (ht : Nat) (ft : List Value) (hro : Nat) (n : Nat) (o : Nat) (r : Nat → Nat) (w : Nat) (c0 : fs[0]? = some (.ref ht)) (c2 : fs[2]? = some (.ref hiq)) (i0 : fi[0]? = some (.ref hag)) (i2 : fi[2]? = some (.int (nI t_))) (r0 : fr[0]? = some (.ref hai)) (r1 : fr[1]? = some (.ref hac)) (r2 : fr[2]? = some (.int (nI az))) (t0 : ft[0]? = some (.ref hro)) (t1 : ft[1]? = some (.int (nI n))) (t2 : ft[2]? = some (.int (nI o))) (hn : n ≤ 12) (ho : o ≤ 20) (haz : az ≤ NA) (hNA : NA ≤ 4096) (hai_ : ∀ j, aif j < 4096) (hac_ : ∀ j, ath j < 4096) (htt : t_ < 4096) (hw : w < 4096) (hb_ : sb (nI w) (nI (2 ^ n - 1)) = true) (hg : (sN t_ w && !(sN (clo r n o t_) w) && kpB aif ath az w) = false) : Met l yX7_no wsX7_no ({ frames := 3, cells := 0, slots := 0, locals := 65 }) (va_Pc [.ref h0, .int (nI w)] (fun U => va_P D vwCl [(h0, .inr (6, fs)), (hiq, .inr (2, fi)), (hag, .inr (4, fr)), (hai, .inl (cI, NA, .inl (fun i_ => nI (aif i_)))), (hac, .inl (cI, NA, .inl (fun i_ => nI (ath i_)))), (ht, .inr (5, ft)), (hro, .inl (cI, 20, .inl (fun i_ => nI (r i_))))] U.heap ∧ va_K D vwCl [(cI, .int)] U)) (QcRead (-4)) 0 0 (fun _ => False) := by
  refine Met.ofW (cc := cX7_no) (maxL := 4) (ret := (some .int)) (by decide) rfl ?_
  intro p e s m args below meth c s₁ B hml hv
  obtain ⟨rfl, hP, hK⟩ := hv
  have hx := B.exec
  have hb := B.bytes
  have hr := B.returns
  have hts := atoms_spec (ws := wsX7_no) B.pre
  have hown : s.vm.findClass RX7 = some m.cls := findClass_of_methodNamed B.named
  have hlocks := B.notSynchronized
  have hl := lv_entry ([.ref h0, .int (nI w)]) (n := 4) (Nat.le_of_ble_eq_true rfl)
  rw [lg_entry_eq]
  generalize (lg_sl ([.ref h0, .int (nI w)]) ++ List.replicate (4 - (lg_sl ([.ref h0, .int (nI w)])).length) Slot.unset).toArray = ls at hl ⊢
  have hl : lv_has ls 4 [(0, .ref h0), (1, .int (nI w))] := hl
  have h2n := p2_le hn
  have hcl_ := clo_lt r n o t_
  refine lv_aload_n hx hb dX7_no_0 rfl (lv_at hl 0 rfl) ?_
  refine va_get (D := D) (ci := 6) (v := .ref hiq) (C := RX7) (T := TX7) (N := 5) hx hb hts (by decide +kernel) hown hK hP 0 rfl rfl 2 (by decide) (hts (.fieldLink RX7 26 "ConceptTable" "inquiry" "LConceptTable$Inquiry;") (by decide +kernel)) (fun _ h9 => h9) c2 dX7_no_1 ?_
  refine rd_V (As := []) (rest := []) ⟨hx, hb, hml, hown, hts⟩ (c_X2_asked l D hiq fi (nI t_) i2) (cwV 0 hts gX7_no_X2_asked rfl rfl rfl (by decide +kernel) ⟨Nat.le_of_ble_eq_true rfl, Nat.le_of_ble_eq_true rfl⟩) (hP.sub (ws' := [(hiq, .inr (2, fi))]) [1] rfl) (hK.sub (tys' := []) [] rfl) (va_recv hK hP (ci := 2) (q0 := 1) rfl rfl) rfl rfl hl.1 rfl (lv_room (Nat.le_of_ble_eq_true rfl)) dX7_no_4 ⟨Nat.le_of_ble_eq_true rfl, Nat.le_of_ble_eq_true rfl⟩ ?_
  refine lv_istore_n (lv' := [(2, .int (nI t_)), (0, .ref h0), (1, .int (nI w))]) hx hb dX7_no_7 rfl hl (by decide) rfl (fun ls hl => ?_)
  refine lv_iload_n hx hb dX7_no_8 rfl (lv_at hl 0 rfl) ?_
  refine lv_iconst (v := -1) hx hb dX7_no_9 (by decide) ?_
  refine lv_icmp_eq (tgt := 24) hx hb dX7_no_10 (by decide) (fun c_10 => ?_) (fun c_10 => ?_)
  · exact absurd c_10 (nI_ne1 (by omega))
  · refine lv_aload_n hx hb dX7_no_13 rfl (lv_at hl 1 rfl) ?_
    refine va_get (D := D) (ci := 6) (v := .ref ht) (C := RX7) (T := TX7) (N := 5) hx hb hts (by decide +kernel) hown hK hP 0 rfl rfl 0 (by decide) (hts (.fieldLink RX7 12 "ConceptTable" "table" "LConceptTable$Table;") (by decide +kernel)) (fun _ h9 => h9) c0 dX7_no_14 ?_
    refine lv_iload_n hx hb dX7_no_17 rfl (lv_at hl 2 rfl) ?_
    refine rd_V (As := [.int (nI w)]) (rest := []) ⟨hx, hb, hml, hown, hts⟩ (c_X6_isAttributeSet l D ht ft n (nI w) t1 (by assumption)) (cwV 1 hts gX7_no_X6_isAttributeSet rfl rfl rfl (by decide +kernel) ⟨Nat.le_of_ble_eq_true rfl, Nat.le_of_ble_eq_true rfl⟩) (hP.sub (ws' := [(ht, .inr (5, ft))]) [5] rfl) (hK.sub (tys' := []) [] rfl) (va_recv hK hP (ci := 5) (q0 := 5) rfl rfl) rfl rfl hl.1 rfl (lv_room (Nat.le_of_ble_eq_true rfl)) dX7_no_18 ⟨Nat.le_of_ble_eq_true rfl, Nat.le_of_ble_eq_true rfl⟩ ?_
    refine lv_if_ne (tgt := 27) hx hb dX7_no_21 (by decide) (fun c_21 => ?_) (fun c_21 => ?_)
    · have c_21 := b2_n0.mp c_21
      refine lv_aload_n hx hb dX7_no_27 rfl (lv_at hl 1 rfl) ?_
      refine va_get (D := D) (ci := 6) (v := .ref hiq) (C := RX7) (T := TX7) (N := 5) hx hb hts (by decide +kernel) hown hK hP 0 rfl rfl 2 (by decide) (hts (.fieldLink RX7 26 "ConceptTable" "inquiry" "LConceptTable$Inquiry;") (by decide +kernel)) (fun _ h9 => h9) c2 dX7_no_28 ?_
      refine lv_iload_n hx hb dX7_no_31 rfl (lv_at hl 2 rfl) ?_
      refine lv_aload_n hx hb dX7_no_32 rfl (lv_at hl 1 rfl) ?_
      refine va_get (D := D) (ci := 6) (v := .ref ht) (C := RX7) (T := TX7) (N := 5) hx hb hts (by decide +kernel) hown hK hP 0 rfl rfl 0 (by decide) (hts (.fieldLink RX7 12 "ConceptTable" "table" "LConceptTable$Table;") (by decide +kernel)) (fun _ h9 => h9) c0 dX7_no_33 ?_
      refine lv_iload_n hx hb dX7_no_36 rfl (lv_at hl 0 rfl) ?_
      refine rd_V (As := [.int (nI t_)]) (rest := [.int (nI w), .ref hiq]) ⟨hx, hb, hml, hown, hts⟩ (c_X6_closureOf l D ht ft hro cI n o r t_ t0 t1 t2 hn (by omega) (by omega)) (cwV 1 hts gX7_no_X6_closureOf rfl rfl rfl (by decide +kernel) ⟨Nat.le_of_ble_eq_true rfl, Nat.le_of_ble_eq_true rfl⟩) (hP.sub (ws' := [(ht, .inr (5, ft)), (hro, .inl (cI, 20, .inl (fun i_ => nI (r i_))))]) [5, 6] rfl) (hK.sub (tys' := [(cI, .int)]) [0] rfl) (va_recv hK hP (ci := 5) (q0 := 5) rfl rfl) rfl rfl hl.1 rfl (lv_room (Nat.le_of_ble_eq_true rfl)) dX7_no_37 ⟨Nat.le_of_ble_eq_true rfl, Nat.le_of_ble_eq_true rfl⟩ ?_
      refine rd_V (As := [.int (nI w), .int (nI (clo r n o t_))]) (rest := []) ⟨hx, hb, hml, hown, hts⟩ (c_X2_isCounterexample l D hiq fi hag t_ fr hai hac az cI NA aif ath w (clo r n o t_) i0 i2 r0 r1 r2 haz hNA (fun j _ => Nat.lt_trans (hai_ j) (by decide)) (fun j _ => Nat.lt_trans (hac_ j) (by decide)) (by omega) (by omega)) (cwV 2 hts gX7_no_X2_isCounterexample rfl rfl rfl (by decide +kernel) ⟨Nat.le_of_ble_eq_true rfl, Nat.le_of_ble_eq_true rfl⟩) (hP.sub (ws' := [(hiq, .inr (2, fi)), (hag, .inr (4, fr)), (hai, .inl (cI, NA, .inl (fun i_ => nI (aif i_)))), (hac, .inl (cI, NA, .inl (fun i_ => nI (ath i_))))]) [1, 2, 3, 4] rfl) (hK.sub (tys' := [(cI, .int)]) [0] rfl) (va_recv hK hP (ci := 2) (q0 := 1) rfl rfl) rfl rfl hl.1 rfl (lv_room (Nat.le_of_ble_eq_true rfl)) dX7_no_40 ⟨Nat.le_of_ble_eq_true rfl, Nat.le_of_ble_eq_true rfl⟩ ?_
      refine lv_if_ne (tgt := 49) hx hb dX7_no_43 (by decide) (fun c_43 => ?_) (fun c_43 => ?_)
      · have c_43 := b2_n0.mp c_43
        exact Bool.noConfusion (hg.symm.trans c_43)
      · have c_43 := b2_0.mp c_43
        refine lv_bipush (v := -4) hx hb dX7_no_46 (by decide) ?_
        have e_ret : (-4 : Int32) = (-4) := by rfl
        exact W.iret (v := (-4 : Int32)) hx hb hr (fun t ht hW => ⟨congrArg (fun z_ => Outcome.returned (some (Value.int z_))) e_ret, ht⟩) (fun q h => by cases h) dX7_no_48
    · have c_21 := b2_0.mp c_21
      exact Bool.noConfusion (hb_.symm.trans c_21)

set_option maxHeartbeats 4000000 in
set_option maxRecDepth 100000 in
theorem c_X7_no_full (l : Launch) (D : va_G) (h0 : Nat) (fs : List Value) (hiq : Nat) (fi : List Value) (t_ : Nat) (hag : Nat) (fr : List Value) (hai : Nat) (hac : Nat) (az : Nat) (NA : Nat) (aif : Nat → Nat) (ath : Nat → Nat) (cI : ClassId) (ht : Nat) (ft : List Value) (hro : Nat) (n : Nat) (o : Nat) (r : Nat → Nat) (w : Nat) (c0 : fs[0]? = some (.ref ht)) (c2 : fs[2]? = some (.ref hiq)) (i0 : fi[0]? = some (.ref hag)) (i2 : fi[2]? = some (.int (nI t_))) (r0 : fr[0]? = some (.ref hai)) (r1 : fr[1]? = some (.ref hac)) (r2 : fr[2]? = some (.int (nI az))) (t0 : ft[0]? = some (.ref hro)) (t1 : ft[1]? = some (.int (nI n))) (t2 : ft[2]? = some (.int (nI o))) (hn : n ≤ 12) (ho : o = 20) (haz : az ≤ NA) (hNA : NA ≤ 4096) (hai_ : ∀ j, aif j < 4096) (hac_ : ∀ j, ath j < 4096) (htt : t_ < 4096) (hw : w < 4096) (hb_ : sb (nI w) (nI (2 ^ n - 1)) = true) (hg : (sN t_ w && !(sN (clo r n o t_) w) && kpB aif ath az w) = true) : Met l yX7_no wsX7_no ({ frames := 3, cells := 0, slots := 0, locals := 65 }) (va_Pc [.ref h0, .int (nI w)] (fun U => va_P D vwCl [(h0, .inr (6, fs)), (hiq, .inr (2, fi)), (hag, .inr (4, fr)), (hai, .inl (cI, NA, .inl (fun i_ => nI (aif i_)))), (hac, .inl (cI, NA, .inl (fun i_ => nI (ath i_)))), (ht, .inr (5, ft)), (hro, .inl (cI, 20, .inl (fun i_ => nI (r i_))))] U.heap ∧ va_K D vwCl [(cI, .int)] U)) (QcRead (-3)) 0 0 (fun _ => False) := by
  refine Met.ofW (cc := cX7_no) (maxL := 4) (ret := (some .int)) (by decide) rfl ?_
  intro p e s m args below meth c s₁ B hml hv
  obtain ⟨rfl, hP, hK⟩ := hv
  have hx := B.exec
  have hb := B.bytes
  have hr := B.returns
  have hts := atoms_spec (ws := wsX7_no) B.pre
  have hown : s.vm.findClass RX7 = some m.cls := findClass_of_methodNamed B.named
  have hlocks := B.notSynchronized
  have hl := lv_entry ([.ref h0, .int (nI w)]) (n := 4) (Nat.le_of_ble_eq_true rfl)
  rw [lg_entry_eq]
  generalize (lg_sl ([.ref h0, .int (nI w)]) ++ List.replicate (4 - (lg_sl ([.ref h0, .int (nI w)])).length) Slot.unset).toArray = ls at hl ⊢
  have hl : lv_has ls 4 [(0, .ref h0), (1, .int (nI w))] := hl
  have h2n := p2_le hn
  have hcl_ := clo_lt r n o t_
  refine lv_aload_n hx hb dX7_no_0 rfl (lv_at hl 0 rfl) ?_
  refine va_get (D := D) (ci := 6) (v := .ref hiq) (C := RX7) (T := TX7) (N := 5) hx hb hts (by decide +kernel) hown hK hP 0 rfl rfl 2 (by decide) (hts (.fieldLink RX7 26 "ConceptTable" "inquiry" "LConceptTable$Inquiry;") (by decide +kernel)) (fun _ h9 => h9) c2 dX7_no_1 ?_
  refine rd_V (As := []) (rest := []) ⟨hx, hb, hml, hown, hts⟩ (c_X2_asked l D hiq fi (nI t_) i2) (cwV 0 hts gX7_no_X2_asked rfl rfl rfl (by decide +kernel) ⟨Nat.le_of_ble_eq_true rfl, Nat.le_of_ble_eq_true rfl⟩) (hP.sub (ws' := [(hiq, .inr (2, fi))]) [1] rfl) (hK.sub (tys' := []) [] rfl) (va_recv hK hP (ci := 2) (q0 := 1) rfl rfl) rfl rfl hl.1 rfl (lv_room (Nat.le_of_ble_eq_true rfl)) dX7_no_4 ⟨Nat.le_of_ble_eq_true rfl, Nat.le_of_ble_eq_true rfl⟩ ?_
  refine lv_istore_n (lv' := [(2, .int (nI t_)), (0, .ref h0), (1, .int (nI w))]) hx hb dX7_no_7 rfl hl (by decide) rfl (fun ls hl => ?_)
  refine lv_iload_n hx hb dX7_no_8 rfl (lv_at hl 0 rfl) ?_
  refine lv_iconst (v := -1) hx hb dX7_no_9 (by decide) ?_
  refine lv_icmp_eq (tgt := 24) hx hb dX7_no_10 (by decide) (fun c_10 => ?_) (fun c_10 => ?_)
  · exact absurd c_10 (nI_ne1 (by omega))
  · refine lv_aload_n hx hb dX7_no_13 rfl (lv_at hl 1 rfl) ?_
    refine va_get (D := D) (ci := 6) (v := .ref ht) (C := RX7) (T := TX7) (N := 5) hx hb hts (by decide +kernel) hown hK hP 0 rfl rfl 0 (by decide) (hts (.fieldLink RX7 12 "ConceptTable" "table" "LConceptTable$Table;") (by decide +kernel)) (fun _ h9 => h9) c0 dX7_no_14 ?_
    refine lv_iload_n hx hb dX7_no_17 rfl (lv_at hl 2 rfl) ?_
    refine rd_V (As := [.int (nI w)]) (rest := []) ⟨hx, hb, hml, hown, hts⟩ (c_X6_isAttributeSet l D ht ft n (nI w) t1 (by assumption)) (cwV 1 hts gX7_no_X6_isAttributeSet rfl rfl rfl (by decide +kernel) ⟨Nat.le_of_ble_eq_true rfl, Nat.le_of_ble_eq_true rfl⟩) (hP.sub (ws' := [(ht, .inr (5, ft))]) [5] rfl) (hK.sub (tys' := []) [] rfl) (va_recv hK hP (ci := 5) (q0 := 5) rfl rfl) rfl rfl hl.1 rfl (lv_room (Nat.le_of_ble_eq_true rfl)) dX7_no_18 ⟨Nat.le_of_ble_eq_true rfl, Nat.le_of_ble_eq_true rfl⟩ ?_
    refine lv_if_ne (tgt := 27) hx hb dX7_no_21 (by decide) (fun c_21 => ?_) (fun c_21 => ?_)
    · have c_21 := b2_n0.mp c_21
      refine lv_aload_n hx hb dX7_no_27 rfl (lv_at hl 1 rfl) ?_
      refine va_get (D := D) (ci := 6) (v := .ref hiq) (C := RX7) (T := TX7) (N := 5) hx hb hts (by decide +kernel) hown hK hP 0 rfl rfl 2 (by decide) (hts (.fieldLink RX7 26 "ConceptTable" "inquiry" "LConceptTable$Inquiry;") (by decide +kernel)) (fun _ h9 => h9) c2 dX7_no_28 ?_
      refine lv_iload_n hx hb dX7_no_31 rfl (lv_at hl 2 rfl) ?_
      refine lv_aload_n hx hb dX7_no_32 rfl (lv_at hl 1 rfl) ?_
      refine va_get (D := D) (ci := 6) (v := .ref ht) (C := RX7) (T := TX7) (N := 5) hx hb hts (by decide +kernel) hown hK hP 0 rfl rfl 0 (by decide) (hts (.fieldLink RX7 12 "ConceptTable" "table" "LConceptTable$Table;") (by decide +kernel)) (fun _ h9 => h9) c0 dX7_no_33 ?_
      refine lv_iload_n hx hb dX7_no_36 rfl (lv_at hl 0 rfl) ?_
      refine rd_V (As := [.int (nI t_)]) (rest := [.int (nI w), .ref hiq]) ⟨hx, hb, hml, hown, hts⟩ (c_X6_closureOf l D ht ft hro cI n o r t_ t0 t1 t2 hn (by omega) (by omega)) (cwV 1 hts gX7_no_X6_closureOf rfl rfl rfl (by decide +kernel) ⟨Nat.le_of_ble_eq_true rfl, Nat.le_of_ble_eq_true rfl⟩) (hP.sub (ws' := [(ht, .inr (5, ft)), (hro, .inl (cI, 20, .inl (fun i_ => nI (r i_))))]) [5, 6] rfl) (hK.sub (tys' := [(cI, .int)]) [0] rfl) (va_recv hK hP (ci := 5) (q0 := 5) rfl rfl) rfl rfl hl.1 rfl (lv_room (Nat.le_of_ble_eq_true rfl)) dX7_no_37 ⟨Nat.le_of_ble_eq_true rfl, Nat.le_of_ble_eq_true rfl⟩ ?_
      refine rd_V (As := [.int (nI w), .int (nI (clo r n o t_))]) (rest := []) ⟨hx, hb, hml, hown, hts⟩ (c_X2_isCounterexample l D hiq fi hag t_ fr hai hac az cI NA aif ath w (clo r n o t_) i0 i2 r0 r1 r2 haz hNA (fun j _ => Nat.lt_trans (hai_ j) (by decide)) (fun j _ => Nat.lt_trans (hac_ j) (by decide)) (by omega) (by omega)) (cwV 2 hts gX7_no_X2_isCounterexample rfl rfl rfl (by decide +kernel) ⟨Nat.le_of_ble_eq_true rfl, Nat.le_of_ble_eq_true rfl⟩) (hP.sub (ws' := [(hiq, .inr (2, fi)), (hag, .inr (4, fr)), (hai, .inl (cI, NA, .inl (fun i_ => nI (aif i_)))), (hac, .inl (cI, NA, .inl (fun i_ => nI (ath i_))))]) [1, 2, 3, 4] rfl) (hK.sub (tys' := [(cI, .int)]) [0] rfl) (va_recv hK hP (ci := 2) (q0 := 1) rfl rfl) rfl rfl hl.1 rfl (lv_room (Nat.le_of_ble_eq_true rfl)) dX7_no_40 ⟨Nat.le_of_ble_eq_true rfl, Nat.le_of_ble_eq_true rfl⟩ ?_
      refine lv_if_ne (tgt := 49) hx hb dX7_no_43 (by decide) (fun c_43 => ?_) (fun c_43 => ?_)
      · have c_43 := b2_n0.mp c_43
        refine lv_aload_n hx hb dX7_no_49 rfl (lv_at hl 1 rfl) ?_
        refine va_get (D := D) (ci := 6) (v := .ref ht) (C := RX7) (T := TX7) (N := 5) hx hb hts (by decide +kernel) hown hK hP 0 rfl rfl 0 (by decide) (hts (.fieldLink RX7 12 "ConceptTable" "table" "LConceptTable$Table;") (by decide +kernel)) (fun _ h9 => h9) c0 dX7_no_50 ?_
        refine rd_V (As := []) (rest := []) ⟨hx, hb, hml, hown, hts⟩ (c_X6_isFull l D ht ft hro cI o r t0 t2 (by omega)) (cwV 0 hts gX7_no_X6_isFull rfl rfl rfl (by decide +kernel) ⟨Nat.le_of_ble_eq_true rfl, Nat.le_of_ble_eq_true rfl⟩) (hP.sub (ws' := [(ht, .inr (5, ft)), (hro, .inl (cI, 20, .inl (fun i_ => nI (r i_))))]) [5, 6] rfl) (hK.sub (tys' := [(cI, .int)]) [0] rfl) (va_recv hK hP (ci := 5) (q0 := 5) rfl rfl) rfl rfl hl.1 rfl (lv_room (Nat.le_of_ble_eq_true rfl)) dX7_no_53 ⟨Nat.le_of_ble_eq_true rfl, Nat.le_of_ble_eq_true rfl⟩ ?_
        refine lv_if_eq (tgt := 62) hx hb dX7_no_56 (by decide) (fun c_56 => ?_) (fun c_56 => ?_)
        · have c_56 := b2_0.mp c_56
          exact absurd c_56 (by rw [decide_eq_true (by omega)]; decide)
        · have c_56 := b2_n0.mp c_56
          refine lv_bipush (v := -3) hx hb dX7_no_59 (by decide) ?_
          have e_ret : (-3 : Int32) = (-3) := by rfl
          exact W.iret (v := (-3 : Int32)) hx hb hr (fun t ht hW => ⟨congrArg (fun z_ => Outcome.returned (some (Value.int z_))) e_ret, ht⟩) (fun q h => by cases h) dX7_no_61
      · have c_43 := b2_0.mp c_43
        exact Bool.noConfusion (hg.symm.trans c_43)
    · have c_21 := b2_0.mp c_21
      exact Bool.noConfusion (hb_.symm.trans c_21)

set_option maxHeartbeats 4000000 in
set_option maxRecDepth 100000 in
theorem c_X7_no_ok (l : Launch) (D : va_G) (sz : Nat) (h0 : Nat) (fs : List Value) (ht : Nat) (hro : Nat) (n : Nat) (o : Nat) (cI : ClassId) (r : Nat → Nat) (hf : Nat) (hme : Nat) (hle : Nat) (z : Nat) (ar : Bool) (N : Nat) (mem : Nat → Nat) (g : Nat → Option Nat) (hbs : Nat) (hru : Nat) (hjo : Nat) (bt : Bool) (hiq : Nat) (hag : Nat) (op : Bool) (t_ : Nat) (fr : List Value) (hai : Nat) (hac : Nat) (az : Nat) (NA : Nat) (aif : Nat → Nat) (ath : Nat → Nat) (w : Nat) (p_ : Nat) (c0 : fs[0]? = some (.ref ht)) (c2 : fs[2]? = some (.ref hiq)) (c3 : fs[3]? = some (.ref hf)) (c4 : fs[4]? = some (.ref hbs)) (r0 : fr[0]? = some (.ref hai)) (r1 : fr[1]? = some (.ref hac)) (r2 : fr[2]? = some (.int (nI az))) (hn : n ≤ 12) (ho : o < 20) (haz : az ≤ NA) (hNA : NA ≤ 4096) (hai_ : ∀ j, aif j < 4096) (hac_ : ∀ j, ath j < 4096) (htt : t_ < 4096) (hw : w < 4096) (hb_ : sb (nI w) (nI (2 ^ n - 1)) = true) (hg : (sN t_ w && !(sN (clo r n o t_) w) && kpB aif ath az w) = true) (hN : 2 ^ n ≤ N) (hN2 : N ≤ 4096) (hfam : FamOK n g mem z) (hcm : ∀ x, x < 2 ^ n → (gB g x = true ↔ clo r n o x = x)) (hp_ : p_ < 2 ^ n) (ht9 : t_ = tur n p_ n) : Met l yX7_no wsX7_no ({ frames := 6, cells := 0, slots := 0, locals := 129 }) (va_Pc [.ref h0, .int (nI w)] (fun U => U.heap.size = sz ∧ va_P D vwCl [(h0, .inr (6, fs)), (ht, .inr (5, [.ref hro, .int (nI n), .int (nI o)])), (hro, .inl (cI, 20, .inl (fun i_ => nI (r i_)))), (hf, .inr (1, [.ref hme, .ref hle, .int (nI n), .int (nI z), .int (b2 ar)])), (hme, .inl (cI, N, .inl (fun i_ => nI (mem i_)))), (hle, .inl (cI, N, .inl (fun i_ => lvO (g i_)))), (hbs, .inr (0, [.ref hru, .ref hjo, .int (b2 bt)])), (hiq, .inr (2, [.ref hag, .int (b2 op), .int (nI t_)])), (hag, .inr (4, fr)), (hai, .inl (cI, NA, .inl (fun i_ => nI (aif i_)))), (hac, .inl (cI, NA, .inl (fun i_ => nI (ath i_))))] U.heap ∧ va_K D vwCl [(cI, .int)] U ∧ va_D (fun _ => True) [(h0, .inr (6, fs)), (ht, .inr (5, [.ref hro, .int (nI n), .int (nI o)])), (hro, .inl (cI, 20, .inl (fun i_ => nI (r i_)))), (hf, .inr (1, [.ref hme, .ref hle, .int (nI n), .int (nI z), .int (b2 ar)])), (hme, .inl (cI, N, .inl (fun i_ => nI (mem i_)))), (hle, .inl (cI, N, .inl (fun i_ => lvO (g i_)))), (hbs, .inr (0, [.ref hru, .ref hjo, .int (b2 bt)])), (hiq, .inr (2, [.ref hag, .int (b2 op), .int (nI t_)])), (hag, .inr (4, fr)), (hai, .inl (cI, NA, .inl (fun i_ => nI (aif i_)))), (hac, .inl (cI, NA, .inl (fun i_ => nI (ath i_))))])) (mxQ (fun u_ : Nat × Bool × (Nat → Nat) × (Nat → Option Nat) => match u_ with | (z', ar', mem', g') => (some (.int (nI o)))) (fun u_ : Nat × Bool × (Nat → Nat) × (Nat → Option Nat) => match u_ with | (z', ar', mem', g') => (FamOK n g' mem' z') ∧ (∀ x, x < 2 ^ n → (gB g' x = true ↔ gB g x = true ∨ ∃ p, p < 2 ^ n ∧ gB g p = true ∧ (p &&& w) = x)) ∧ (ar' = true → ar = true ∧ g' = g ∧ mem' = mem ∧ z' = z)) (fun u_ : Nat × Bool × (Nat → Nat) × (Nat → Option Nat) => match u_ with | (z', ar', mem', g') => [(h0, .inr (6, fs)), (ht, .inr (5, [.ref hro, .int (nI n), .int (nI (o + 1))])), (hro, .inl (cI, 20, .inl (fun i_ => nI ((va_up r o w) i_)))), (hf, .inr (1, [.ref hme, .ref hle, .int (nI n), .int (nI z'), .int (b2 ar')])), (hme, .inl (cI, N, .inl (fun i_ => nI (mem' i_)))), (hle, .inl (cI, N, .inl (fun i_ => lvO (g' i_)))), (hbs, .inr (0, [.ref hru, .ref hjo, .int (b2 false)])), (hiq, .inr (2, [.ref hag, .int (b2 op), .int (fqF (va_up r o w) n (o + 1) aif ath az (2 ^ n - p_) p_)])), (hag, .inr (4, fr)), (hai, .inl (cI, NA, .inl (fun i_ => nI (aif i_)))), (hac, .inl (cI, NA, .inl (fun i_ => nI (ath i_))))]) D vwCl (va_A [(h0, .inr (6, fs)), (ht, .inr (5, [.ref hro, .int (nI n), .int (nI o)])), (hro, .inl (cI, 20, .inl (fun i_ => nI (r i_)))), (hf, .inr (1, [.ref hme, .ref hle, .int (nI n), .int (nI z), .int (b2 ar)])), (hme, .inl (cI, N, .inl (fun i_ => nI (mem i_)))), (hle, .inl (cI, N, .inl (fun i_ => lvO (g i_)))), (hbs, .inr (0, [.ref hru, .ref hjo, .int (b2 bt)])), (hiq, .inr (2, [.ref hag, .int (b2 op), .int (nI t_)])), (hag, .inr (4, fr)), (hai, .inl (cI, NA, .inl (fun i_ => nI (aif i_)))), (hac, .inl (cI, NA, .inl (fun i_ => nI (ath i_))))] sz)) 0 0 (va_A [(h0, .inr (6, fs)), (ht, .inr (5, [.ref hro, .int (nI n), .int (nI o)])), (hro, .inl (cI, 20, .inl (fun i_ => nI (r i_)))), (hf, .inr (1, [.ref hme, .ref hle, .int (nI n), .int (nI z), .int (b2 ar)])), (hme, .inl (cI, N, .inl (fun i_ => nI (mem i_)))), (hle, .inl (cI, N, .inl (fun i_ => lvO (g i_)))), (hbs, .inr (0, [.ref hru, .ref hjo, .int (b2 bt)])), (hiq, .inr (2, [.ref hag, .int (b2 op), .int (nI t_)])), (hag, .inr (4, fr)), (hai, .inl (cI, NA, .inl (fun i_ => nI (aif i_)))), (hac, .inl (cI, NA, .inl (fun i_ => nI (ath i_))))] sz) := by
  refine Met.ofW (cc := cX7_no) (maxL := 4) (ret := (some .int)) (by decide) rfl ?_
  intro p e s m args below meth c s₁ B hml hv
  obtain ⟨rfl, hsz, hP, hK, hD0⟩ := hv
  have hx := B.exec
  have hb := B.bytes
  have hr := B.returns
  have hts := atoms_spec (ws := wsX7_no) B.pre
  have hown : s.vm.findClass RX7 = some m.cls := findClass_of_methodNamed B.named
  have hlocks := B.notSynchronized
  subst hsz
  have hD := hD0.self (sz := s.heap.size)
  generalize hAe : va_A [(h0, .inr (6, fs)), (ht, .inr (5, [.ref hro, .int (nI n), .int (nI o)])), (hro, .inl (cI, 20, .inl (fun i_ => nI (r i_)))), (hf, .inr (1, [.ref hme, .ref hle, .int (nI n), .int (nI z), .int (b2 ar)])), (hme, .inl (cI, N, .inl (fun i_ => nI (mem i_)))), (hle, .inl (cI, N, .inl (fun i_ => lvO (g i_)))), (hbs, .inr (0, [.ref hru, .ref hjo, .int (b2 bt)])), (hiq, .inr (2, [.ref hag, .int (b2 op), .int (nI t_)])), (hag, .inr (4, fr)), (hai, .inl (cI, NA, .inl (fun i_ => nI (aif i_)))), (hac, .inl (cI, NA, .inl (fun i_ => nI (ath i_))))] s.heap.size = A at hD ⊢
  have hA : ∀ q : Nat, s.heap.size ≤ q → A q := fun q h => by rw [← hAe]; exact Or.inr h
  have hS : va_S A s.heap s.heap [] := va_S.rf
  have hl := lv_entry ([.ref h0, .int (nI w)]) (n := 4) (Nat.le_of_ble_eq_true rfl)
  rw [lg_entry_eq]
  generalize (lg_sl ([.ref h0, .int (nI w)]) ++ List.replicate (4 - (lg_sl ([.ref h0, .int (nI w)])).length) Slot.unset).toArray = ls at hl ⊢
  have hl : lv_has ls 4 [(0, .ref h0), (1, .int (nI w))] := hl
  have h2n := p2_le hn
  have hcl_ := clo_lt r n o t_
  refine lv_aload_n hx hb dX7_no_0 rfl (lv_at hl 0 rfl) ?_
  refine va_get (D := D) (ci := 6) (v := .ref hiq) (C := RX7) (T := TX7) (N := 5) hx hb hts (by decide +kernel) hown hK hP 0 rfl rfl 2 (by decide) (hts (.fieldLink RX7 26 "ConceptTable" "inquiry" "LConceptTable$Inquiry;") (by decide +kernel)) (fun _ h9 => h9) c2 dX7_no_1 ?_
  refine rd_V (As := []) (rest := []) ⟨hx, hb, hml, hown, hts⟩ (c_X2_asked l D hiq ([.ref hag, .int (b2 op), .int (nI t_)]) (nI t_) rfl) (cwV 0 hts gX7_no_X2_asked rfl rfl rfl (by decide +kernel) ⟨Nat.le_of_ble_eq_true rfl, Nat.le_of_ble_eq_true rfl⟩) (hP.sub (ws' := [(hiq, .inr (2, [.ref hag, .int (b2 op), .int (nI t_)]))]) [7] rfl) (hK.sub (tys' := []) [] rfl) (va_recv hK hP (ci := 2) (q0 := 7) rfl rfl) rfl rfl hl.1 rfl (lv_room (Nat.le_of_ble_eq_true rfl)) dX7_no_4 ⟨Nat.le_of_ble_eq_true rfl, Nat.le_of_ble_eq_true rfl⟩ ?_
  refine lv_istore_n (lv' := [(2, .int (nI t_)), (0, .ref h0), (1, .int (nI w))]) hx hb dX7_no_7 rfl hl (by decide) rfl (fun ls hl => ?_)
  refine lv_iload_n hx hb dX7_no_8 rfl (lv_at hl 0 rfl) ?_
  refine lv_iconst (v := -1) hx hb dX7_no_9 (by decide) ?_
  refine lv_icmp_eq (tgt := 24) hx hb dX7_no_10 (by decide) (fun c_10 => ?_) (fun c_10 => ?_)
  · exact absurd c_10 (nI_ne1 (by omega))
  · refine lv_aload_n hx hb dX7_no_13 rfl (lv_at hl 1 rfl) ?_
    refine va_get (D := D) (ci := 6) (v := .ref ht) (C := RX7) (T := TX7) (N := 5) hx hb hts (by decide +kernel) hown hK hP 0 rfl rfl 0 (by decide) (hts (.fieldLink RX7 12 "ConceptTable" "table" "LConceptTable$Table;") (by decide +kernel)) (fun _ h9 => h9) c0 dX7_no_14 ?_
    refine lv_iload_n hx hb dX7_no_17 rfl (lv_at hl 2 rfl) ?_
    refine rd_V (As := [.int (nI w)]) (rest := []) ⟨hx, hb, hml, hown, hts⟩ (c_X6_isAttributeSet l D ht ([.ref hro, .int (nI n), .int (nI o)]) n (nI w) rfl (by assumption)) (cwV 1 hts gX7_no_X6_isAttributeSet rfl rfl rfl (by decide +kernel) ⟨Nat.le_of_ble_eq_true rfl, Nat.le_of_ble_eq_true rfl⟩) (hP.sub (ws' := [(ht, .inr (5, [.ref hro, .int (nI n), .int (nI o)]))]) [1] rfl) (hK.sub (tys' := []) [] rfl) (va_recv hK hP (ci := 5) (q0 := 1) rfl rfl) rfl rfl hl.1 rfl (lv_room (Nat.le_of_ble_eq_true rfl)) dX7_no_18 ⟨Nat.le_of_ble_eq_true rfl, Nat.le_of_ble_eq_true rfl⟩ ?_
    refine lv_if_ne (tgt := 27) hx hb dX7_no_21 (by decide) (fun c_21 => ?_) (fun c_21 => ?_)
    · have c_21 := b2_n0.mp c_21
      refine lv_aload_n hx hb dX7_no_27 rfl (lv_at hl 1 rfl) ?_
      refine va_get (D := D) (ci := 6) (v := .ref hiq) (C := RX7) (T := TX7) (N := 5) hx hb hts (by decide +kernel) hown hK hP 0 rfl rfl 2 (by decide) (hts (.fieldLink RX7 26 "ConceptTable" "inquiry" "LConceptTable$Inquiry;") (by decide +kernel)) (fun _ h9 => h9) c2 dX7_no_28 ?_
      refine lv_iload_n hx hb dX7_no_31 rfl (lv_at hl 2 rfl) ?_
      refine lv_aload_n hx hb dX7_no_32 rfl (lv_at hl 1 rfl) ?_
      refine va_get (D := D) (ci := 6) (v := .ref ht) (C := RX7) (T := TX7) (N := 5) hx hb hts (by decide +kernel) hown hK hP 0 rfl rfl 0 (by decide) (hts (.fieldLink RX7 12 "ConceptTable" "table" "LConceptTable$Table;") (by decide +kernel)) (fun _ h9 => h9) c0 dX7_no_33 ?_
      refine lv_iload_n hx hb dX7_no_36 rfl (lv_at hl 0 rfl) ?_
      refine rd_V (As := [.int (nI t_)]) (rest := [.int (nI w), .ref hiq]) ⟨hx, hb, hml, hown, hts⟩ (c_X6_closureOf l D ht ([.ref hro, .int (nI n), .int (nI o)]) hro cI n o r t_ rfl rfl rfl hn (by omega) (by omega)) (cwV 1 hts gX7_no_X6_closureOf rfl rfl rfl (by decide +kernel) ⟨Nat.le_of_ble_eq_true rfl, Nat.le_of_ble_eq_true rfl⟩) (hP.sub (ws' := [(ht, .inr (5, [.ref hro, .int (nI n), .int (nI o)])), (hro, .inl (cI, 20, .inl (fun i_ => nI (r i_))))]) [1, 2] rfl) (hK.sub (tys' := [(cI, .int)]) [0] rfl) (va_recv hK hP (ci := 5) (q0 := 1) rfl rfl) rfl rfl hl.1 rfl (lv_room (Nat.le_of_ble_eq_true rfl)) dX7_no_37 ⟨Nat.le_of_ble_eq_true rfl, Nat.le_of_ble_eq_true rfl⟩ ?_
      refine rd_V (As := [.int (nI w), .int (nI (clo r n o t_))]) (rest := []) ⟨hx, hb, hml, hown, hts⟩ (c_X2_isCounterexample l D hiq ([.ref hag, .int (b2 op), .int (nI t_)]) hag t_ fr hai hac az cI NA aif ath w (clo r n o t_) rfl rfl r0 r1 r2 haz hNA (fun j _ => Nat.lt_trans (hai_ j) (by decide)) (fun j _ => Nat.lt_trans (hac_ j) (by decide)) (by omega) (by omega)) (cwV 2 hts gX7_no_X2_isCounterexample rfl rfl rfl (by decide +kernel) ⟨Nat.le_of_ble_eq_true rfl, Nat.le_of_ble_eq_true rfl⟩) (hP.sub (ws' := [(hiq, .inr (2, [.ref hag, .int (b2 op), .int (nI t_)])), (hag, .inr (4, fr)), (hai, .inl (cI, NA, .inl (fun i_ => nI (aif i_)))), (hac, .inl (cI, NA, .inl (fun i_ => nI (ath i_))))]) [7, 8, 9, 10] rfl) (hK.sub (tys' := [(cI, .int)]) [0] rfl) (va_recv hK hP (ci := 2) (q0 := 7) rfl rfl) rfl rfl hl.1 rfl (lv_room (Nat.le_of_ble_eq_true rfl)) dX7_no_40 ⟨Nat.le_of_ble_eq_true rfl, Nat.le_of_ble_eq_true rfl⟩ ?_
      refine lv_if_ne (tgt := 49) hx hb dX7_no_43 (by decide) (fun c_43 => ?_) (fun c_43 => ?_)
      · have c_43 := b2_n0.mp c_43
        refine lv_aload_n hx hb dX7_no_49 rfl (lv_at hl 1 rfl) ?_
        refine va_get (D := D) (ci := 6) (v := .ref ht) (C := RX7) (T := TX7) (N := 5) hx hb hts (by decide +kernel) hown hK hP 0 rfl rfl 0 (by decide) (hts (.fieldLink RX7 12 "ConceptTable" "table" "LConceptTable$Table;") (by decide +kernel)) (fun _ h9 => h9) c0 dX7_no_50 ?_
        refine rd_V (As := []) (rest := []) ⟨hx, hb, hml, hown, hts⟩ (c_X6_isFull l D ht ([.ref hro, .int (nI n), .int (nI o)]) hro cI o r rfl rfl (by omega)) (cwV 0 hts gX7_no_X6_isFull rfl rfl rfl (by decide +kernel) ⟨Nat.le_of_ble_eq_true rfl, Nat.le_of_ble_eq_true rfl⟩) (hP.sub (ws' := [(ht, .inr (5, [.ref hro, .int (nI n), .int (nI o)])), (hro, .inl (cI, 20, .inl (fun i_ => nI (r i_))))]) [1, 2] rfl) (hK.sub (tys' := [(cI, .int)]) [0] rfl) (va_recv hK hP (ci := 5) (q0 := 1) rfl rfl) rfl rfl hl.1 rfl (lv_room (Nat.le_of_ble_eq_true rfl)) dX7_no_53 ⟨Nat.le_of_ble_eq_true rfl, Nat.le_of_ble_eq_true rfl⟩ ?_
        refine lv_if_eq (tgt := 62) hx hb dX7_no_56 (by decide) (fun c_56 => ?_) (fun c_56 => ?_)
        · have c_56 := b2_0.mp c_56
          refine lv_aload_n hx hb dX7_no_62 rfl (lv_at hl 1 rfl) ?_
          refine lv_iload_n hx hb dX7_no_63 rfl (lv_at hl 2 rfl) ?_
          have hPc := hP.sub (ws' := [(h0, .inr (6, fs)), (ht, .inr (5, [.ref hro, .int (nI n), .int (nI o)])), (hro, .inl (cI, 20, .inl (fun i_ => nI (r i_)))), (hf, .inr (1, [.ref hme, .ref hle, .int (nI n), .int (nI z), .int (b2 ar)])), (hme, .inl (cI, N, .inl (fun i_ => nI (mem i_)))), (hle, .inl (cI, N, .inl (fun i_ => lvO (g i_)))), (hbs, .inr (0, [.ref hru, .ref hjo, .int (b2 bt)]))]) [0, 1, 2, 3, 4, 5, 6] rfl
          have hDc := hD.sub (ws' := [(h0, .inr (6, fs)), (ht, .inr (5, [.ref hro, .int (nI n), .int (nI o)])), (hro, .inl (cI, 20, .inl (fun i_ => nI (r i_)))), (hf, .inr (1, [.ref hme, .ref hle, .int (nI n), .int (nI z), .int (b2 ar)])), (hme, .inl (cI, N, .inl (fun i_ => nI (mem i_)))), (hle, .inl (cI, N, .inl (fun i_ => lvO (g i_)))), (hbs, .inr (0, [.ref hru, .ref hjo, .int (b2 bt)]))]) [0, 1, 2, 3, 4, 5, 6] (by decide) rfl
          have hKc := hK.sub (tys' := [(cI, .int)]) [0] rfl
          have hFc := va_free (wc := [(h0, .inr (6, fs)), (ht, .inr (5, [.ref hro, .int (nI n), .int (nI o)])), (hro, .inl (cI, 20, .inl (fun i_ => nI (r i_)))), (hf, .inr (1, [.ref hme, .ref hle, .int (nI n), .int (nI z), .int (b2 ar)])), (hme, .inl (cI, N, .inl (fun i_ => nI (mem i_)))), (hle, .inl (cI, N, .inl (fun i_ => lvO (g i_)))), (hbs, .inr (0, [.ref hru, .ref hjo, .int (b2 bt)]))]) hD hS hA [0, 1, 2, 3, 4, 5, 6] rfl
          refine mx_call (va_runV (As := [.int (nI w)]) (rest := []) ⟨hx, hb, hml, hown, hts⟩ (c_X7_addRow l D s.heap.size h0 fs ht hro n o cI r hf hme hle z ar N mem g hbs hru hjo bt w c0 c3 c4 hn ho hN hN2 hfam) (cwV 1 hts gX7_no_X7_addRow rfl rfl rfl (by decide +kernel) ⟨Nat.le_of_ble_eq_true rfl, Nat.le_of_ble_eq_true rfl⟩) ⟨mu_bl, va_recv hKc hPc (ci := 6) (q0 := 0) rfl rfl, fun U hU hW => ⟨rfl, by rw [hU], by rw [hU]; exact hPc, va_K.moved hW.alike hKc, hDc.weaken (fun _ _ _ _ => trivial)⟩⟩ rfl rfl hl.1 rfl (lv_room (Nat.le_of_ble_eq_true rfl)) dX7_no_64 ⟨Nat.le_of_ble_eq_true rfl, Nat.le_of_ble_eq_true rfl⟩) hS (fun q _ h => hFc q h) hFc (fun u_ H1 locs hq_ hP1 hD1 hk1 hS => ?_)
          obtain ⟨z', ar', mem', g'⟩ := u_
          have hP1 : va_P D vwCl [(h0, .inr (6, fs)), (ht, .inr (5, [.ref hro, .int (nI n), .int (nI (o + 1))])), (hro, .inl (cI, 20, .inl (fun i_ => nI ((va_up r o w) i_)))), (hf, .inr (1, [.ref hme, .ref hle, .int (nI n), .int (nI z'), .int (b2 ar')])), (hme, .inl (cI, N, .inl (fun i_ => nI (mem' i_)))), (hle, .inl (cI, N, .inl (fun i_ => lvO (g' i_)))), (hbs, .inr (0, [.ref hru, .ref hjo, .int (b2 false)]))] H1 := hP1
          have hD1 : va_D (va_A [(h0, .inr (6, fs)), (ht, .inr (5, [.ref hro, .int (nI n), .int (nI o)])), (hro, .inl (cI, 20, .inl (fun i_ => nI (r i_)))), (hf, .inr (1, [.ref hme, .ref hle, .int (nI n), .int (nI z), .int (b2 ar)])), (hme, .inl (cI, N, .inl (fun i_ => nI (mem i_)))), (hle, .inl (cI, N, .inl (fun i_ => lvO (g i_)))), (hbs, .inr (0, [.ref hru, .ref hjo, .int (b2 bt)]))] s.heap.size) [(h0, .inr (6, fs)), (ht, .inr (5, [.ref hro, .int (nI n), .int (nI (o + 1))])), (hro, .inl (cI, 20, .inl (fun i_ => nI ((va_up r o w) i_)))), (hf, .inr (1, [.ref hme, .ref hle, .int (nI n), .int (nI z'), .int (b2 ar')])), (hme, .inl (cI, N, .inl (fun i_ => nI (mem' i_)))), (hle, .inl (cI, N, .inl (fun i_ => lvO (g' i_)))), (hbs, .inr (0, [.ref hru, .ref hjo, .int (b2 false)]))] := hD1
          obtain ⟨hF, hB, hAr⟩ := hq_
          have hF : FamOK n g' mem' z' := hF
          have hB : ∀ x, x < 2 ^ n → (gB g' x = true ↔ gB g x = true ∨ ∃ p, p < 2 ^ n ∧ gB g p = true ∧ (p &&& w) = x) := hB
          have hAr : ar' = true → ar = true ∧ g' = g ∧ mem' = mem ∧ z' = z := hAr
          obtain ⟨hP, hD⟩ := va_join (wr := [(hiq, .inr (2, [.ref hag, .int (b2 op), .int (nI t_)])), (hag, .inr (4, fr)), (hai, .inl (cI, NA, .inl (fun i_ => nI (aif i_)))), (hac, .inl (cI, NA, .inl (fun i_ => nI (ath i_))))]) (w1 := [(h0, .inr (6, fs)), (ht, .inr (5, [.ref hro, .int (nI n), .int (nI (o + 1))])), (hro, .inl (cI, 20, .inl (fun i_ => nI ((va_up r o w) i_)))), (hf, .inr (1, [.ref hme, .ref hle, .int (nI n), .int (nI z'), .int (b2 ar')])), (hme, .inl (cI, N, .inl (fun i_ => nI (mem' i_)))), (hle, .inl (cI, N, .inl (fun i_ => lvO (g' i_)))), (hbs, .inr (0, [.ref hru, .ref hjo, .int (b2 false)]))]) hP hD [0, 1, 2, 3, 4, 5, 6] [7, 8, 9, 10] rfl rfl (by decide) (by decide) hk1 hFc hP1 hD1
          generalize H1 = H at hP hS ⊢
          have hP : va_P D vwCl [(hiq, .inr (2, [.ref hag, .int (b2 op), .int (nI t_)])), (hag, .inr (4, fr)), (hai, .inl (cI, NA, .inl (fun i_ => nI (aif i_)))), (hac, .inl (cI, NA, .inl (fun i_ => nI (ath i_)))), (h0, .inr (6, fs)), (ht, .inr (5, [.ref hro, .int (nI n), .int (nI (o + 1))])), (hro, .inl (cI, 20, .inl (fun i_ => nI ((va_up r o w) i_)))), (hf, .inr (1, [.ref hme, .ref hle, .int (nI n), .int (nI z'), .int (b2 ar')])), (hme, .inl (cI, N, .inl (fun i_ => nI (mem' i_)))), (hle, .inl (cI, N, .inl (fun i_ => lvO (g' i_)))), (hbs, .inr (0, [.ref hru, .ref hjo, .int (b2 false)]))] H := hP
          have hD : va_D A [(hiq, .inr (2, [.ref hag, .int (b2 op), .int (nI t_)])), (hag, .inr (4, fr)), (hai, .inl (cI, NA, .inl (fun i_ => nI (aif i_)))), (hac, .inl (cI, NA, .inl (fun i_ => nI (ath i_)))), (h0, .inr (6, fs)), (ht, .inr (5, [.ref hro, .int (nI n), .int (nI (o + 1))])), (hro, .inl (cI, 20, .inl (fun i_ => nI ((va_up r o w) i_)))), (hf, .inr (1, [.ref hme, .ref hle, .int (nI n), .int (nI z'), .int (b2 ar')])), (hme, .inl (cI, N, .inl (fun i_ => nI (mem' i_)))), (hle, .inl (cI, N, .inl (fun i_ => lvO (g' i_)))), (hbs, .inr (0, [.ref hru, .ref hjo, .int (b2 false)]))] := hD
          have hgc2 := no_gc hB hcm
          refine lv_istore_n (lv' := [(3, .int (nI o)), (2, .int (nI t_)), (0, .ref h0), (1, .int (nI w))]) hx hb dX7_no_67 rfl hl (by decide) rfl (fun ls hl => ?_)
          refine lv_aload_n hx hb dX7_no_68 rfl (lv_at hl 2 rfl) ?_
          refine va_get (D := D) (ci := 6) (v := .ref hiq) (C := RX7) (T := TX7) (N := 5) hx hb hts (by decide +kernel) hown hK hP 4 rfl rfl 2 (by decide) (hts (.fieldLink RX7 26 "ConceptTable" "inquiry" "LConceptTable$Inquiry;") (by decide +kernel)) (fun _ h9 => h9) c2 dX7_no_69 ?_
          refine lv_aload_n hx hb dX7_no_72 rfl (lv_at hl 2 rfl) ?_
          refine va_get (D := D) (ci := 6) (v := .ref hf) (C := RX7) (T := TX7) (N := 5) hx hb hts (by decide +kernel) hown hK hP 4 rfl rfl 3 (by decide) (hts (.fieldLink RX7 33 "ConceptTable" "family" "LConceptTable$Family;") (by decide +kernel)) (fun _ h9 => h9) c3 dX7_no_73 ?_
          have hPc := hP.sub (ws' := [(hiq, .inr (2, [.ref hag, .int (b2 op), .int (nI t_)])), (hag, .inr (4, fr)), (hai, .inl (cI, NA, .inl (fun i_ => nI (aif i_)))), (hac, .inl (cI, NA, .inl (fun i_ => nI (ath i_)))), (hf, .inr (1, [.ref hme, .ref hle, .int (nI n), .int (nI z'), .int (b2 ar')])), (hle, .inl (cI, N, .inl (fun i_ => lvO (g' i_))))]) [0, 1, 2, 3, 7, 9] rfl
          have hDc := hD.sub (ws' := [(hiq, .inr (2, [.ref hag, .int (b2 op), .int (nI t_)])), (hag, .inr (4, fr)), (hai, .inl (cI, NA, .inl (fun i_ => nI (aif i_)))), (hac, .inl (cI, NA, .inl (fun i_ => nI (ath i_)))), (hf, .inr (1, [.ref hme, .ref hle, .int (nI n), .int (nI z'), .int (b2 ar')])), (hle, .inl (cI, N, .inl (fun i_ => lvO (g' i_))))]) [0, 1, 2, 3, 7, 9] (by decide) rfl
          have hKc := hK.sub (tys' := [(cI, .int)]) [0] rfl
          have hFc := va_free (wc := [(hiq, .inr (2, [.ref hag, .int (b2 op), .int (nI t_)])), (hag, .inr (4, fr)), (hai, .inl (cI, NA, .inl (fun i_ => nI (aif i_)))), (hac, .inl (cI, NA, .inl (fun i_ => nI (ath i_)))), (hf, .inr (1, [.ref hme, .ref hle, .int (nI n), .int (nI z'), .int (b2 ar')])), (hle, .inl (cI, N, .inl (fun i_ => lvO (g' i_))))]) hD hS hA [0, 1, 2, 3, 7, 9] rfl
          refine mu_call (va_runV (As := [.ref hf]) (rest := []) ⟨hx, hb, hml, hown, hts⟩ (c_X2_seek l D H.size hiq hag op t_ p_ fr hai hac az cI NA aif ath hf ([.ref hme, .ref hle, .int (nI n), .int (nI z'), .int (b2 ar')]) hle n N g' (o + 1) (va_up r o w) r0 r1 r2 rfl rfl hn haz hNA (fun j _ => Nat.lt_trans (hai_ j) (by decide)) (fun j _ => Nat.lt_trans (hac_ j) (by decide)) hN hN2 hF.2.2.2 hgc2 hp_ ht9) (cwV 1 hts gX7_no_X2_seek rfl rfl rfl (by decide +kernel) ⟨Nat.le_of_ble_eq_true rfl, Nat.le_of_ble_eq_true rfl⟩) ⟨mu_bl, va_recv hKc hPc (ci := 2) (q0 := 0) rfl rfl, fun U hU hW => ⟨rfl, by rw [hU], by rw [hU]; exact hPc, va_K.moved hW.alike hKc, hDc.weaken (fun _ _ _ _ => trivial)⟩⟩ rfl rfl hl.1 rfl (lv_room (Nat.le_of_ble_eq_true rfl)) dX7_no_76 ⟨Nat.le_of_ble_eq_true rfl, Nat.le_of_ble_eq_true rfl⟩) hS (fun q _ h => hFc q h) hFc (fun H1 locs hP1 hD1 hk1 hS => ?_)
          obtain ⟨hP, hD⟩ := va_join (wr := [(h0, .inr (6, fs)), (ht, .inr (5, [.ref hro, .int (nI n), .int (nI (o + 1))])), (hro, .inl (cI, 20, .inl (fun i_ => nI ((va_up r o w) i_)))), (hme, .inl (cI, N, .inl (fun i_ => nI (mem' i_)))), (hbs, .inr (0, [.ref hru, .ref hjo, .int (b2 false)]))]) (w1 := [(hiq, .inr (2, [.ref hag, .int (b2 op), .int (fqF (va_up r o w) n (o + 1) aif ath az (2 ^ n - p_) p_)])), (hag, .inr (4, fr)), (hai, .inl (cI, NA, .inl (fun i_ => nI (aif i_)))), (hac, .inl (cI, NA, .inl (fun i_ => nI (ath i_)))), (hf, .inr (1, [.ref hme, .ref hle, .int (nI n), .int (nI z'), .int (b2 ar')])), (hle, .inl (cI, N, .inl (fun i_ => lvO ((g') i_))))]) hP hD [0, 1, 2, 3, 7, 9] [4, 5, 6, 8, 10] rfl rfl (by decide) (by decide) hk1 hFc hP1 hD1
          generalize H1 = H at hP hS ⊢
          have hP : va_P D vwCl [(h0, .inr (6, fs)), (ht, .inr (5, [.ref hro, .int (nI n), .int (nI (o + 1))])), (hro, .inl (cI, 20, .inl (fun i_ => nI ((va_up r o w) i_)))), (hme, .inl (cI, N, .inl (fun i_ => nI (mem' i_)))), (hbs, .inr (0, [.ref hru, .ref hjo, .int (b2 false)])), (hiq, .inr (2, [.ref hag, .int (b2 op), .int (fqF (va_up r o w) n (o + 1) aif ath az (2 ^ n - p_) p_)])), (hag, .inr (4, fr)), (hai, .inl (cI, NA, .inl (fun i_ => nI (aif i_)))), (hac, .inl (cI, NA, .inl (fun i_ => nI (ath i_)))), (hf, .inr (1, [.ref hme, .ref hle, .int (nI n), .int (nI z'), .int (b2 ar')])), (hle, .inl (cI, N, .inl (fun i_ => lvO ((g') i_))))] H := hP
          have hD : va_D A [(h0, .inr (6, fs)), (ht, .inr (5, [.ref hro, .int (nI n), .int (nI (o + 1))])), (hro, .inl (cI, 20, .inl (fun i_ => nI ((va_up r o w) i_)))), (hme, .inl (cI, N, .inl (fun i_ => nI (mem' i_)))), (hbs, .inr (0, [.ref hru, .ref hjo, .int (b2 false)])), (hiq, .inr (2, [.ref hag, .int (b2 op), .int (fqF (va_up r o w) n (o + 1) aif ath az (2 ^ n - p_) p_)])), (hag, .inr (4, fr)), (hai, .inl (cI, NA, .inl (fun i_ => nI (aif i_)))), (hac, .inl (cI, NA, .inl (fun i_ => nI (ath i_)))), (hf, .inr (1, [.ref hme, .ref hle, .int (nI n), .int (nI z'), .int (b2 ar')])), (hle, .inl (cI, N, .inl (fun i_ => lvO ((g') i_))))] := hD
          refine lv_pop hx hb dX7_no_79 rfl ?_
          refine lv_iload_n hx hb dX7_no_80 rfl (lv_at hl 0 rfl) ?_
          have hP := hP.sub (ws' := [(h0, .inr (6, fs)), (ht, .inr (5, [.ref hro, .int (nI n), .int (nI (o + 1))])), (hro, .inl (cI, 20, .inl (fun i_ => nI ((va_up r o w) i_)))), (hf, .inr (1, [.ref hme, .ref hle, .int (nI n), .int (nI z'), .int (b2 ar')])), (hme, .inl (cI, N, .inl (fun i_ => nI (mem' i_)))), (hle, .inl (cI, N, .inl (fun i_ => lvO ((g') i_)))), (hbs, .inr (0, [.ref hru, .ref hjo, .int (b2 false)])), (hiq, .inr (2, [.ref hag, .int (b2 op), .int (fqF (va_up r o w) n (o + 1) aif ath az (2 ^ n - p_) p_)])), (hag, .inr (4, fr)), (hai, .inl (cI, NA, .inl (fun i_ => nI (aif i_)))), (hac, .inl (cI, NA, .inl (fun i_ => nI (ath i_))))]) [0, 1, 2, 9, 3, 10, 4, 5, 6, 7, 8] rfl
          have hD := hD.sub (ws' := [(h0, .inr (6, fs)), (ht, .inr (5, [.ref hro, .int (nI n), .int (nI (o + 1))])), (hro, .inl (cI, 20, .inl (fun i_ => nI ((va_up r o w) i_)))), (hf, .inr (1, [.ref hme, .ref hle, .int (nI n), .int (nI z'), .int (b2 ar')])), (hme, .inl (cI, N, .inl (fun i_ => nI (mem' i_)))), (hle, .inl (cI, N, .inl (fun i_ => lvO ((g') i_)))), (hbs, .inr (0, [.ref hru, .ref hjo, .int (b2 false)])), (hiq, .inr (2, [.ref hag, .int (b2 op), .int (fqF (va_up r o w) n (o + 1) aif ath az (2 ^ n - p_) p_)])), (hag, .inr (4, fr)), (hai, .inl (cI, NA, .inl (fun i_ => nI (aif i_)))), (hac, .inl (cI, NA, .inl (fun i_ => nI (ath i_))))]) [0, 1, 2, 9, 3, 10, 4, 5, 6, 7, 8] (by decide) rfl
          exact W.iret (v := (nI o)) hx hb hr (fun t ht hW => ⟨⟨(z', ar', mem', g'), rfl, ⟨hF, hB, hAr⟩, by rw [ht]; exact hP, hD⟩, hS.F ht⟩) hS.2.2 dX7_no_81
        · have c_56 := b2_n0.mp c_56
          exact absurd c_56 (by rw [decide_eq_false (by omega)]; decide)
      · have c_43 := b2_0.mp c_43
        exact Bool.noConfusion (hg.symm.trans c_43)
    · have c_21 := b2_0.mp c_21
      exact Bool.noConfusion (hb_.symm.trans c_21)
