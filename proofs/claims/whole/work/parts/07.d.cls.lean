/-! the links of the private constructors -/
def NW (U : State) : Prop := va_Nw (.methodLinkNest RX7 11 yX6_init "ConceptTable") U ∧ va_Nw (.methodLinkNest RX7 18 yX3_init "ConceptTable") U ∧ va_Nw (.methodLinkNest RX7 25 yX2_init "ConceptTable") U ∧ va_Nw (.methodLinkNest RX7 32 yX1_init "ConceptTable") U ∧ va_Nw (.methodLinkNest RX7 39 yX0_init "ConceptTable") U
theorem NW_m11 {U : State} (h : NW U) : va_Nw (.methodLinkNest RX7 11 yX6_init "ConceptTable") U := h.1
theorem NW_m18 {U : State} (h : NW U) : va_Nw (.methodLinkNest RX7 18 yX3_init "ConceptTable") U := h.2.1
theorem NW_m25 {U : State} (h : NW U) : va_Nw (.methodLinkNest RX7 25 yX2_init "ConceptTable") U := h.2.2.1
theorem NW_m32 {U : State} (h : NW U) : va_Nw (.methodLinkNest RX7 32 yX1_init "ConceptTable") U := h.2.2.2.1
theorem NW_m39 {U : State} (h : NW U) : va_Nw (.methodLinkNest RX7 39 yX0_init "ConceptTable") U := h.2.2.2.2
theorem NW_same {u U : State} (h : u.vm = U.vm) (z : NW u) : NW U := ⟨va_Nw.same rfl h z.1, va_Nw.same rfl h z.2.1, va_Nw.same rfl h z.2.2.1, va_Nw.same rfl h z.2.2.2.1, va_Nw.same rfl h z.2.2.2.2⟩
theorem NW_warm {s U : State} (h : s.WarmedH U.vm) (z : NW s) : NW U := ⟨va_Nw.warmM h z.1, va_Nw.warmM h z.2.1, va_Nw.warmM h z.2.2.1, va_Nw.warmM h z.2.2.2.1, va_Nw.warmM h z.2.2.2.2⟩
theorem mu_blN {D : va_G} {cl : List vw_C} {wc : va_W} {tc : List (ClassId × FieldType)} {av : List Value} {sz : Nat} {A : Nat → Prop} {wd : va_W} : FrameBlind (va_Pc av (fun U => U.heap.size = sz ∧ va_P D cl wc U.heap ∧ va_K D cl tc U ∧ va_D A wd ∧ NW U)) := fun a U g mk q => by
  obtain ⟨q0, q1, qP, qK, qD, qN⟩ := q
  exact ⟨q0, q1, qP, va_K.moved (u := U) (U := U.calling g mk a) (Vm.Alike.refl U.vm) qK, qD, NW_same (u := U) (U := U.calling g mk a) rfl qN⟩

set_option maxHeartbeats 4000000 in
set_option maxRecDepth 100000 in
theorem c_X6_init (l : Launch) (D : va_G) (sz : Nat) (h0 : Nat) (cI : ClassId)  : Met l yX6_init wsX6_init ({ frames := 1, cells := 1, slots := 20, locals := 12 }) (va_Pc [.ref h0] (fun U => U.heap.size = sz ∧ va_P D vwCl [(h0, .inr (5, [.null, .int (0 : Int32), .int (0 : Int32)]))] U.heap ∧ va_K D vwCl [(cI, .int)] U ∧ va_D (fun _ => True) [(h0, .inr (5, [.null, .int (0 : Int32), .int (0 : Int32)]))])) (mxQ (fun u_ : Nat => match u_ with | hr => none) (fun u_ : Nat => match u_ with | hr => True) (fun u_ : Nat => match u_ with | hr => [(h0, .inr (5, [.ref hr, .int (nI 0), .int (nI 0)])), (hr, .inl (cI, 20, .inl (fun i_ => nI ((fun _ => 0) i_))))]) D vwCl (va_A [(h0, .inr (5, [.null, .int (0 : Int32), .int (0 : Int32)]))] sz)) 1 20 (va_A [(h0, .inr (5, [.null, .int (0 : Int32), .int (0 : Int32)]))] sz) := by
  refine Met.ofW (cc := cX6_init) (maxL := 1) (ret := none) (by decide) rfl ?_
  intro p e s m args below meth c s₁ B hml hv
  obtain ⟨rfl, hsz, hP, hK, hD0⟩ := hv
  have hx := B.exec
  have hb := B.bytes
  have hr := B.returns
  have hts := atoms_spec (ws := wsX6_init) B.pre
  have hown : s.vm.findClass RX6 = some m.cls := findClass_of_methodNamed B.named
  have hlocks := B.notSynchronized
  have hin : meth.name = "<init>" := (name_of_methodNamed B.named B.method).1
  subst hsz
  have hD := hD0.self (sz := s.heap.size)
  generalize hAe : va_A [(h0, .inr (5, [.null, .int (0 : Int32), .int (0 : Int32)]))] s.heap.size = A at hD ⊢
  have hA : ∀ q : Nat, s.heap.size ≤ q → A q := fun q h => by rw [← hAe]; exact Or.inr h
  have hS : va_S A s.heap s.heap [] := va_S.rf
  have hl := lv_entry ([.ref h0]) (n := 1) (Nat.le_of_ble_eq_true rfl)
  rw [lg_entry_eq]
  generalize (lg_sl ([.ref h0]) ++ List.replicate (1 - (lg_sl ([.ref h0])).length) Slot.unset).toArray = ls at hl ⊢
  have hl : lv_has ls 1 [(0, .ref h0)] := hl
  refine lv_aload_n hx hb dX6_init_0 rfl (lv_at hl 0 rfl) ?_
  refine W.objInit hx hb hown (hts (.methodLink RX6 3 objectInit) (by decide +kernel)) (hts (.instanceMethod objectInit) (by decide +kernel)) (hts (.code objectInit ⟨#[0xb1]⟩ 1 none) (by decide +kernel)) rfl (by rw [hml]; exact hl.1) rfl dX6_init_1 (Nat.le_of_ble_eq_true rfl) (Nat.le_of_ble_eq_true rfl) ?_
  refine W.eq (g2 := F0 m 4 ls []) rfl ?_
  refine lv_aload_n hx hb dX6_init_4 rfl (lv_at hl 0 rfl) ?_
  refine lv_bipush (v := 20) hx hb dX6_init_5 (by decide) ?_
  refine na_int hx hb (hts (.arrayClass .int) (by decide +kernel)) hK 0 rfl hP hD hS hA (n := (20 : Int32)) (N' := 20) (by decide) (by decide) (Nat.le_of_ble_eq_true rfl) (Nat.le_of_ble_eq_true rfl) (Nat.le_of_ble_eq_true rfl) dX6_init_7 (fun q_7 H hP hD hS => ?_)
  have hP : va_P D vwCl [(h0, .inr (5, [.null, .int (0 : Int32), .int (0 : Int32)])), (q_7, .inl (cI, 20, .inl (fun i_ => nI ((fun _ => 0) i_))))] H := hP
  have hD : va_D A [(h0, .inr (5, [.null, .int (0 : Int32), .int (0 : Int32)])), (q_7, .inl (cI, 20, .inl (fun i_ => nI ((fun _ => 0) i_))))] := hD
  refine W.widen (k := 1) (n := 20) (by omega) (by omega) ?_
  refine va_putF (D := D) (ci := 5) (v := .ref q_7) (ty := (.array .int)) (C := RX6) (T := TX6) (N := 3) hx hb hts (by decide +kernel) tyX6 tyX6_ok nmX6 hown hK hP hD hS 0 rfl rfl 0 (by decide) (hts (.fieldLink RX6 9 "ConceptTable$Table" "rows" "[I") (by decide +kernel)) (fun _ h9 => h9) rfl hin rfl (by decide +kernel) rfl rfl (Nat.le_of_ble_eq_true rfl) dX6_init_9 (fun H locs hP hD hS => ?_)
  have hP : va_P D vwCl [(h0, .inr (5, [.ref q_7, .int (0 : Int32), .int (0 : Int32)])), (q_7, .inl (cI, 20, .inl (fun i_ => nI ((fun _ => 0) i_))))] H := hP
  have hD : va_D A [(h0, .inr (5, [.ref q_7, .int (0 : Int32), .int (0 : Int32)])), (q_7, .inl (cI, 20, .inl (fun i_ => nI ((fun _ => 0) i_))))] := hD
  have hP := hP.sub (ws' := [(h0, .inr (5, [.ref q_7, .int (0 : Int32), .int (0 : Int32)])), (q_7, .inl (cI, 20, .inl (fun i_ => nI ((fun _ => 0) i_))))]) [0, 1] rfl
  have hD := hD.sub (ws' := [(h0, .inr (5, [.ref q_7, .int (0 : Int32), .int (0 : Int32)])), (q_7, .inl (cI, 20, .inl (fun i_ => nI ((fun _ => 0) i_))))]) [0, 1] (by decide) rfl
  exact W.vret hx hb hr (fun t ht hW => ⟨⟨q_7, rfl, trivial, by rw [ht]; exact hP, hD⟩, hS.F ht⟩) hS.2.2 dX6_init_12

set_option maxHeartbeats 4000000 in
set_option maxRecDepth 100000 in
theorem c_X3_init (l : Launch) (D : va_G) (sz : Nat) (h0 : Nat) (cI : ClassId)  : Met l yX3_init wsX3_init ({ frames := 1, cells := 1, slots := 20, locals := 12 }) (va_Pc [.ref h0] (fun U => U.heap.size = sz ∧ va_P D vwCl [(h0, .inr (3, [.null, .int (0 : Int32)]))] U.heap ∧ va_K D vwCl [(cI, .int)] U ∧ va_D (fun _ => True) [(h0, .inr (3, [.null, .int (0 : Int32)]))])) (mxQ (fun u_ : Nat => match u_ with | hr => none) (fun u_ : Nat => match u_ with | hr => True) (fun u_ : Nat => match u_ with | hr => [(h0, .inr (3, [.ref hr, .int (nI 0)])), (hr, .inl (cI, 20, .inl (fun i_ => nI ((fun _ => 0) i_))))]) D vwCl (va_A [(h0, .inr (3, [.null, .int (0 : Int32)]))] sz)) 1 20 (va_A [(h0, .inr (3, [.null, .int (0 : Int32)]))] sz) := by
  refine Met.ofW (cc := cX3_init) (maxL := 1) (ret := none) (by decide) rfl ?_
  intro p e s m args below meth c s₁ B hml hv
  obtain ⟨rfl, hsz, hP, hK, hD0⟩ := hv
  have hx := B.exec
  have hb := B.bytes
  have hr := B.returns
  have hts := atoms_spec (ws := wsX3_init) B.pre
  have hown : s.vm.findClass RX3 = some m.cls := findClass_of_methodNamed B.named
  have hlocks := B.notSynchronized
  have hin : meth.name = "<init>" := (name_of_methodNamed B.named B.method).1
  subst hsz
  have hD := hD0.self (sz := s.heap.size)
  generalize hAe : va_A [(h0, .inr (3, [.null, .int (0 : Int32)]))] s.heap.size = A at hD ⊢
  have hA : ∀ q : Nat, s.heap.size ≤ q → A q := fun q h => by rw [← hAe]; exact Or.inr h
  have hS : va_S A s.heap s.heap [] := va_S.rf
  have hl := lv_entry ([.ref h0]) (n := 1) (Nat.le_of_ble_eq_true rfl)
  rw [lg_entry_eq]
  generalize (lg_sl ([.ref h0]) ++ List.replicate (1 - (lg_sl ([.ref h0])).length) Slot.unset).toArray = ls at hl ⊢
  have hl : lv_has ls 1 [(0, .ref h0)] := hl
  refine lv_aload_n hx hb dX3_init_0 rfl (lv_at hl 0 rfl) ?_
  refine W.objInit hx hb hown (hts (.methodLink RX3 3 objectInit) (by decide +kernel)) (hts (.instanceMethod objectInit) (by decide +kernel)) (hts (.code objectInit ⟨#[0xb1]⟩ 1 none) (by decide +kernel)) rfl (by rw [hml]; exact hl.1) rfl dX3_init_1 (Nat.le_of_ble_eq_true rfl) (Nat.le_of_ble_eq_true rfl) ?_
  refine W.eq (g2 := F0 m 4 ls []) rfl ?_
  refine lv_aload_n hx hb dX3_init_4 rfl (lv_at hl 0 rfl) ?_
  refine lv_bipush (v := 20) hx hb dX3_init_5 (by decide) ?_
  refine na_int hx hb (hts (.arrayClass .int) (by decide +kernel)) hK 0 rfl hP hD hS hA (n := (20 : Int32)) (N' := 20) (by decide) (by decide) (Nat.le_of_ble_eq_true rfl) (Nat.le_of_ble_eq_true rfl) (Nat.le_of_ble_eq_true rfl) dX3_init_7 (fun q_7 H hP hD hS => ?_)
  have hP : va_P D vwCl [(h0, .inr (3, [.null, .int (0 : Int32)])), (q_7, .inl (cI, 20, .inl (fun i_ => nI ((fun _ => 0) i_))))] H := hP
  have hD : va_D A [(h0, .inr (3, [.null, .int (0 : Int32)])), (q_7, .inl (cI, 20, .inl (fun i_ => nI ((fun _ => 0) i_))))] := hD
  refine W.widen (k := 1) (n := 20) (by omega) (by omega) ?_
  refine va_putF (D := D) (ci := 3) (v := .ref q_7) (ty := (.array .int)) (C := RX3) (T := TX3) (N := 2) hx hb hts (by decide +kernel) tyX3 tyX3_ok nmX3 hown hK hP hD hS 0 rfl rfl 0 (by decide) (hts (.fieldLink RX3 9 "ConceptTable$Neighbours" "found" "[I") (by decide +kernel)) (fun _ h9 => h9) rfl hin rfl (by decide +kernel) rfl rfl (Nat.le_of_ble_eq_true rfl) dX3_init_9 (fun H locs hP hD hS => ?_)
  have hP : va_P D vwCl [(h0, .inr (3, [.ref q_7, .int (0 : Int32)])), (q_7, .inl (cI, 20, .inl (fun i_ => nI ((fun _ => 0) i_))))] H := hP
  have hD : va_D A [(h0, .inr (3, [.ref q_7, .int (0 : Int32)])), (q_7, .inl (cI, 20, .inl (fun i_ => nI ((fun _ => 0) i_))))] := hD
  have hP := hP.sub (ws' := [(h0, .inr (3, [.ref q_7, .int (0 : Int32)])), (q_7, .inl (cI, 20, .inl (fun i_ => nI ((fun _ => 0) i_))))]) [0, 1] rfl
  have hD := hD.sub (ws' := [(h0, .inr (3, [.ref q_7, .int (0 : Int32)])), (q_7, .inl (cI, 20, .inl (fun i_ => nI ((fun _ => 0) i_))))]) [0, 1] (by decide) rfl
  exact W.vret hx hb hr (fun t ht hW => ⟨⟨q_7, rfl, trivial, by rw [ht]; exact hP, hD⟩, hS.F ht⟩) hS.2.2 dX3_init_12

set_option maxHeartbeats 4000000 in
set_option maxRecDepth 100000 in
theorem c_X4_init_512 (l : Launch) (D : va_G) (sz : Nat) (h0 : Nat) (cI : ClassId)  : Met l yX4_init wsX4_init ({ frames := 1, cells := 2, slots := 1024, locals := 21 }) (va_Pc [.ref h0, .int (512 : Int32)] (fun U => U.heap.size = sz ∧ va_P D vwCl [(h0, .inr (4, [.null, .null, .int (0 : Int32)]))] U.heap ∧ va_K D vwCl [(cI, .int)] U ∧ va_D (fun _ => True) [(h0, .inr (4, [.null, .null, .int (0 : Int32)]))])) (mxQ (fun u_ : Nat × Nat => match u_ with | (hp, hc) => none) (fun u_ : Nat × Nat => match u_ with | (hp, hc) => True) (fun u_ : Nat × Nat => match u_ with | (hp, hc) => [(h0, .inr (4, [.ref hp, .ref hc, .int (nI 0)])), (hp, .inl (cI, 512, .inl (fun i_ => nI ((fun _ => 0) i_)))), (hc, .inl (cI, 512, .inl (fun i_ => nI ((fun _ => 0) i_))))]) D vwCl (va_A [(h0, .inr (4, [.null, .null, .int (0 : Int32)]))] sz)) 2 1024 (va_A [(h0, .inr (4, [.null, .null, .int (0 : Int32)]))] sz) := by
  refine Met.ofW (cc := cX4_init) (maxL := 3) (ret := none) (by decide) rfl ?_
  intro p e s m args below meth c s₁ B hml hv
  obtain ⟨rfl, hsz, hP, hK, hD0⟩ := hv
  have hx := B.exec
  have hb := B.bytes
  have hr := B.returns
  have hts := atoms_spec (ws := wsX4_init) B.pre
  have hown : s.vm.findClass RX4 = some m.cls := findClass_of_methodNamed B.named
  have hlocks := B.notSynchronized
  have hin : meth.name = "<init>" := (name_of_methodNamed B.named B.method).1
  subst hsz
  have hD := hD0.self (sz := s.heap.size)
  generalize hAe : va_A [(h0, .inr (4, [.null, .null, .int (0 : Int32)]))] s.heap.size = A at hD ⊢
  have hA : ∀ q : Nat, s.heap.size ≤ q → A q := fun q h => by rw [← hAe]; exact Or.inr h
  have hS : va_S A s.heap s.heap [] := va_S.rf
  have hl := lv_entry ([.ref h0, .int (512 : Int32)]) (n := 3) (Nat.le_of_ble_eq_true rfl)
  rw [lg_entry_eq]
  generalize (lg_sl ([.ref h0, .int (512 : Int32)]) ++ List.replicate (3 - (lg_sl ([.ref h0, .int (512 : Int32)])).length) Slot.unset).toArray = ls at hl ⊢
  have hl : lv_has ls 3 [(0, .ref h0), (1, .int (512 : Int32))] := hl
  refine lv_aload_n hx hb dX4_init_0 rfl (lv_at hl 0 rfl) ?_
  refine W.objInit hx hb hown (hts (.methodLink RX4 3 objectInit) (by decide +kernel)) (hts (.instanceMethod objectInit) (by decide +kernel)) (hts (.code objectInit ⟨#[0xb1]⟩ 1 none) (by decide +kernel)) rfl (by rw [hml]; exact hl.1) rfl dX4_init_1 (Nat.le_of_ble_eq_true rfl) (Nat.le_of_ble_eq_true rfl) ?_
  refine W.eq (g2 := F0 m 4 ls []) rfl ?_
  refine lv_iload_n hx hb dX4_init_4 rfl (lv_at hl 1 rfl) ?_
  refine lv_iconst (v := 0) hx hb dX4_init_5 (by decide) ?_
  refine va_mmax hx hb (by rw [hml]; exact hl.1.symm) hown (hts (.methodLink RX4 9 Lib.Math.max.name) (by decide +kernel)) (hts (.static Lib.Math.max.name) (by decide +kernel)) (hts (.initialized "java/lang/Math") (by decide +kernel)) (hts (.code Lib.Math.max.name Lib.Math.max.code 2 (some .int)) (by decide +kernel)) (Nat.le_of_ble_eq_true rfl) (Nat.le_of_ble_eq_true rfl) (Nat.le_of_ble_eq_true rfl) (Nat.le_of_ble_eq_true rfl) dX4_init_6 ?_
  refine lv_re (y := (512 : Int32)) (by decide) ?_
  refine lv_istore_n (lv' := [(2, .int (512 : Int32)), (0, .ref h0), (1, .int (512 : Int32))]) hx hb dX4_init_9 rfl hl (by decide) rfl (fun ls hl => ?_)
  refine lv_aload_n hx hb dX4_init_10 rfl (lv_at hl 1 rfl) ?_
  refine lv_iload_n hx hb dX4_init_11 rfl (lv_at hl 0 rfl) ?_
  refine na_int hx hb (hts (.arrayClass .int) (by decide +kernel)) hK 0 rfl hP hD hS hA (n := (512 : Int32)) (N' := 512) (by decide) (by decide) (Nat.le_of_ble_eq_true rfl) (Nat.le_of_ble_eq_true rfl) (Nat.le_of_ble_eq_true rfl) dX4_init_12 (fun q_12 H hP hD hS => ?_)
  have hP : va_P D vwCl [(h0, .inr (4, [.null, .null, .int (0 : Int32)])), (q_12, .inl (cI, 512, .inl (fun i_ => nI ((fun _ => 0) i_))))] H := hP
  have hD : va_D A [(h0, .inr (4, [.null, .null, .int (0 : Int32)])), (q_12, .inl (cI, 512, .inl (fun i_ => nI ((fun _ => 0) i_))))] := hD
  refine W.widen (k := 1) (n := 512) (by omega) (by omega) ?_
  refine va_putF (D := D) (ci := 4) (v := .ref q_12) (ty := (.array .int)) (C := RX4) (T := TX4) (N := 3) hx hb hts (by decide +kernel) tyX4 tyX4_ok nmX4 hown hK hP hD hS 0 rfl rfl 0 (by decide) (hts (.fieldLink RX4 15 "ConceptTable$Rules" "premises" "[I") (by decide +kernel)) (fun _ h9 => h9) rfl hin rfl (by decide +kernel) rfl rfl (Nat.le_of_ble_eq_true rfl) dX4_init_14 (fun H locs hP hD hS => ?_)
  have hP : va_P D vwCl [(h0, .inr (4, [.ref q_12, .null, .int (0 : Int32)])), (q_12, .inl (cI, 512, .inl (fun i_ => nI ((fun _ => 0) i_))))] H := hP
  have hD : va_D A [(h0, .inr (4, [.ref q_12, .null, .int (0 : Int32)])), (q_12, .inl (cI, 512, .inl (fun i_ => nI ((fun _ => 0) i_))))] := hD
  refine lv_aload_n hx hb dX4_init_17 rfl (lv_at hl 1 rfl) ?_
  refine lv_iload_n hx hb dX4_init_18 rfl (lv_at hl 0 rfl) ?_
  refine na_int hx hb (hts (.arrayClass .int) (by decide +kernel)) hK 0 rfl hP hD hS hA (n := (512 : Int32)) (N' := 512) (by decide) (by decide) (Nat.le_of_ble_eq_true rfl) (Nat.le_of_ble_eq_true rfl) (Nat.le_of_ble_eq_true rfl) dX4_init_19 (fun q_19 H hP hD hS => ?_)
  have hP : va_P D vwCl [(h0, .inr (4, [.ref q_12, .null, .int (0 : Int32)])), (q_12, .inl (cI, 512, .inl (fun i_ => nI ((fun _ => 0) i_)))), (q_19, .inl (cI, 512, .inl (fun i_ => nI ((fun _ => 0) i_))))] H := hP
  have hD : va_D A [(h0, .inr (4, [.ref q_12, .null, .int (0 : Int32)])), (q_12, .inl (cI, 512, .inl (fun i_ => nI ((fun _ => 0) i_)))), (q_19, .inl (cI, 512, .inl (fun i_ => nI ((fun _ => 0) i_))))] := hD
  refine W.widen (k := 2) (n := 1024) (by omega) (by omega) ?_
  refine va_putF (D := D) (ci := 4) (v := .ref q_19) (ty := (.array .int)) (C := RX4) (T := TX4) (N := 3) hx hb hts (by decide +kernel) tyX4 tyX4_ok nmX4 hown hK hP hD hS 0 rfl rfl 1 (by decide) (hts (.fieldLink RX4 21 "ConceptTable$Rules" "conclusions" "[I") (by decide +kernel)) (fun _ h9 => h9) rfl hin rfl (by decide +kernel) rfl rfl (Nat.le_of_ble_eq_true rfl) dX4_init_21 (fun H locs hP hD hS => ?_)
  have hP : va_P D vwCl [(h0, .inr (4, [.ref q_12, .ref q_19, .int (0 : Int32)])), (q_12, .inl (cI, 512, .inl (fun i_ => nI ((fun _ => 0) i_)))), (q_19, .inl (cI, 512, .inl (fun i_ => nI ((fun _ => 0) i_))))] H := hP
  have hD : va_D A [(h0, .inr (4, [.ref q_12, .ref q_19, .int (0 : Int32)])), (q_12, .inl (cI, 512, .inl (fun i_ => nI ((fun _ => 0) i_)))), (q_19, .inl (cI, 512, .inl (fun i_ => nI ((fun _ => 0) i_))))] := hD
  have hP := hP.sub (ws' := [(h0, .inr (4, [.ref q_12, .ref q_19, .int (0 : Int32)])), (q_12, .inl (cI, 512, .inl (fun i_ => nI ((fun _ => 0) i_)))), (q_19, .inl (cI, 512, .inl (fun i_ => nI ((fun _ => 0) i_))))]) [0, 1, 2] rfl
  have hD := hD.sub (ws' := [(h0, .inr (4, [.ref q_12, .ref q_19, .int (0 : Int32)])), (q_12, .inl (cI, 512, .inl (fun i_ => nI ((fun _ => 0) i_)))), (q_19, .inl (cI, 512, .inl (fun i_ => nI ((fun _ => 0) i_))))]) [0, 1, 2] (by decide) rfl
  exact W.vret hx hb hr (fun t ht hW => ⟨⟨(q_12, q_19), rfl, trivial, by rw [ht]; exact hP, hD⟩, hS.F ht⟩) hS.2.2 dX4_init_24

set_option maxHeartbeats 4000000 in
set_option maxRecDepth 100000 in
theorem c_X4_init_4096 (l : Launch) (D : va_G) (sz : Nat) (h0 : Nat) (cI : ClassId)  : Met l yX4_init wsX4_init ({ frames := 1, cells := 2, slots := 8192, locals := 21 }) (va_Pc [.ref h0, .int (4096 : Int32)] (fun U => U.heap.size = sz ∧ va_P D vwCl [(h0, .inr (4, [.null, .null, .int (0 : Int32)]))] U.heap ∧ va_K D vwCl [(cI, .int)] U ∧ va_D (fun _ => True) [(h0, .inr (4, [.null, .null, .int (0 : Int32)]))])) (mxQ (fun u_ : Nat × Nat => match u_ with | (hp, hc) => none) (fun u_ : Nat × Nat => match u_ with | (hp, hc) => True) (fun u_ : Nat × Nat => match u_ with | (hp, hc) => [(h0, .inr (4, [.ref hp, .ref hc, .int (nI 0)])), (hp, .inl (cI, 4096, .inl (fun i_ => nI ((fun _ => 0) i_)))), (hc, .inl (cI, 4096, .inl (fun i_ => nI ((fun _ => 0) i_))))]) D vwCl (va_A [(h0, .inr (4, [.null, .null, .int (0 : Int32)]))] sz)) 2 8192 (va_A [(h0, .inr (4, [.null, .null, .int (0 : Int32)]))] sz) := by
  refine Met.ofW (cc := cX4_init) (maxL := 3) (ret := none) (by decide) rfl ?_
  intro p e s m args below meth c s₁ B hml hv
  obtain ⟨rfl, hsz, hP, hK, hD0⟩ := hv
  have hx := B.exec
  have hb := B.bytes
  have hr := B.returns
  have hts := atoms_spec (ws := wsX4_init) B.pre
  have hown : s.vm.findClass RX4 = some m.cls := findClass_of_methodNamed B.named
  have hlocks := B.notSynchronized
  have hin : meth.name = "<init>" := (name_of_methodNamed B.named B.method).1
  subst hsz
  have hD := hD0.self (sz := s.heap.size)
  generalize hAe : va_A [(h0, .inr (4, [.null, .null, .int (0 : Int32)]))] s.heap.size = A at hD ⊢
  have hA : ∀ q : Nat, s.heap.size ≤ q → A q := fun q h => by rw [← hAe]; exact Or.inr h
  have hS : va_S A s.heap s.heap [] := va_S.rf
  have hl := lv_entry ([.ref h0, .int (4096 : Int32)]) (n := 3) (Nat.le_of_ble_eq_true rfl)
  rw [lg_entry_eq]
  generalize (lg_sl ([.ref h0, .int (4096 : Int32)]) ++ List.replicate (3 - (lg_sl ([.ref h0, .int (4096 : Int32)])).length) Slot.unset).toArray = ls at hl ⊢
  have hl : lv_has ls 3 [(0, .ref h0), (1, .int (4096 : Int32))] := hl
  refine lv_aload_n hx hb dX4_init_0 rfl (lv_at hl 0 rfl) ?_
  refine W.objInit hx hb hown (hts (.methodLink RX4 3 objectInit) (by decide +kernel)) (hts (.instanceMethod objectInit) (by decide +kernel)) (hts (.code objectInit ⟨#[0xb1]⟩ 1 none) (by decide +kernel)) rfl (by rw [hml]; exact hl.1) rfl dX4_init_1 (Nat.le_of_ble_eq_true rfl) (Nat.le_of_ble_eq_true rfl) ?_
  refine W.eq (g2 := F0 m 4 ls []) rfl ?_
  refine lv_iload_n hx hb dX4_init_4 rfl (lv_at hl 1 rfl) ?_
  refine lv_iconst (v := 0) hx hb dX4_init_5 (by decide) ?_
  refine va_mmax hx hb (by rw [hml]; exact hl.1.symm) hown (hts (.methodLink RX4 9 Lib.Math.max.name) (by decide +kernel)) (hts (.static Lib.Math.max.name) (by decide +kernel)) (hts (.initialized "java/lang/Math") (by decide +kernel)) (hts (.code Lib.Math.max.name Lib.Math.max.code 2 (some .int)) (by decide +kernel)) (Nat.le_of_ble_eq_true rfl) (Nat.le_of_ble_eq_true rfl) (Nat.le_of_ble_eq_true rfl) (Nat.le_of_ble_eq_true rfl) dX4_init_6 ?_
  refine lv_re (y := (4096 : Int32)) (by decide) ?_
  refine lv_istore_n (lv' := [(2, .int (4096 : Int32)), (0, .ref h0), (1, .int (4096 : Int32))]) hx hb dX4_init_9 rfl hl (by decide) rfl (fun ls hl => ?_)
  refine lv_aload_n hx hb dX4_init_10 rfl (lv_at hl 1 rfl) ?_
  refine lv_iload_n hx hb dX4_init_11 rfl (lv_at hl 0 rfl) ?_
  refine na_int hx hb (hts (.arrayClass .int) (by decide +kernel)) hK 0 rfl hP hD hS hA (n := (4096 : Int32)) (N' := 4096) (by decide) (by decide) (Nat.le_of_ble_eq_true rfl) (Nat.le_of_ble_eq_true rfl) (Nat.le_of_ble_eq_true rfl) dX4_init_12 (fun q_12 H hP hD hS => ?_)
  have hP : va_P D vwCl [(h0, .inr (4, [.null, .null, .int (0 : Int32)])), (q_12, .inl (cI, 4096, .inl (fun i_ => nI ((fun _ => 0) i_))))] H := hP
  have hD : va_D A [(h0, .inr (4, [.null, .null, .int (0 : Int32)])), (q_12, .inl (cI, 4096, .inl (fun i_ => nI ((fun _ => 0) i_))))] := hD
  refine W.widen (k := 1) (n := 4096) (by omega) (by omega) ?_
  refine va_putF (D := D) (ci := 4) (v := .ref q_12) (ty := (.array .int)) (C := RX4) (T := TX4) (N := 3) hx hb hts (by decide +kernel) tyX4 tyX4_ok nmX4 hown hK hP hD hS 0 rfl rfl 0 (by decide) (hts (.fieldLink RX4 15 "ConceptTable$Rules" "premises" "[I") (by decide +kernel)) (fun _ h9 => h9) rfl hin rfl (by decide +kernel) rfl rfl (Nat.le_of_ble_eq_true rfl) dX4_init_14 (fun H locs hP hD hS => ?_)
  have hP : va_P D vwCl [(h0, .inr (4, [.ref q_12, .null, .int (0 : Int32)])), (q_12, .inl (cI, 4096, .inl (fun i_ => nI ((fun _ => 0) i_))))] H := hP
  have hD : va_D A [(h0, .inr (4, [.ref q_12, .null, .int (0 : Int32)])), (q_12, .inl (cI, 4096, .inl (fun i_ => nI ((fun _ => 0) i_))))] := hD
  refine lv_aload_n hx hb dX4_init_17 rfl (lv_at hl 1 rfl) ?_
  refine lv_iload_n hx hb dX4_init_18 rfl (lv_at hl 0 rfl) ?_
  refine na_int hx hb (hts (.arrayClass .int) (by decide +kernel)) hK 0 rfl hP hD hS hA (n := (4096 : Int32)) (N' := 4096) (by decide) (by decide) (Nat.le_of_ble_eq_true rfl) (Nat.le_of_ble_eq_true rfl) (Nat.le_of_ble_eq_true rfl) dX4_init_19 (fun q_19 H hP hD hS => ?_)
  have hP : va_P D vwCl [(h0, .inr (4, [.ref q_12, .null, .int (0 : Int32)])), (q_12, .inl (cI, 4096, .inl (fun i_ => nI ((fun _ => 0) i_)))), (q_19, .inl (cI, 4096, .inl (fun i_ => nI ((fun _ => 0) i_))))] H := hP
  have hD : va_D A [(h0, .inr (4, [.ref q_12, .null, .int (0 : Int32)])), (q_12, .inl (cI, 4096, .inl (fun i_ => nI ((fun _ => 0) i_)))), (q_19, .inl (cI, 4096, .inl (fun i_ => nI ((fun _ => 0) i_))))] := hD
  refine W.widen (k := 2) (n := 8192) (by omega) (by omega) ?_
  refine va_putF (D := D) (ci := 4) (v := .ref q_19) (ty := (.array .int)) (C := RX4) (T := TX4) (N := 3) hx hb hts (by decide +kernel) tyX4 tyX4_ok nmX4 hown hK hP hD hS 0 rfl rfl 1 (by decide) (hts (.fieldLink RX4 21 "ConceptTable$Rules" "conclusions" "[I") (by decide +kernel)) (fun _ h9 => h9) rfl hin rfl (by decide +kernel) rfl rfl (Nat.le_of_ble_eq_true rfl) dX4_init_21 (fun H locs hP hD hS => ?_)
  have hP : va_P D vwCl [(h0, .inr (4, [.ref q_12, .ref q_19, .int (0 : Int32)])), (q_12, .inl (cI, 4096, .inl (fun i_ => nI ((fun _ => 0) i_)))), (q_19, .inl (cI, 4096, .inl (fun i_ => nI ((fun _ => 0) i_))))] H := hP
  have hD : va_D A [(h0, .inr (4, [.ref q_12, .ref q_19, .int (0 : Int32)])), (q_12, .inl (cI, 4096, .inl (fun i_ => nI ((fun _ => 0) i_)))), (q_19, .inl (cI, 4096, .inl (fun i_ => nI ((fun _ => 0) i_))))] := hD
  have hP := hP.sub (ws' := [(h0, .inr (4, [.ref q_12, .ref q_19, .int (0 : Int32)])), (q_12, .inl (cI, 4096, .inl (fun i_ => nI ((fun _ => 0) i_)))), (q_19, .inl (cI, 4096, .inl (fun i_ => nI ((fun _ => 0) i_))))]) [0, 1, 2] rfl
  have hD := hD.sub (ws' := [(h0, .inr (4, [.ref q_12, .ref q_19, .int (0 : Int32)])), (q_12, .inl (cI, 4096, .inl (fun i_ => nI ((fun _ => 0) i_)))), (q_19, .inl (cI, 4096, .inl (fun i_ => nI ((fun _ => 0) i_))))]) [0, 1, 2] (by decide) rfl
  exact W.vret hx hb hr (fun t ht hW => ⟨⟨(q_12, q_19), rfl, trivial, by rw [ht]; exact hP, hD⟩, hS.F ht⟩) hS.2.2 dX4_init_24

set_option maxHeartbeats 4000000 in
set_option maxRecDepth 100000 in
theorem c_X2_init (l : Launch) (D : va_G) (sz : Nat) (h0 : Nat) (cI : ClassId)  : Met l yX2_init wsX2_init ({ frames := 2, cells := 3, slots := 1027, locals := 43 }) (va_Pc [.ref h0] (fun U => U.heap.size = sz ∧ va_P D vwCl [(h0, .inr (2, [.null, .int (0 : Int32), .int (0 : Int32)]))] U.heap ∧ va_K D vwCl [(cI, .int)] U ∧ va_D (fun _ => True) [(h0, .inr (2, [.null, .int (0 : Int32), .int (0 : Int32)]))])) (mxQ (fun u_ : Nat × Nat × Nat => match u_ with | (hr, hp, hc) => none) (fun u_ : Nat × Nat × Nat => match u_ with | (hr, hp, hc) => True) (fun u_ : Nat × Nat × Nat => match u_ with | (hr, hp, hc) => [(h0, .inr (2, [.ref hr, .int (b2 false), .int (-1 : Int32)])), (hr, .inr (4, [.ref hp, .ref hc, .int (nI 0)])), (hp, .inl (cI, 512, .inl (fun i_ => nI ((fun _ => 0) i_)))), (hc, .inl (cI, 512, .inl (fun i_ => nI ((fun _ => 0) i_))))]) D vwCl (va_A [(h0, .inr (2, [.null, .int (0 : Int32), .int (0 : Int32)]))] sz)) 3 1027 (va_A [(h0, .inr (2, [.null, .int (0 : Int32), .int (0 : Int32)]))] sz) := by
  refine Met.ofW (cc := cX2_init) (maxL := 1) (ret := none) (by decide) rfl ?_
  intro p e s m args below meth c s₁ B hml hv
  obtain ⟨rfl, hsz, hP, hK, hD0⟩ := hv
  have hx := B.exec
  have hb := B.bytes
  have hr := B.returns
  have hts := atoms_spec (ws := wsX2_init) B.pre
  have hown : s.vm.findClass RX2 = some m.cls := findClass_of_methodNamed B.named
  have hlocks := B.notSynchronized
  have hin : meth.name = "<init>" := (name_of_methodNamed B.named B.method).1
  subst hsz
  have hD := hD0.self (sz := s.heap.size)
  generalize hAe : va_A [(h0, .inr (2, [.null, .int (0 : Int32), .int (0 : Int32)]))] s.heap.size = A at hD ⊢
  have hA : ∀ q : Nat, s.heap.size ≤ q → A q := fun q h => by rw [← hAe]; exact Or.inr h
  have hS : va_S A s.heap s.heap [] := va_S.rf
  have hl := lv_entry ([.ref h0]) (n := 1) (Nat.le_of_ble_eq_true rfl)
  rw [lg_entry_eq]
  generalize (lg_sl ([.ref h0]) ++ List.replicate (1 - (lg_sl ([.ref h0])).length) Slot.unset).toArray = ls at hl ⊢
  have hl : lv_has ls 1 [(0, .ref h0)] := hl
  refine lv_aload_n hx hb dX2_init_0 rfl (lv_at hl 0 rfl) ?_
  refine W.objInit hx hb hown (hts (.methodLink RX2 3 objectInit) (by decide +kernel)) (hts (.instanceMethod objectInit) (by decide +kernel)) (hts (.code objectInit ⟨#[0xb1]⟩ 1 none) (by decide +kernel)) rfl (by rw [hml]; exact hl.1) rfl dX2_init_1 (Nat.le_of_ble_eq_true rfl) (Nat.le_of_ble_eq_true rfl) ?_
  refine W.eq (g2 := F0 m 4 ls []) rfl ?_
  refine lv_aload_n hx hb dX2_init_4 rfl (lv_at hl 0 rfl) ?_
  refine va_new (ci := 4) (fs := [.null, .null, .int (0 : Int32)]) (C := RX4) (T := TX4) (N := 3) hx hb hts (by decide +kernel) tyX4 tyX4_ok hown (hts (.classLink RX2 9 RX4) (by decide +kernel)) (hts (.instantiable RX4 3) (by decide +kernel)) (hts (.initialized RX4) (by decide +kernel)) hK hP hD hS hA rfl (fun j hj => by rcases (show j = 0 ∨ j = 1 ∨ j = 2 by omega) with rfl | rfl | rfl <;> rfl) (Nat.le_of_ble_eq_true rfl) (Nat.le_of_ble_eq_true rfl) dX2_init_5 (fun q_5 H hP hD hS => ?_)
  have hP : va_P D vwCl [(h0, .inr (2, [.null, .int (0 : Int32), .int (0 : Int32)])), (q_5, .inr (4, [.null, .null, .int (0 : Int32)]))] H := hP
  have hD : va_D A [(h0, .inr (2, [.null, .int (0 : Int32), .int (0 : Int32)])), (q_5, .inr (4, [.null, .null, .int (0 : Int32)]))] := hD
  refine W.widen (k := 1) (n := 3) (by omega) (by omega) ?_
  refine lv_dup hx hb dX2_init_8 rfl ?_
  refine lv_sipush (v := 512) hx hb dX2_init_9 (by decide) ?_
  have hPc := hP.sub (ws' := [(q_5, .inr (4, [.null, .null, .int (0 : Int32)]))]) [1] rfl
  have hDc := hD.sub (ws' := [(q_5, .inr (4, [.null, .null, .int (0 : Int32)]))]) [1] (by decide) rfl
  have hKc := hK.sub (tys' := [(cI, .int)]) [0] rfl
  have hFc := va_free (wc := [(q_5, .inr (4, [.null, .null, .int (0 : Int32)]))]) hD hS hA [1] rfl
  refine mx_call (va_runI (As := [.int (512 : Int32)]) (rest := [.ref q_5, .ref h0]) ⟨hx, hb, hml, hown, hts⟩ (c_X4_init_512 l D H.size q_5 cI ) (cwI 1 hts gX2_init_X4_init rfl rfl rfl (hts (.initialized RX4) (by decide +kernel)) (hts (.methodLink RX2 11 yX4_init) (by decide +kernel)) (hts (.instanceMethod yX4_init) (by decide +kernel)) rfl (by decide +kernel) ⟨Nat.le_of_ble_eq_true rfl, Nat.le_of_ble_eq_true rfl⟩) ⟨mu_bl, fun U hU hW => ⟨rfl, by rw [hU], by rw [hU]; exact hPc, va_K.moved hW.alike hKc, hDc.weaken (fun _ _ _ _ => trivial)⟩⟩ rfl rfl hl.1 rfl (lv_room (Nat.le_of_ble_eq_true rfl)) dX2_init_12 ⟨Nat.le_of_ble_eq_true rfl, Nat.le_of_ble_eq_true rfl⟩) hS (fun q _ h => hFc q h) hFc (fun u_ H1 locs hq_ hP1 hD1 hk1 hS => ?_)
  obtain ⟨hp, hc⟩ := u_
  have hP1 : va_P D vwCl [(q_5, .inr (4, [.ref hp, .ref hc, .int (nI 0)])), (hp, .inl (cI, 512, .inl (fun i_ => nI ((fun _ => 0) i_)))), (hc, .inl (cI, 512, .inl (fun i_ => nI ((fun _ => 0) i_))))] H1 := hP1
  have hD1 : va_D (va_A [(q_5, .inr (4, [.null, .null, .int (0 : Int32)]))] H.size) [(q_5, .inr (4, [.ref hp, .ref hc, .int (nI 0)])), (hp, .inl (cI, 512, .inl (fun i_ => nI ((fun _ => 0) i_)))), (hc, .inl (cI, 512, .inl (fun i_ => nI ((fun _ => 0) i_))))] := hD1
  obtain ⟨hP, hD⟩ := va_join (wr := [(h0, .inr (2, [.null, .int (0 : Int32), .int (0 : Int32)]))]) (w1 := [(q_5, .inr (4, [.ref hp, .ref hc, .int (nI 0)])), (hp, .inl (cI, 512, .inl (fun i_ => nI ((fun _ => 0) i_)))), (hc, .inl (cI, 512, .inl (fun i_ => nI ((fun _ => 0) i_))))]) hP hD [1] [0] rfl rfl (by decide) (by decide) hk1 hFc hP1 hD1
  generalize H1 = H at hP hS ⊢
  have hP : va_P D vwCl [(h0, .inr (2, [.null, .int (0 : Int32), .int (0 : Int32)])), (q_5, .inr (4, [.ref hp, .ref hc, .int (nI 0)])), (hp, .inl (cI, 512, .inl (fun i_ => nI ((fun _ => 0) i_)))), (hc, .inl (cI, 512, .inl (fun i_ => nI ((fun _ => 0) i_))))] H := hP
  have hD : va_D A [(h0, .inr (2, [.null, .int (0 : Int32), .int (0 : Int32)])), (q_5, .inr (4, [.ref hp, .ref hc, .int (nI 0)])), (hp, .inl (cI, 512, .inl (fun i_ => nI ((fun _ => 0) i_)))), (hc, .inl (cI, 512, .inl (fun i_ => nI ((fun _ => 0) i_))))] := hD
  refine W.widen (k := 3) (n := 1027) (by omega) (by omega) ?_
  refine va_putF (D := D) (ci := 2) (v := .ref q_5) (ty := (.object "ConceptTable$Rules")) (C := RX2) (T := TX2) (N := 3) hx hb hts (by decide +kernel) tyX2 tyX2_ok nmX2 hown hK hP hD hS 0 rfl rfl 0 (by decide) (hts (.fieldLink RX2 14 "ConceptTable$Inquiry" "agreed" "LConceptTable$Rules;") (by decide +kernel)) (fun _ h9 => h9) rfl hin rfl (by decide +kernel) rfl rfl (Nat.le_of_ble_eq_true rfl) dX2_init_15 (fun H locs hP hD hS => ?_)
  have hP : va_P D vwCl [(h0, .inr (2, [.ref q_5, .int (0 : Int32), .int (0 : Int32)])), (q_5, .inr (4, [.ref hp, .ref hc, .int (nI 0)])), (hp, .inl (cI, 512, .inl (fun i_ => nI ((fun _ => 0) i_)))), (hc, .inl (cI, 512, .inl (fun i_ => nI ((fun _ => 0) i_))))] H := hP
  have hD : va_D A [(h0, .inr (2, [.ref q_5, .int (0 : Int32), .int (0 : Int32)])), (q_5, .inr (4, [.ref hp, .ref hc, .int (nI 0)])), (hp, .inl (cI, 512, .inl (fun i_ => nI ((fun _ => 0) i_)))), (hc, .inl (cI, 512, .inl (fun i_ => nI ((fun _ => 0) i_))))] := hD
  refine lv_aload_n hx hb dX2_init_18 rfl (lv_at hl 0 rfl) ?_
  refine lv_iconst (v := -1) hx hb dX2_init_19 (by decide) ?_
  refine va_put (D := D) (ci := 2) (v := .int (-1 : Int32)) (ty := .int) (C := RX2) (T := TX2) (N := 3) hx hb hts (by decide +kernel) tyX2 tyX2_ok nmX2 hown hK hP hD hS 0 rfl rfl 2 (by decide) (hts (.fieldLink RX2 20 "ConceptTable$Inquiry" "asked" "I") (by decide +kernel)) (fun _ h9 => h9) rfl (by decide +kernel) rfl rfl (Nat.le_of_ble_eq_true rfl) dX2_init_20 (fun H locs hP hD hS => ?_)
  have hP : va_P D vwCl [(h0, .inr (2, [.ref q_5, .int (0 : Int32), .int (-1 : Int32)])), (q_5, .inr (4, [.ref hp, .ref hc, .int (nI 0)])), (hp, .inl (cI, 512, .inl (fun i_ => nI ((fun _ => 0) i_)))), (hc, .inl (cI, 512, .inl (fun i_ => nI ((fun _ => 0) i_))))] H := hP
  have hD : va_D A [(h0, .inr (2, [.ref q_5, .int (0 : Int32), .int (-1 : Int32)])), (q_5, .inr (4, [.ref hp, .ref hc, .int (nI 0)])), (hp, .inl (cI, 512, .inl (fun i_ => nI ((fun _ => 0) i_)))), (hc, .inl (cI, 512, .inl (fun i_ => nI ((fun _ => 0) i_))))] := hD
  have hP := hP.sub (ws' := [(h0, .inr (2, [.ref q_5, .int (0 : Int32), .int (-1 : Int32)])), (q_5, .inr (4, [.ref hp, .ref hc, .int (nI 0)])), (hp, .inl (cI, 512, .inl (fun i_ => nI ((fun _ => 0) i_)))), (hc, .inl (cI, 512, .inl (fun i_ => nI ((fun _ => 0) i_))))]) [0, 1, 2, 3] rfl
  have hD := hD.sub (ws' := [(h0, .inr (2, [.ref q_5, .int (0 : Int32), .int (-1 : Int32)])), (q_5, .inr (4, [.ref hp, .ref hc, .int (nI 0)])), (hp, .inl (cI, 512, .inl (fun i_ => nI ((fun _ => 0) i_)))), (hc, .inl (cI, 512, .inl (fun i_ => nI ((fun _ => 0) i_))))]) [0, 1, 2, 3] (by decide) rfl
  exact W.vret hx hb hr (fun t ht hW => ⟨⟨(q_5, hp, hc), rfl, trivial, by rw [ht]; exact hP, hD⟩, hS.F ht⟩) hS.2.2 dX2_init_23

set_option maxHeartbeats 4000000 in
set_option maxRecDepth 100000 in
theorem c_X1_init (l : Launch) (D : va_G) (sz : Nat) (h0 : Nat) (cI : ClassId)  : Met l yX1_init wsX1_init ({ frames := 1, cells := 2, slots := 8192, locals := 12 }) (va_Pc [.ref h0] (fun U => U.heap.size = sz ∧ va_P D vwCl [(h0, .inr (1, [.null, .null, .int (0 : Int32), .int (0 : Int32), .int (0 : Int32)]))] U.heap ∧ va_K D vwCl [(cI, .int)] U ∧ va_D (fun _ => True) [(h0, .inr (1, [.null, .null, .int (0 : Int32), .int (0 : Int32), .int (0 : Int32)]))])) (mxQ (fun u_ : Nat × Nat => match u_ with | (hp, hc) => none) (fun u_ : Nat × Nat => match u_ with | (hp, hc) => True) (fun u_ : Nat × Nat => match u_ with | (hp, hc) => [(h0, .inr (1, [.ref hp, .ref hc, .int (nI 0), .int (nI 0), .int (b2 false)])), (hp, .inl (cI, 4096, .inl (fun i_ => nI ((fun _ => 0) i_)))), (hc, .inl (cI, 4096, .inl (fun i_ => lvO ((fun _ => some 0) i_))))]) D vwCl (va_A [(h0, .inr (1, [.null, .null, .int (0 : Int32), .int (0 : Int32), .int (0 : Int32)]))] sz)) 2 8192 (va_A [(h0, .inr (1, [.null, .null, .int (0 : Int32), .int (0 : Int32), .int (0 : Int32)]))] sz) := by
  refine Met.ofW (cc := cX1_init) (maxL := 1) (ret := none) (by decide) rfl ?_
  intro p e s m args below meth c s₁ B hml hv
  obtain ⟨rfl, hsz, hP, hK, hD0⟩ := hv
  have hx := B.exec
  have hb := B.bytes
  have hr := B.returns
  have hts := atoms_spec (ws := wsX1_init) B.pre
  have hown : s.vm.findClass RX1 = some m.cls := findClass_of_methodNamed B.named
  have hlocks := B.notSynchronized
  have hin : meth.name = "<init>" := (name_of_methodNamed B.named B.method).1
  subst hsz
  have hD := hD0.self (sz := s.heap.size)
  generalize hAe : va_A [(h0, .inr (1, [.null, .null, .int (0 : Int32), .int (0 : Int32), .int (0 : Int32)]))] s.heap.size = A at hD ⊢
  have hA : ∀ q : Nat, s.heap.size ≤ q → A q := fun q h => by rw [← hAe]; exact Or.inr h
  have hS : va_S A s.heap s.heap [] := va_S.rf
  have hl := lv_entry ([.ref h0]) (n := 1) (Nat.le_of_ble_eq_true rfl)
  rw [lg_entry_eq]
  generalize (lg_sl ([.ref h0]) ++ List.replicate (1 - (lg_sl ([.ref h0])).length) Slot.unset).toArray = ls at hl ⊢
  have hl : lv_has ls 1 [(0, .ref h0)] := hl
  refine lv_aload_n hx hb dX1_init_0 rfl (lv_at hl 0 rfl) ?_
  refine W.objInit hx hb hown (hts (.methodLink RX1 3 objectInit) (by decide +kernel)) (hts (.instanceMethod objectInit) (by decide +kernel)) (hts (.code objectInit ⟨#[0xb1]⟩ 1 none) (by decide +kernel)) rfl (by rw [hml]; exact hl.1) rfl dX1_init_1 (Nat.le_of_ble_eq_true rfl) (Nat.le_of_ble_eq_true rfl) ?_
  refine W.eq (g2 := F0 m 4 ls []) rfl ?_
  refine lv_aload_n hx hb dX1_init_4 rfl (lv_at hl 0 rfl) ?_
  refine lv_sipush (v := 4096) hx hb dX1_init_5 (by decide) ?_
  refine na_int hx hb (hts (.arrayClass .int) (by decide +kernel)) hK 0 rfl hP hD hS hA (n := (4096 : Int32)) (N' := 4096) (by decide) (by decide) (Nat.le_of_ble_eq_true rfl) (Nat.le_of_ble_eq_true rfl) (Nat.le_of_ble_eq_true rfl) dX1_init_8 (fun q_8 H hP hD hS => ?_)
  have hP : va_P D vwCl [(h0, .inr (1, [.null, .null, .int (0 : Int32), .int (0 : Int32), .int (0 : Int32)])), (q_8, .inl (cI, 4096, .inl (fun i_ => nI ((fun _ => 0) i_))))] H := hP
  have hD : va_D A [(h0, .inr (1, [.null, .null, .int (0 : Int32), .int (0 : Int32), .int (0 : Int32)])), (q_8, .inl (cI, 4096, .inl (fun i_ => nI ((fun _ => 0) i_))))] := hD
  refine W.widen (k := 1) (n := 4096) (by omega) (by omega) ?_
  refine va_putF (D := D) (ci := 1) (v := .ref q_8) (ty := (.array .int)) (C := RX1) (T := TX1) (N := 5) hx hb hts (by decide +kernel) tyX1 tyX1_ok nmX1 hown hK hP hD hS 0 rfl rfl 0 (by decide) (hts (.fieldLink RX1 9 "ConceptTable$Family" "members" "[I") (by decide +kernel)) (fun _ h9 => h9) rfl hin rfl (by decide +kernel) rfl rfl (Nat.le_of_ble_eq_true rfl) dX1_init_10 (fun H locs hP hD hS => ?_)
  have hP : va_P D vwCl [(h0, .inr (1, [.ref q_8, .null, .int (0 : Int32), .int (0 : Int32), .int (0 : Int32)])), (q_8, .inl (cI, 4096, .inl (fun i_ => nI ((fun _ => 0) i_))))] H := hP
  have hD : va_D A [(h0, .inr (1, [.ref q_8, .null, .int (0 : Int32), .int (0 : Int32), .int (0 : Int32)])), (q_8, .inl (cI, 4096, .inl (fun i_ => nI ((fun _ => 0) i_))))] := hD
  refine lv_aload_n hx hb dX1_init_13 rfl (lv_at hl 0 rfl) ?_
  refine lv_sipush (v := 4096) hx hb dX1_init_14 (by decide) ?_
  refine na_int hx hb (hts (.arrayClass .int) (by decide +kernel)) hK 0 rfl hP hD hS hA (n := (4096 : Int32)) (N' := 4096) (by decide) (by decide) (Nat.le_of_ble_eq_true rfl) (Nat.le_of_ble_eq_true rfl) (Nat.le_of_ble_eq_true rfl) dX1_init_17 (fun q_17 H hP hD hS => ?_)
  have hP : va_P D vwCl [(h0, .inr (1, [.ref q_8, .null, .int (0 : Int32), .int (0 : Int32), .int (0 : Int32)])), (q_8, .inl (cI, 4096, .inl (fun i_ => nI ((fun _ => 0) i_)))), (q_17, .inl (cI, 4096, .inl (fun i_ => nI ((fun _ => 0) i_))))] H := hP
  have hD : va_D A [(h0, .inr (1, [.ref q_8, .null, .int (0 : Int32), .int (0 : Int32), .int (0 : Int32)])), (q_8, .inl (cI, 4096, .inl (fun i_ => nI ((fun _ => 0) i_)))), (q_17, .inl (cI, 4096, .inl (fun i_ => nI ((fun _ => 0) i_))))] := hD
  refine W.widen (k := 2) (n := 8192) (by omega) (by omega) ?_
  refine va_putF (D := D) (ci := 1) (v := .ref q_17) (ty := (.array .int)) (C := RX1) (T := TX1) (N := 5) hx hb hts (by decide +kernel) tyX1 tyX1_ok nmX1 hown hK hP hD hS 0 rfl rfl 1 (by decide) (hts (.fieldLink RX1 15 "ConceptTable$Family" "levels" "[I") (by decide +kernel)) (fun _ h9 => h9) rfl hin rfl (by decide +kernel) rfl rfl (Nat.le_of_ble_eq_true rfl) dX1_init_19 (fun H locs hP hD hS => ?_)
  have hP : va_P D vwCl [(h0, .inr (1, [.ref q_8, .ref q_17, .int (0 : Int32), .int (0 : Int32), .int (0 : Int32)])), (q_8, .inl (cI, 4096, .inl (fun i_ => nI ((fun _ => 0) i_)))), (q_17, .inl (cI, 4096, .inl (fun i_ => nI ((fun _ => 0) i_))))] H := hP
  have hD : va_D A [(h0, .inr (1, [.ref q_8, .ref q_17, .int (0 : Int32), .int (0 : Int32), .int (0 : Int32)])), (q_8, .inl (cI, 4096, .inl (fun i_ => nI ((fun _ => 0) i_)))), (q_17, .inl (cI, 4096, .inl (fun i_ => nI ((fun _ => 0) i_))))] := hD
  have hP := hP.sub (ws' := [(h0, .inr (1, [.ref q_8, .ref q_17, .int (0 : Int32), .int (0 : Int32), .int (0 : Int32)])), (q_8, .inl (cI, 4096, .inl (fun i_ => nI ((fun _ => 0) i_)))), (q_17, .inl (cI, 4096, .inl (fun i_ => nI ((fun _ => 0) i_))))]) [0, 1, 2] rfl
  have hD := hD.sub (ws' := [(h0, .inr (1, [.ref q_8, .ref q_17, .int (0 : Int32), .int (0 : Int32), .int (0 : Int32)])), (q_8, .inl (cI, 4096, .inl (fun i_ => nI ((fun _ => 0) i_)))), (q_17, .inl (cI, 4096, .inl (fun i_ => nI ((fun _ => 0) i_))))]) [0, 1, 2] (by decide) rfl
  exact W.vret hx hb hr (fun t ht hW => ⟨⟨(q_8, q_17), rfl, trivial, by rw [ht]; exact hP, hD⟩, hS.F ht⟩) hS.2.2 dX1_init_22

set_option maxHeartbeats 4000000 in
set_option maxRecDepth 100000 in
theorem c_X0_init (l : Launch) (D : va_G) (sz : Nat) (h0 : Nat) (cI : ClassId)  : Met l yX0_init wsX0_init ({ frames := 2, cells := 4, slots := 12291, locals := 43 }) (va_Pc [.ref h0] (fun U => U.heap.size = sz ∧ va_P D vwCl [(h0, .inr (0, [.null, .null, .int (0 : Int32)]))] U.heap ∧ va_K D vwCl [(cI, .int)] U ∧ va_D (fun _ => True) [(h0, .inr (0, [.null, .null, .int (0 : Int32)]))])) (mxQ (fun u_ : Nat × Nat × Nat × Nat => match u_ with | (hr, hp, hc, hj) => none) (fun u_ : Nat × Nat × Nat × Nat => match u_ with | (hr, hp, hc, hj) => True) (fun u_ : Nat × Nat × Nat × Nat => match u_ with | (hr, hp, hc, hj) => [(h0, .inr (0, [.ref hr, .ref hj, .int (b2 false)])), (hr, .inr (4, [.ref hp, .ref hc, .int (nI 0)])), (hp, .inl (cI, 4096, .inl (fun i_ => nI ((fun _ => 0) i_)))), (hc, .inl (cI, 4096, .inl (fun i_ => nI ((fun _ => 0) i_)))), (hj, .inl (cI, 4096, .inl (fun i_ => nI ((fun _ => 0) i_))))]) D vwCl (va_A [(h0, .inr (0, [.null, .null, .int (0 : Int32)]))] sz)) 4 12291 (va_A [(h0, .inr (0, [.null, .null, .int (0 : Int32)]))] sz) := by
  refine Met.ofW (cc := cX0_init) (maxL := 1) (ret := none) (by decide) rfl ?_
  intro p e s m args below meth c s₁ B hml hv
  obtain ⟨rfl, hsz, hP, hK, hD0⟩ := hv
  have hx := B.exec
  have hb := B.bytes
  have hr := B.returns
  have hts := atoms_spec (ws := wsX0_init) B.pre
  have hown : s.vm.findClass RX0 = some m.cls := findClass_of_methodNamed B.named
  have hlocks := B.notSynchronized
  have hin : meth.name = "<init>" := (name_of_methodNamed B.named B.method).1
  subst hsz
  have hD := hD0.self (sz := s.heap.size)
  generalize hAe : va_A [(h0, .inr (0, [.null, .null, .int (0 : Int32)]))] s.heap.size = A at hD ⊢
  have hA : ∀ q : Nat, s.heap.size ≤ q → A q := fun q h => by rw [← hAe]; exact Or.inr h
  have hS : va_S A s.heap s.heap [] := va_S.rf
  have hl := lv_entry ([.ref h0]) (n := 1) (Nat.le_of_ble_eq_true rfl)
  rw [lg_entry_eq]
  generalize (lg_sl ([.ref h0]) ++ List.replicate (1 - (lg_sl ([.ref h0])).length) Slot.unset).toArray = ls at hl ⊢
  have hl : lv_has ls 1 [(0, .ref h0)] := hl
  refine lv_aload_n hx hb dX0_init_0 rfl (lv_at hl 0 rfl) ?_
  refine W.objInit hx hb hown (hts (.methodLink RX0 3 objectInit) (by decide +kernel)) (hts (.instanceMethod objectInit) (by decide +kernel)) (hts (.code objectInit ⟨#[0xb1]⟩ 1 none) (by decide +kernel)) rfl (by rw [hml]; exact hl.1) rfl dX0_init_1 (Nat.le_of_ble_eq_true rfl) (Nat.le_of_ble_eq_true rfl) ?_
  refine W.eq (g2 := F0 m 4 ls []) rfl ?_
  refine lv_aload_n hx hb dX0_init_4 rfl (lv_at hl 0 rfl) ?_
  refine va_new (ci := 4) (fs := [.null, .null, .int (0 : Int32)]) (C := RX4) (T := TX4) (N := 3) hx hb hts (by decide +kernel) tyX4 tyX4_ok hown (hts (.classLink RX0 9 RX4) (by decide +kernel)) (hts (.instantiable RX4 3) (by decide +kernel)) (hts (.initialized RX4) (by decide +kernel)) hK hP hD hS hA rfl (fun j hj => by rcases (show j = 0 ∨ j = 1 ∨ j = 2 by omega) with rfl | rfl | rfl <;> rfl) (Nat.le_of_ble_eq_true rfl) (Nat.le_of_ble_eq_true rfl) dX0_init_5 (fun q_5 H hP hD hS => ?_)
  have hP : va_P D vwCl [(h0, .inr (0, [.null, .null, .int (0 : Int32)])), (q_5, .inr (4, [.null, .null, .int (0 : Int32)]))] H := hP
  have hD : va_D A [(h0, .inr (0, [.null, .null, .int (0 : Int32)])), (q_5, .inr (4, [.null, .null, .int (0 : Int32)]))] := hD
  refine W.widen (k := 1) (n := 3) (by omega) (by omega) ?_
  refine lv_dup hx hb dX0_init_8 rfl ?_
  refine lv_sipush (v := 4096) hx hb dX0_init_9 (by decide) ?_
  have hPc := hP.sub (ws' := [(q_5, .inr (4, [.null, .null, .int (0 : Int32)]))]) [1] rfl
  have hDc := hD.sub (ws' := [(q_5, .inr (4, [.null, .null, .int (0 : Int32)]))]) [1] (by decide) rfl
  have hKc := hK.sub (tys' := [(cI, .int)]) [0] rfl
  have hFc := va_free (wc := [(q_5, .inr (4, [.null, .null, .int (0 : Int32)]))]) hD hS hA [1] rfl
  refine mx_call (va_runI (As := [.int (4096 : Int32)]) (rest := [.ref q_5, .ref h0]) ⟨hx, hb, hml, hown, hts⟩ (c_X4_init_4096 l D H.size q_5 cI ) (cwI 1 hts gX0_init_X4_init rfl rfl rfl (hts (.initialized RX4) (by decide +kernel)) (hts (.methodLink RX0 11 yX4_init) (by decide +kernel)) (hts (.instanceMethod yX4_init) (by decide +kernel)) rfl (by decide +kernel) ⟨Nat.le_of_ble_eq_true rfl, Nat.le_of_ble_eq_true rfl⟩) ⟨mu_bl, fun U hU hW => ⟨rfl, by rw [hU], by rw [hU]; exact hPc, va_K.moved hW.alike hKc, hDc.weaken (fun _ _ _ _ => trivial)⟩⟩ rfl rfl hl.1 rfl (lv_room (Nat.le_of_ble_eq_true rfl)) dX0_init_12 ⟨Nat.le_of_ble_eq_true rfl, Nat.le_of_ble_eq_true rfl⟩) hS (fun q _ h => hFc q h) hFc (fun u_ H1 locs hq_ hP1 hD1 hk1 hS => ?_)
  obtain ⟨hp, hc⟩ := u_
  have hP1 : va_P D vwCl [(q_5, .inr (4, [.ref hp, .ref hc, .int (nI 0)])), (hp, .inl (cI, 4096, .inl (fun i_ => nI ((fun _ => 0) i_)))), (hc, .inl (cI, 4096, .inl (fun i_ => nI ((fun _ => 0) i_))))] H1 := hP1
  have hD1 : va_D (va_A [(q_5, .inr (4, [.null, .null, .int (0 : Int32)]))] H.size) [(q_5, .inr (4, [.ref hp, .ref hc, .int (nI 0)])), (hp, .inl (cI, 4096, .inl (fun i_ => nI ((fun _ => 0) i_)))), (hc, .inl (cI, 4096, .inl (fun i_ => nI ((fun _ => 0) i_))))] := hD1
  obtain ⟨hP, hD⟩ := va_join (wr := [(h0, .inr (0, [.null, .null, .int (0 : Int32)]))]) (w1 := [(q_5, .inr (4, [.ref hp, .ref hc, .int (nI 0)])), (hp, .inl (cI, 4096, .inl (fun i_ => nI ((fun _ => 0) i_)))), (hc, .inl (cI, 4096, .inl (fun i_ => nI ((fun _ => 0) i_))))]) hP hD [1] [0] rfl rfl (by decide) (by decide) hk1 hFc hP1 hD1
  generalize H1 = H at hP hS ⊢
  have hP : va_P D vwCl [(h0, .inr (0, [.null, .null, .int (0 : Int32)])), (q_5, .inr (4, [.ref hp, .ref hc, .int (nI 0)])), (hp, .inl (cI, 4096, .inl (fun i_ => nI ((fun _ => 0) i_)))), (hc, .inl (cI, 4096, .inl (fun i_ => nI ((fun _ => 0) i_))))] H := hP
  have hD : va_D A [(h0, .inr (0, [.null, .null, .int (0 : Int32)])), (q_5, .inr (4, [.ref hp, .ref hc, .int (nI 0)])), (hp, .inl (cI, 4096, .inl (fun i_ => nI ((fun _ => 0) i_)))), (hc, .inl (cI, 4096, .inl (fun i_ => nI ((fun _ => 0) i_))))] := hD
  refine W.widen (k := 3) (n := 8195) (by omega) (by omega) ?_
  refine va_putF (D := D) (ci := 0) (v := .ref q_5) (ty := (.object "ConceptTable$Rules")) (C := RX0) (T := TX0) (N := 3) hx hb hts (by decide +kernel) tyX0 tyX0_ok nmX0 hown hK hP hD hS 0 rfl rfl 0 (by decide) (hts (.fieldLink RX0 14 "ConceptTable$Base" "rules" "LConceptTable$Rules;") (by decide +kernel)) (fun _ h9 => h9) rfl hin rfl (by decide +kernel) rfl rfl (Nat.le_of_ble_eq_true rfl) dX0_init_15 (fun H locs hP hD hS => ?_)
  have hP : va_P D vwCl [(h0, .inr (0, [.ref q_5, .null, .int (0 : Int32)])), (q_5, .inr (4, [.ref hp, .ref hc, .int (nI 0)])), (hp, .inl (cI, 4096, .inl (fun i_ => nI ((fun _ => 0) i_)))), (hc, .inl (cI, 4096, .inl (fun i_ => nI ((fun _ => 0) i_))))] H := hP
  have hD : va_D A [(h0, .inr (0, [.ref q_5, .null, .int (0 : Int32)])), (q_5, .inr (4, [.ref hp, .ref hc, .int (nI 0)])), (hp, .inl (cI, 4096, .inl (fun i_ => nI ((fun _ => 0) i_)))), (hc, .inl (cI, 4096, .inl (fun i_ => nI ((fun _ => 0) i_))))] := hD
  refine lv_aload_n hx hb dX0_init_18 rfl (lv_at hl 0 rfl) ?_
  refine lv_sipush (v := 4096) hx hb dX0_init_19 (by decide) ?_
  refine na_int hx hb (hts (.arrayClass .int) (by decide +kernel)) hK 0 rfl hP hD hS hA (n := (4096 : Int32)) (N' := 4096) (by decide) (by decide) (Nat.le_of_ble_eq_true rfl) (Nat.le_of_ble_eq_true rfl) (Nat.le_of_ble_eq_true rfl) dX0_init_22 (fun q_22 H hP hD hS => ?_)
  have hP : va_P D vwCl [(h0, .inr (0, [.ref q_5, .null, .int (0 : Int32)])), (q_5, .inr (4, [.ref hp, .ref hc, .int (nI 0)])), (hp, .inl (cI, 4096, .inl (fun i_ => nI ((fun _ => 0) i_)))), (hc, .inl (cI, 4096, .inl (fun i_ => nI ((fun _ => 0) i_)))), (q_22, .inl (cI, 4096, .inl (fun i_ => nI ((fun _ => 0) i_))))] H := hP
  have hD : va_D A [(h0, .inr (0, [.ref q_5, .null, .int (0 : Int32)])), (q_5, .inr (4, [.ref hp, .ref hc, .int (nI 0)])), (hp, .inl (cI, 4096, .inl (fun i_ => nI ((fun _ => 0) i_)))), (hc, .inl (cI, 4096, .inl (fun i_ => nI ((fun _ => 0) i_)))), (q_22, .inl (cI, 4096, .inl (fun i_ => nI ((fun _ => 0) i_))))] := hD
  refine W.widen (k := 4) (n := 12291) (by omega) (by omega) ?_
  refine va_putF (D := D) (ci := 0) (v := .ref q_22) (ty := (.array .int)) (C := RX0) (T := TX0) (N := 3) hx hb hts (by decide +kernel) tyX0 tyX0_ok nmX0 hown hK hP hD hS 0 rfl rfl 1 (by decide) (hts (.fieldLink RX0 20 "ConceptTable$Base" "joined" "[I") (by decide +kernel)) (fun _ h9 => h9) rfl hin rfl (by decide +kernel) rfl rfl (Nat.le_of_ble_eq_true rfl) dX0_init_24 (fun H locs hP hD hS => ?_)
  have hP : va_P D vwCl [(h0, .inr (0, [.ref q_5, .ref q_22, .int (0 : Int32)])), (q_5, .inr (4, [.ref hp, .ref hc, .int (nI 0)])), (hp, .inl (cI, 4096, .inl (fun i_ => nI ((fun _ => 0) i_)))), (hc, .inl (cI, 4096, .inl (fun i_ => nI ((fun _ => 0) i_)))), (q_22, .inl (cI, 4096, .inl (fun i_ => nI ((fun _ => 0) i_))))] H := hP
  have hD : va_D A [(h0, .inr (0, [.ref q_5, .ref q_22, .int (0 : Int32)])), (q_5, .inr (4, [.ref hp, .ref hc, .int (nI 0)])), (hp, .inl (cI, 4096, .inl (fun i_ => nI ((fun _ => 0) i_)))), (hc, .inl (cI, 4096, .inl (fun i_ => nI ((fun _ => 0) i_)))), (q_22, .inl (cI, 4096, .inl (fun i_ => nI ((fun _ => 0) i_))))] := hD
  have hP := hP.sub (ws' := [(h0, .inr (0, [.ref q_5, .ref q_22, .int (0 : Int32)])), (q_5, .inr (4, [.ref hp, .ref hc, .int (nI 0)])), (hp, .inl (cI, 4096, .inl (fun i_ => nI ((fun _ => 0) i_)))), (hc, .inl (cI, 4096, .inl (fun i_ => nI ((fun _ => 0) i_)))), (q_22, .inl (cI, 4096, .inl (fun i_ => nI ((fun _ => 0) i_))))]) [0, 1, 2, 3, 4] rfl
  have hD := hD.sub (ws' := [(h0, .inr (0, [.ref q_5, .ref q_22, .int (0 : Int32)])), (q_5, .inr (4, [.ref hp, .ref hc, .int (nI 0)])), (hp, .inl (cI, 4096, .inl (fun i_ => nI ((fun _ => 0) i_)))), (hc, .inl (cI, 4096, .inl (fun i_ => nI ((fun _ => 0) i_)))), (q_22, .inl (cI, 4096, .inl (fun i_ => nI ((fun _ => 0) i_))))]) [0, 1, 2, 3, 4] (by decide) rfl
  exact W.vret hx hb hr (fun t ht hW => ⟨⟨(q_5, hp, hc, q_22), rfl, trivial, by rw [ht]; exact hP, hD⟩, hS.F ht⟩) hS.2.2 dX0_init_27

set_option maxHeartbeats 4000000 in
set_option maxRecDepth 100000 in
theorem c_X7_init (l : Launch) (D : va_G) (sz : Nat) (h0 : Nat) (cI : ClassId)  : Met l yX7_init wsX7_init ({ frames := 5, cells := 16, slots := 21566, locals := 106 }) (va_Pc [.ref h0] (fun U => U.heap.size = sz ∧ va_P D vwCl [(h0, .inr (6, [.null, .null, .null, .null, .null]))] U.heap ∧ va_K D vwCl [(cI, .int)] U ∧ va_D (fun _ => True) [(h0, .inr (6, [.null, .null, .null, .null, .null]))] ∧ NW U)) (mxQ (fun u_ : Nat × Nat × Nat × Nat × Nat × Nat × Nat × Nat × Nat × Nat × Nat × Nat × Nat × Nat × Nat × Nat × Nat × Bool × (Nat → Nat) × (Nat → Option Nat) => match u_ with | (ht, hro, hnb, hfd, hiq, hag, hai, hac, hf, hme, hle, hbs, hru, hpr, hcn, hjo, z', ar', mem', g') => none) (fun u_ : Nat × Nat × Nat × Nat × Nat × Nat × Nat × Nat × Nat × Nat × Nat × Nat × Nat × Nat × Nat × Nat × Nat × Bool × (Nat → Nat) × (Nat → Option Nat) => match u_ with | (ht, hro, hnb, hfd, hiq, hag, hai, hac, hf, hme, hle, hbs, hru, hpr, hcn, hjo, z', ar', mem', g') => (FamOK 6 g' mem' z') ∧ (∀ x, x < 2 ^ 6 → (gB g' x = true ↔ x = 2 ^ 6 - 1)) ∧ (ar' = false)) (fun u_ : Nat × Nat × Nat × Nat × Nat × Nat × Nat × Nat × Nat × Nat × Nat × Nat × Nat × Nat × Nat × Nat × Nat × Bool × (Nat → Nat) × (Nat → Option Nat) => match u_ with | (ht, hro, hnb, hfd, hiq, hag, hai, hac, hf, hme, hle, hbs, hru, hpr, hcn, hjo, z', ar', mem', g') => [(h0, .inr (6, [.ref ht, .ref hnb, .ref hiq, .ref hf, .ref hbs])), (ht, .inr (5, [.ref hro, .int (nI 6), .int (nI 0)])), (hro, .inl (cI, 20, .inl (fun i_ => nI ((fun _ => 0) i_)))), (hnb, .inr (3, [.ref hfd, .int (nI 0)])), (hfd, .inl (cI, 20, .inl (fun i_ => nI ((fun _ => 0) i_)))), (hiq, .inr (2, [.ref hag, .int (b2 false), .int (-1 : Int32)])), (hag, .inr (4, [.ref hai, .ref hac, .int (nI 0)])), (hai, .inl (cI, 512, .inl (fun i_ => nI ((fun _ => 0) i_)))), (hac, .inl (cI, 512, .inl (fun i_ => nI ((fun _ => 0) i_)))), (hf, .inr (1, [.ref hme, .ref hle, .int (nI 6), .int (nI z'), .int (b2 ar')])), (hme, .inl (cI, 4096, .inl (fun i_ => nI (mem' i_)))), (hle, .inl (cI, 4096, .inl (fun i_ => lvO (g' i_)))), (hbs, .inr (0, [.ref hru, .ref hjo, .int (b2 false)])), (hru, .inr (4, [.ref hpr, .ref hcn, .int (nI 0)])), (hpr, .inl (cI, 4096, .inl (fun i_ => nI ((fun _ => 0) i_)))), (hcn, .inl (cI, 4096, .inl (fun i_ => nI ((fun _ => 0) i_)))), (hjo, .inl (cI, 4096, .inl (fun i_ => nI ((fun _ => 0) i_))))]) D vwCl (va_A [(h0, .inr (6, [.null, .null, .null, .null, .null]))] sz)) 16 21566 (va_A [(h0, .inr (6, [.null, .null, .null, .null, .null]))] sz) := by
  refine Met.ofW (cc := cX7_init) (maxL := 1) (ret := none) (by decide) rfl ?_
  intro p e s m args below meth c s₁ B hml hv
  obtain ⟨rfl, hsz, hP, hK, hD0, hNW⟩ := hv
  have hx := B.exec
  have hb := B.bytes
  have hr := B.returns
  have hts := atoms_spec (ws := wsX7_init) B.pre
  have hown : s.vm.findClass RX7 = some m.cls := findClass_of_methodNamed B.named
  have hlocks := B.notSynchronized
  have hin : meth.name = "<init>" := (name_of_methodNamed B.named B.method).1
  subst hsz
  have hD := hD0.self (sz := s.heap.size)
  generalize hAe : va_A [(h0, .inr (6, [.null, .null, .null, .null, .null]))] s.heap.size = A at hD ⊢
  have hA : ∀ q : Nat, s.heap.size ≤ q → A q := fun q h => by rw [← hAe]; exact Or.inr h
  have hS : va_S A s.heap s.heap [] := va_S.rf
  have hl := lv_entry ([.ref h0]) (n := 1) (Nat.le_of_ble_eq_true rfl)
  rw [lg_entry_eq]
  generalize (lg_sl ([.ref h0]) ++ List.replicate (1 - (lg_sl ([.ref h0])).length) Slot.unset).toArray = ls at hl ⊢
  have hl : lv_has ls 1 [(0, .ref h0)] := hl
  refine lv_aload_n hx hb dX7_init_0 rfl (lv_at hl 0 rfl) ?_
  refine W.objInit hx hb hown (hts (.methodLink RX7 3 objectInit) (by decide +kernel)) (hts (.instanceMethod objectInit) (by decide +kernel)) (hts (.code objectInit ⟨#[0xb1]⟩ 1 none) (by decide +kernel)) rfl (by rw [hml]; exact hl.1) rfl dX7_init_1 (Nat.le_of_ble_eq_true rfl) (Nat.le_of_ble_eq_true rfl) ?_
  refine W.eq (g2 := F0 m 4 ls []) rfl ?_
  refine lv_aload_n hx hb dX7_init_4 rfl (lv_at hl 0 rfl) ?_
  refine va_new (ci := 5) (fs := [.null, .int (0 : Int32), .int (0 : Int32)]) (C := RX6) (T := TX6) (N := 3) hx hb hts (by decide +kernel) tyX6 tyX6_ok hown (hts (.classLink RX7 9 RX6) (by decide +kernel)) (hts (.instantiable RX6 3) (by decide +kernel)) (hts (.initialized RX6) (by decide +kernel)) hK hP hD hS hA rfl (fun j hj => by rcases (show j = 0 ∨ j = 1 ∨ j = 2 by omega) with rfl | rfl | rfl <;> rfl) (Nat.le_of_ble_eq_true rfl) (Nat.le_of_ble_eq_true rfl) dX7_init_5 (fun q_5 H hP hD hS => ?_)
  have hP : va_P D vwCl [(h0, .inr (6, [.null, .null, .null, .null, .null])), (q_5, .inr (5, [.null, .int (0 : Int32), .int (0 : Int32)]))] H := hP
  have hD : va_D A [(h0, .inr (6, [.null, .null, .null, .null, .null])), (q_5, .inr (5, [.null, .int (0 : Int32), .int (0 : Int32)]))] := hD
  refine W.widen (k := 1) (n := 3) (by omega) (by omega) ?_
  refine lv_dup hx hb dX7_init_8 rfl ?_
  have hPc := hP.sub (ws' := [(q_5, .inr (5, [.null, .int (0 : Int32), .int (0 : Int32)]))]) [1] rfl
  have hDc := hD.sub (ws' := [(q_5, .inr (5, [.null, .int (0 : Int32), .int (0 : Int32)]))]) [1] (by decide) rfl
  have hKc := hK.sub (tys' := [(cI, .int)]) [0] rfl
  have hFc := va_free (wc := [(q_5, .inr (5, [.null, .int (0 : Int32), .int (0 : Int32)]))]) hD hS hA [1] rfl
  refine mx_call (va_runIN (As := []) (rest := [.ref q_5, .ref h0]) ⟨hx, hb, hml, hown, hts⟩ (c_X6_init l D H.size q_5 cI ) ⟨va_cnB 0 hts gX7_init_X6_init_n11 rfl rfl rfl (NW_m11 hNW) (hts (.initialized RX6) (by decide +kernel)) (by decide +kernel) ⟨Nat.le_of_ble_eq_true rfl, Nat.le_of_ble_eq_true rfl⟩, rfl, (hts (.instanceMethod yX6_init) (by decide +kernel))⟩ ⟨mu_bl, fun U hU hW => ⟨rfl, by rw [hU], by rw [hU]; exact hPc, va_K.moved hW.alike hKc, hDc.weaken (fun _ _ _ _ => trivial)⟩⟩ rfl rfl hl.1 rfl (lv_room (Nat.le_of_ble_eq_true rfl)) dX7_init_9 ⟨Nat.le_of_ble_eq_true rfl, Nat.le_of_ble_eq_true rfl⟩) hS (fun q _ h => hFc q h) hFc (fun u_ H1 locs hq_ hP1 hD1 hk1 hS => ?_)
  obtain ⟨hro, rfl⟩ : ∃ z_, z_ = u_ := ⟨_, rfl⟩
  have hP1 : va_P D vwCl [(q_5, .inr (5, [.ref hro, .int (nI 0), .int (nI 0)])), (hro, .inl (cI, 20, .inl (fun i_ => nI ((fun _ => 0) i_))))] H1 := hP1
  have hD1 : va_D (va_A [(q_5, .inr (5, [.null, .int (0 : Int32), .int (0 : Int32)]))] H.size) [(q_5, .inr (5, [.ref hro, .int (nI 0), .int (nI 0)])), (hro, .inl (cI, 20, .inl (fun i_ => nI ((fun _ => 0) i_))))] := hD1
  obtain ⟨hP, hD⟩ := va_join (wr := [(h0, .inr (6, [.null, .null, .null, .null, .null]))]) (w1 := [(q_5, .inr (5, [.ref hro, .int (nI 0), .int (nI 0)])), (hro, .inl (cI, 20, .inl (fun i_ => nI ((fun _ => 0) i_))))]) hP hD [1] [0] rfl rfl (by decide) (by decide) hk1 hFc hP1 hD1
  generalize H1 = H at hP hS ⊢
  have hP : va_P D vwCl [(h0, .inr (6, [.null, .null, .null, .null, .null])), (q_5, .inr (5, [.ref hro, .int (nI 0), .int (nI 0)])), (hro, .inl (cI, 20, .inl (fun i_ => nI ((fun _ => 0) i_))))] H := hP
  have hD : va_D A [(h0, .inr (6, [.null, .null, .null, .null, .null])), (q_5, .inr (5, [.ref hro, .int (nI 0), .int (nI 0)])), (hro, .inl (cI, 20, .inl (fun i_ => nI ((fun _ => 0) i_))))] := hD
  refine W.widen (k := 2) (n := 23) (by omega) (by omega) ?_
  refine va_putF (D := D) (ci := 6) (v := .ref q_5) (ty := (.object "ConceptTable$Table")) (C := RX7) (T := TX7) (N := 5) hx hb hts (by decide +kernel) tyX7 tyX7_ok nmX7 hown hK hP hD hS 0 rfl rfl 0 (by decide) (hts (.fieldLink RX7 12 "ConceptTable" "table" "LConceptTable$Table;") (by decide +kernel)) (fun _ h9 => h9) rfl hin rfl (by decide +kernel) rfl rfl (Nat.le_of_ble_eq_true rfl) dX7_init_12 (fun H locs hP hD hS => ?_)
  have hP : va_P D vwCl [(h0, .inr (6, [.ref q_5, .null, .null, .null, .null])), (q_5, .inr (5, [.ref hro, .int (nI 0), .int (nI 0)])), (hro, .inl (cI, 20, .inl (fun i_ => nI ((fun _ => 0) i_))))] H := hP
  have hD : va_D A [(h0, .inr (6, [.ref q_5, .null, .null, .null, .null])), (q_5, .inr (5, [.ref hro, .int (nI 0), .int (nI 0)])), (hro, .inl (cI, 20, .inl (fun i_ => nI ((fun _ => 0) i_))))] := hD
  refine lv_aload_n hx hb dX7_init_15 rfl (lv_at hl 0 rfl) ?_
  refine va_new (ci := 3) (fs := [.null, .int (0 : Int32)]) (C := RX3) (T := TX3) (N := 2) hx hb hts (by decide +kernel) tyX3 tyX3_ok hown (hts (.classLink RX7 16 RX3) (by decide +kernel)) (hts (.instantiable RX3 2) (by decide +kernel)) (hts (.initialized RX3) (by decide +kernel)) hK hP hD hS hA rfl (fun j hj => by rcases (show j = 0 ∨ j = 1 by omega) with rfl | rfl <;> rfl) (Nat.le_of_ble_eq_true rfl) (Nat.le_of_ble_eq_true rfl) dX7_init_16 (fun q_16 H hP hD hS => ?_)
  have hP : va_P D vwCl [(h0, .inr (6, [.ref q_5, .null, .null, .null, .null])), (q_5, .inr (5, [.ref hro, .int (nI 0), .int (nI 0)])), (hro, .inl (cI, 20, .inl (fun i_ => nI ((fun _ => 0) i_)))), (q_16, .inr (3, [.null, .int (0 : Int32)]))] H := hP
  have hD : va_D A [(h0, .inr (6, [.ref q_5, .null, .null, .null, .null])), (q_5, .inr (5, [.ref hro, .int (nI 0), .int (nI 0)])), (hro, .inl (cI, 20, .inl (fun i_ => nI ((fun _ => 0) i_)))), (q_16, .inr (3, [.null, .int (0 : Int32)]))] := hD
  refine W.widen (k := 3) (n := 25) (by omega) (by omega) ?_
  refine lv_dup hx hb dX7_init_19 rfl ?_
  have hPc := hP.sub (ws' := [(q_16, .inr (3, [.null, .int (0 : Int32)]))]) [3] rfl
  have hDc := hD.sub (ws' := [(q_16, .inr (3, [.null, .int (0 : Int32)]))]) [3] (by decide) rfl
  have hKc := hK.sub (tys' := [(cI, .int)]) [0] rfl
  have hFc := va_free (wc := [(q_16, .inr (3, [.null, .int (0 : Int32)]))]) hD hS hA [3] rfl
  refine mx_call (va_runIN (As := []) (rest := [.ref q_16, .ref h0]) ⟨hx, hb, hml, hown, hts⟩ (c_X3_init l D H.size q_16 cI ) ⟨va_cnB 0 hts gX7_init_X3_init_n18 rfl rfl rfl (NW_m18 hNW) (hts (.initialized RX3) (by decide +kernel)) (by decide +kernel) ⟨Nat.le_of_ble_eq_true rfl, Nat.le_of_ble_eq_true rfl⟩, rfl, (hts (.instanceMethod yX3_init) (by decide +kernel))⟩ ⟨mu_bl, fun U hU hW => ⟨rfl, by rw [hU], by rw [hU]; exact hPc, va_K.moved hW.alike hKc, hDc.weaken (fun _ _ _ _ => trivial)⟩⟩ rfl rfl hl.1 rfl (lv_room (Nat.le_of_ble_eq_true rfl)) dX7_init_20 ⟨Nat.le_of_ble_eq_true rfl, Nat.le_of_ble_eq_true rfl⟩) hS (fun q _ h => hFc q h) hFc (fun u_ H1 locs hq_ hP1 hD1 hk1 hS => ?_)
  obtain ⟨hfd, rfl⟩ : ∃ z_, z_ = u_ := ⟨_, rfl⟩
  have hP1 : va_P D vwCl [(q_16, .inr (3, [.ref hfd, .int (nI 0)])), (hfd, .inl (cI, 20, .inl (fun i_ => nI ((fun _ => 0) i_))))] H1 := hP1
  have hD1 : va_D (va_A [(q_16, .inr (3, [.null, .int (0 : Int32)]))] H.size) [(q_16, .inr (3, [.ref hfd, .int (nI 0)])), (hfd, .inl (cI, 20, .inl (fun i_ => nI ((fun _ => 0) i_))))] := hD1
  obtain ⟨hP, hD⟩ := va_join (wr := [(h0, .inr (6, [.ref q_5, .null, .null, .null, .null])), (q_5, .inr (5, [.ref hro, .int (nI 0), .int (nI 0)])), (hro, .inl (cI, 20, .inl (fun i_ => nI ((fun _ => 0) i_))))]) (w1 := [(q_16, .inr (3, [.ref hfd, .int (nI 0)])), (hfd, .inl (cI, 20, .inl (fun i_ => nI ((fun _ => 0) i_))))]) hP hD [3] [0, 1, 2] rfl rfl (by decide) (by decide) hk1 hFc hP1 hD1
  generalize H1 = H at hP hS ⊢
  have hP : va_P D vwCl [(h0, .inr (6, [.ref q_5, .null, .null, .null, .null])), (q_5, .inr (5, [.ref hro, .int (nI 0), .int (nI 0)])), (hro, .inl (cI, 20, .inl (fun i_ => nI ((fun _ => 0) i_)))), (q_16, .inr (3, [.ref hfd, .int (nI 0)])), (hfd, .inl (cI, 20, .inl (fun i_ => nI ((fun _ => 0) i_))))] H := hP
  have hD : va_D A [(h0, .inr (6, [.ref q_5, .null, .null, .null, .null])), (q_5, .inr (5, [.ref hro, .int (nI 0), .int (nI 0)])), (hro, .inl (cI, 20, .inl (fun i_ => nI ((fun _ => 0) i_)))), (q_16, .inr (3, [.ref hfd, .int (nI 0)])), (hfd, .inl (cI, 20, .inl (fun i_ => nI ((fun _ => 0) i_))))] := hD
  refine W.widen (k := 4) (n := 45) (by omega) (by omega) ?_
  refine va_putF (D := D) (ci := 6) (v := .ref q_16) (ty := (.object "ConceptTable$Neighbours")) (C := RX7) (T := TX7) (N := 5) hx hb hts (by decide +kernel) tyX7 tyX7_ok nmX7 hown hK hP hD hS 0 rfl rfl 1 (by decide) (hts (.fieldLink RX7 19 "ConceptTable" "neighbours" "LConceptTable$Neighbours;") (by decide +kernel)) (fun _ h9 => h9) rfl hin rfl (by decide +kernel) rfl rfl (Nat.le_of_ble_eq_true rfl) dX7_init_23 (fun H locs hP hD hS => ?_)
  have hP : va_P D vwCl [(h0, .inr (6, [.ref q_5, .ref q_16, .null, .null, .null])), (q_5, .inr (5, [.ref hro, .int (nI 0), .int (nI 0)])), (hro, .inl (cI, 20, .inl (fun i_ => nI ((fun _ => 0) i_)))), (q_16, .inr (3, [.ref hfd, .int (nI 0)])), (hfd, .inl (cI, 20, .inl (fun i_ => nI ((fun _ => 0) i_))))] H := hP
  have hD : va_D A [(h0, .inr (6, [.ref q_5, .ref q_16, .null, .null, .null])), (q_5, .inr (5, [.ref hro, .int (nI 0), .int (nI 0)])), (hro, .inl (cI, 20, .inl (fun i_ => nI ((fun _ => 0) i_)))), (q_16, .inr (3, [.ref hfd, .int (nI 0)])), (hfd, .inl (cI, 20, .inl (fun i_ => nI ((fun _ => 0) i_))))] := hD
  refine lv_aload_n hx hb dX7_init_26 rfl (lv_at hl 0 rfl) ?_
  refine va_new (ci := 2) (fs := [.null, .int (0 : Int32), .int (0 : Int32)]) (C := RX2) (T := TX2) (N := 3) hx hb hts (by decide +kernel) tyX2 tyX2_ok hown (hts (.classLink RX7 23 RX2) (by decide +kernel)) (hts (.instantiable RX2 3) (by decide +kernel)) (hts (.initialized RX2) (by decide +kernel)) hK hP hD hS hA rfl (fun j hj => by rcases (show j = 0 ∨ j = 1 ∨ j = 2 by omega) with rfl | rfl | rfl <;> rfl) (Nat.le_of_ble_eq_true rfl) (Nat.le_of_ble_eq_true rfl) dX7_init_27 (fun q_27 H hP hD hS => ?_)
  have hP : va_P D vwCl [(h0, .inr (6, [.ref q_5, .ref q_16, .null, .null, .null])), (q_5, .inr (5, [.ref hro, .int (nI 0), .int (nI 0)])), (hro, .inl (cI, 20, .inl (fun i_ => nI ((fun _ => 0) i_)))), (q_16, .inr (3, [.ref hfd, .int (nI 0)])), (hfd, .inl (cI, 20, .inl (fun i_ => nI ((fun _ => 0) i_)))), (q_27, .inr (2, [.null, .int (0 : Int32), .int (0 : Int32)]))] H := hP
  have hD : va_D A [(h0, .inr (6, [.ref q_5, .ref q_16, .null, .null, .null])), (q_5, .inr (5, [.ref hro, .int (nI 0), .int (nI 0)])), (hro, .inl (cI, 20, .inl (fun i_ => nI ((fun _ => 0) i_)))), (q_16, .inr (3, [.ref hfd, .int (nI 0)])), (hfd, .inl (cI, 20, .inl (fun i_ => nI ((fun _ => 0) i_)))), (q_27, .inr (2, [.null, .int (0 : Int32), .int (0 : Int32)]))] := hD
  refine W.widen (k := 5) (n := 48) (by omega) (by omega) ?_
  refine lv_dup hx hb dX7_init_30 rfl ?_
  have hPc := hP.sub (ws' := [(q_27, .inr (2, [.null, .int (0 : Int32), .int (0 : Int32)]))]) [5] rfl
  have hDc := hD.sub (ws' := [(q_27, .inr (2, [.null, .int (0 : Int32), .int (0 : Int32)]))]) [5] (by decide) rfl
  have hKc := hK.sub (tys' := [(cI, .int)]) [0] rfl
  have hFc := va_free (wc := [(q_27, .inr (2, [.null, .int (0 : Int32), .int (0 : Int32)]))]) hD hS hA [5] rfl
  refine mx_call (va_runIN (As := []) (rest := [.ref q_27, .ref h0]) ⟨hx, hb, hml, hown, hts⟩ (c_X2_init l D H.size q_27 cI ) ⟨va_cnB 0 hts gX7_init_X2_init_n25 rfl rfl rfl (NW_m25 hNW) (hts (.initialized RX2) (by decide +kernel)) (by decide +kernel) ⟨Nat.le_of_ble_eq_true rfl, Nat.le_of_ble_eq_true rfl⟩, rfl, (hts (.instanceMethod yX2_init) (by decide +kernel))⟩ ⟨mu_bl, fun U hU hW => ⟨rfl, by rw [hU], by rw [hU]; exact hPc, va_K.moved hW.alike hKc, hDc.weaken (fun _ _ _ _ => trivial)⟩⟩ rfl rfl hl.1 rfl (lv_room (Nat.le_of_ble_eq_true rfl)) dX7_init_31 ⟨Nat.le_of_ble_eq_true rfl, Nat.le_of_ble_eq_true rfl⟩) hS (fun q _ h => hFc q h) hFc (fun u_ H1 locs hq_ hP1 hD1 hk1 hS => ?_)
  obtain ⟨hag, hai, hac⟩ := u_
  have hP1 : va_P D vwCl [(q_27, .inr (2, [.ref hag, .int (b2 false), .int (-1 : Int32)])), (hag, .inr (4, [.ref hai, .ref hac, .int (nI 0)])), (hai, .inl (cI, 512, .inl (fun i_ => nI ((fun _ => 0) i_)))), (hac, .inl (cI, 512, .inl (fun i_ => nI ((fun _ => 0) i_))))] H1 := hP1
  have hD1 : va_D (va_A [(q_27, .inr (2, [.null, .int (0 : Int32), .int (0 : Int32)]))] H.size) [(q_27, .inr (2, [.ref hag, .int (b2 false), .int (-1 : Int32)])), (hag, .inr (4, [.ref hai, .ref hac, .int (nI 0)])), (hai, .inl (cI, 512, .inl (fun i_ => nI ((fun _ => 0) i_)))), (hac, .inl (cI, 512, .inl (fun i_ => nI ((fun _ => 0) i_))))] := hD1
  obtain ⟨hP, hD⟩ := va_join (wr := [(h0, .inr (6, [.ref q_5, .ref q_16, .null, .null, .null])), (q_5, .inr (5, [.ref hro, .int (nI 0), .int (nI 0)])), (hro, .inl (cI, 20, .inl (fun i_ => nI ((fun _ => 0) i_)))), (q_16, .inr (3, [.ref hfd, .int (nI 0)])), (hfd, .inl (cI, 20, .inl (fun i_ => nI ((fun _ => 0) i_))))]) (w1 := [(q_27, .inr (2, [.ref hag, .int (b2 false), .int (-1 : Int32)])), (hag, .inr (4, [.ref hai, .ref hac, .int (nI 0)])), (hai, .inl (cI, 512, .inl (fun i_ => nI ((fun _ => 0) i_)))), (hac, .inl (cI, 512, .inl (fun i_ => nI ((fun _ => 0) i_))))]) hP hD [5] [0, 1, 2, 3, 4] rfl rfl (by decide) (by decide) hk1 hFc hP1 hD1
  generalize H1 = H at hP hS ⊢
  have hP : va_P D vwCl [(h0, .inr (6, [.ref q_5, .ref q_16, .null, .null, .null])), (q_5, .inr (5, [.ref hro, .int (nI 0), .int (nI 0)])), (hro, .inl (cI, 20, .inl (fun i_ => nI ((fun _ => 0) i_)))), (q_16, .inr (3, [.ref hfd, .int (nI 0)])), (hfd, .inl (cI, 20, .inl (fun i_ => nI ((fun _ => 0) i_)))), (q_27, .inr (2, [.ref hag, .int (b2 false), .int (-1 : Int32)])), (hag, .inr (4, [.ref hai, .ref hac, .int (nI 0)])), (hai, .inl (cI, 512, .inl (fun i_ => nI ((fun _ => 0) i_)))), (hac, .inl (cI, 512, .inl (fun i_ => nI ((fun _ => 0) i_))))] H := hP
  have hD : va_D A [(h0, .inr (6, [.ref q_5, .ref q_16, .null, .null, .null])), (q_5, .inr (5, [.ref hro, .int (nI 0), .int (nI 0)])), (hro, .inl (cI, 20, .inl (fun i_ => nI ((fun _ => 0) i_)))), (q_16, .inr (3, [.ref hfd, .int (nI 0)])), (hfd, .inl (cI, 20, .inl (fun i_ => nI ((fun _ => 0) i_)))), (q_27, .inr (2, [.ref hag, .int (b2 false), .int (-1 : Int32)])), (hag, .inr (4, [.ref hai, .ref hac, .int (nI 0)])), (hai, .inl (cI, 512, .inl (fun i_ => nI ((fun _ => 0) i_)))), (hac, .inl (cI, 512, .inl (fun i_ => nI ((fun _ => 0) i_))))] := hD
  refine W.widen (k := 8) (n := 1075) (by omega) (by omega) ?_
  refine va_putF (D := D) (ci := 6) (v := .ref q_27) (ty := (.object "ConceptTable$Inquiry")) (C := RX7) (T := TX7) (N := 5) hx hb hts (by decide +kernel) tyX7 tyX7_ok nmX7 hown hK hP hD hS 0 rfl rfl 2 (by decide) (hts (.fieldLink RX7 26 "ConceptTable" "inquiry" "LConceptTable$Inquiry;") (by decide +kernel)) (fun _ h9 => h9) rfl hin rfl (by decide +kernel) rfl rfl (Nat.le_of_ble_eq_true rfl) dX7_init_34 (fun H locs hP hD hS => ?_)
  have hP : va_P D vwCl [(h0, .inr (6, [.ref q_5, .ref q_16, .ref q_27, .null, .null])), (q_5, .inr (5, [.ref hro, .int (nI 0), .int (nI 0)])), (hro, .inl (cI, 20, .inl (fun i_ => nI ((fun _ => 0) i_)))), (q_16, .inr (3, [.ref hfd, .int (nI 0)])), (hfd, .inl (cI, 20, .inl (fun i_ => nI ((fun _ => 0) i_)))), (q_27, .inr (2, [.ref hag, .int (b2 false), .int (-1 : Int32)])), (hag, .inr (4, [.ref hai, .ref hac, .int (nI 0)])), (hai, .inl (cI, 512, .inl (fun i_ => nI ((fun _ => 0) i_)))), (hac, .inl (cI, 512, .inl (fun i_ => nI ((fun _ => 0) i_))))] H := hP
  have hD : va_D A [(h0, .inr (6, [.ref q_5, .ref q_16, .ref q_27, .null, .null])), (q_5, .inr (5, [.ref hro, .int (nI 0), .int (nI 0)])), (hro, .inl (cI, 20, .inl (fun i_ => nI ((fun _ => 0) i_)))), (q_16, .inr (3, [.ref hfd, .int (nI 0)])), (hfd, .inl (cI, 20, .inl (fun i_ => nI ((fun _ => 0) i_)))), (q_27, .inr (2, [.ref hag, .int (b2 false), .int (-1 : Int32)])), (hag, .inr (4, [.ref hai, .ref hac, .int (nI 0)])), (hai, .inl (cI, 512, .inl (fun i_ => nI ((fun _ => 0) i_)))), (hac, .inl (cI, 512, .inl (fun i_ => nI ((fun _ => 0) i_))))] := hD
  refine lv_aload_n hx hb dX7_init_37 rfl (lv_at hl 0 rfl) ?_
  refine va_new (ci := 1) (fs := [.null, .null, .int (0 : Int32), .int (0 : Int32), .int (0 : Int32)]) (C := RX1) (T := TX1) (N := 5) hx hb hts (by decide +kernel) tyX1 tyX1_ok hown (hts (.classLink RX7 30 RX1) (by decide +kernel)) (hts (.instantiable RX1 5) (by decide +kernel)) (hts (.initialized RX1) (by decide +kernel)) hK hP hD hS hA rfl (fun j hj => by rcases (show j = 0 ∨ j = 1 ∨ j = 2 ∨ j = 3 ∨ j = 4 by omega) with rfl | rfl | rfl | rfl | rfl <;> rfl) (Nat.le_of_ble_eq_true rfl) (Nat.le_of_ble_eq_true rfl) dX7_init_38 (fun q_38 H hP hD hS => ?_)
  have hP : va_P D vwCl [(h0, .inr (6, [.ref q_5, .ref q_16, .ref q_27, .null, .null])), (q_5, .inr (5, [.ref hro, .int (nI 0), .int (nI 0)])), (hro, .inl (cI, 20, .inl (fun i_ => nI ((fun _ => 0) i_)))), (q_16, .inr (3, [.ref hfd, .int (nI 0)])), (hfd, .inl (cI, 20, .inl (fun i_ => nI ((fun _ => 0) i_)))), (q_27, .inr (2, [.ref hag, .int (b2 false), .int (-1 : Int32)])), (hag, .inr (4, [.ref hai, .ref hac, .int (nI 0)])), (hai, .inl (cI, 512, .inl (fun i_ => nI ((fun _ => 0) i_)))), (hac, .inl (cI, 512, .inl (fun i_ => nI ((fun _ => 0) i_)))), (q_38, .inr (1, [.null, .null, .int (0 : Int32), .int (0 : Int32), .int (0 : Int32)]))] H := hP
  have hD : va_D A [(h0, .inr (6, [.ref q_5, .ref q_16, .ref q_27, .null, .null])), (q_5, .inr (5, [.ref hro, .int (nI 0), .int (nI 0)])), (hro, .inl (cI, 20, .inl (fun i_ => nI ((fun _ => 0) i_)))), (q_16, .inr (3, [.ref hfd, .int (nI 0)])), (hfd, .inl (cI, 20, .inl (fun i_ => nI ((fun _ => 0) i_)))), (q_27, .inr (2, [.ref hag, .int (b2 false), .int (-1 : Int32)])), (hag, .inr (4, [.ref hai, .ref hac, .int (nI 0)])), (hai, .inl (cI, 512, .inl (fun i_ => nI ((fun _ => 0) i_)))), (hac, .inl (cI, 512, .inl (fun i_ => nI ((fun _ => 0) i_)))), (q_38, .inr (1, [.null, .null, .int (0 : Int32), .int (0 : Int32), .int (0 : Int32)]))] := hD
  refine W.widen (k := 9) (n := 1080) (by omega) (by omega) ?_
  refine lv_dup hx hb dX7_init_41 rfl ?_
  have hPc := hP.sub (ws' := [(q_38, .inr (1, [.null, .null, .int (0 : Int32), .int (0 : Int32), .int (0 : Int32)]))]) [9] rfl
  have hDc := hD.sub (ws' := [(q_38, .inr (1, [.null, .null, .int (0 : Int32), .int (0 : Int32), .int (0 : Int32)]))]) [9] (by decide) rfl
  have hKc := hK.sub (tys' := [(cI, .int)]) [0] rfl
  have hFc := va_free (wc := [(q_38, .inr (1, [.null, .null, .int (0 : Int32), .int (0 : Int32), .int (0 : Int32)]))]) hD hS hA [9] rfl
  refine mx_call (va_runIN (As := []) (rest := [.ref q_38, .ref h0]) ⟨hx, hb, hml, hown, hts⟩ (c_X1_init l D H.size q_38 cI ) ⟨va_cnB 0 hts gX7_init_X1_init_n32 rfl rfl rfl (NW_m32 hNW) (hts (.initialized RX1) (by decide +kernel)) (by decide +kernel) ⟨Nat.le_of_ble_eq_true rfl, Nat.le_of_ble_eq_true rfl⟩, rfl, (hts (.instanceMethod yX1_init) (by decide +kernel))⟩ ⟨mu_bl, fun U hU hW => ⟨rfl, by rw [hU], by rw [hU]; exact hPc, va_K.moved hW.alike hKc, hDc.weaken (fun _ _ _ _ => trivial)⟩⟩ rfl rfl hl.1 rfl (lv_room (Nat.le_of_ble_eq_true rfl)) dX7_init_42 ⟨Nat.le_of_ble_eq_true rfl, Nat.le_of_ble_eq_true rfl⟩) hS (fun q _ h => hFc q h) hFc (fun u_ H1 locs hq_ hP1 hD1 hk1 hS => ?_)
  obtain ⟨hme, hle⟩ := u_
  have hP1 : va_P D vwCl [(q_38, .inr (1, [.ref hme, .ref hle, .int (nI 0), .int (nI 0), .int (b2 false)])), (hme, .inl (cI, 4096, .inl (fun i_ => nI ((fun _ => 0) i_)))), (hle, .inl (cI, 4096, .inl (fun i_ => lvO ((fun _ => some 0) i_))))] H1 := hP1
  have hD1 : va_D (va_A [(q_38, .inr (1, [.null, .null, .int (0 : Int32), .int (0 : Int32), .int (0 : Int32)]))] H.size) [(q_38, .inr (1, [.ref hme, .ref hle, .int (nI 0), .int (nI 0), .int (b2 false)])), (hme, .inl (cI, 4096, .inl (fun i_ => nI ((fun _ => 0) i_)))), (hle, .inl (cI, 4096, .inl (fun i_ => lvO ((fun _ => some 0) i_))))] := hD1
  obtain ⟨hP, hD⟩ := va_join (wr := [(h0, .inr (6, [.ref q_5, .ref q_16, .ref q_27, .null, .null])), (q_5, .inr (5, [.ref hro, .int (nI 0), .int (nI 0)])), (hro, .inl (cI, 20, .inl (fun i_ => nI ((fun _ => 0) i_)))), (q_16, .inr (3, [.ref hfd, .int (nI 0)])), (hfd, .inl (cI, 20, .inl (fun i_ => nI ((fun _ => 0) i_)))), (q_27, .inr (2, [.ref hag, .int (b2 false), .int (-1 : Int32)])), (hag, .inr (4, [.ref hai, .ref hac, .int (nI 0)])), (hai, .inl (cI, 512, .inl (fun i_ => nI ((fun _ => 0) i_)))), (hac, .inl (cI, 512, .inl (fun i_ => nI ((fun _ => 0) i_))))]) (w1 := [(q_38, .inr (1, [.ref hme, .ref hle, .int (nI 0), .int (nI 0), .int (b2 false)])), (hme, .inl (cI, 4096, .inl (fun i_ => nI ((fun _ => 0) i_)))), (hle, .inl (cI, 4096, .inl (fun i_ => lvO ((fun _ => some 0) i_))))]) hP hD [9] [0, 1, 2, 3, 4, 5, 6, 7, 8] rfl rfl (by decide) (by decide) hk1 hFc hP1 hD1
  generalize H1 = H at hP hS ⊢
  have hP : va_P D vwCl [(h0, .inr (6, [.ref q_5, .ref q_16, .ref q_27, .null, .null])), (q_5, .inr (5, [.ref hro, .int (nI 0), .int (nI 0)])), (hro, .inl (cI, 20, .inl (fun i_ => nI ((fun _ => 0) i_)))), (q_16, .inr (3, [.ref hfd, .int (nI 0)])), (hfd, .inl (cI, 20, .inl (fun i_ => nI ((fun _ => 0) i_)))), (q_27, .inr (2, [.ref hag, .int (b2 false), .int (-1 : Int32)])), (hag, .inr (4, [.ref hai, .ref hac, .int (nI 0)])), (hai, .inl (cI, 512, .inl (fun i_ => nI ((fun _ => 0) i_)))), (hac, .inl (cI, 512, .inl (fun i_ => nI ((fun _ => 0) i_)))), (q_38, .inr (1, [.ref hme, .ref hle, .int (nI 0), .int (nI 0), .int (b2 false)])), (hme, .inl (cI, 4096, .inl (fun i_ => nI ((fun _ => 0) i_)))), (hle, .inl (cI, 4096, .inl (fun i_ => lvO ((fun _ => some 0) i_))))] H := hP
  have hD : va_D A [(h0, .inr (6, [.ref q_5, .ref q_16, .ref q_27, .null, .null])), (q_5, .inr (5, [.ref hro, .int (nI 0), .int (nI 0)])), (hro, .inl (cI, 20, .inl (fun i_ => nI ((fun _ => 0) i_)))), (q_16, .inr (3, [.ref hfd, .int (nI 0)])), (hfd, .inl (cI, 20, .inl (fun i_ => nI ((fun _ => 0) i_)))), (q_27, .inr (2, [.ref hag, .int (b2 false), .int (-1 : Int32)])), (hag, .inr (4, [.ref hai, .ref hac, .int (nI 0)])), (hai, .inl (cI, 512, .inl (fun i_ => nI ((fun _ => 0) i_)))), (hac, .inl (cI, 512, .inl (fun i_ => nI ((fun _ => 0) i_)))), (q_38, .inr (1, [.ref hme, .ref hle, .int (nI 0), .int (nI 0), .int (b2 false)])), (hme, .inl (cI, 4096, .inl (fun i_ => nI ((fun _ => 0) i_)))), (hle, .inl (cI, 4096, .inl (fun i_ => lvO ((fun _ => some 0) i_))))] := hD
  refine W.widen (k := 11) (n := 9272) (by omega) (by omega) ?_
  refine va_putF (D := D) (ci := 6) (v := .ref q_38) (ty := (.object "ConceptTable$Family")) (C := RX7) (T := TX7) (N := 5) hx hb hts (by decide +kernel) tyX7 tyX7_ok nmX7 hown hK hP hD hS 0 rfl rfl 3 (by decide) (hts (.fieldLink RX7 33 "ConceptTable" "family" "LConceptTable$Family;") (by decide +kernel)) (fun _ h9 => h9) rfl hin rfl (by decide +kernel) rfl rfl (Nat.le_of_ble_eq_true rfl) dX7_init_45 (fun H locs hP hD hS => ?_)
  have hP : va_P D vwCl [(h0, .inr (6, [.ref q_5, .ref q_16, .ref q_27, .ref q_38, .null])), (q_5, .inr (5, [.ref hro, .int (nI 0), .int (nI 0)])), (hro, .inl (cI, 20, .inl (fun i_ => nI ((fun _ => 0) i_)))), (q_16, .inr (3, [.ref hfd, .int (nI 0)])), (hfd, .inl (cI, 20, .inl (fun i_ => nI ((fun _ => 0) i_)))), (q_27, .inr (2, [.ref hag, .int (b2 false), .int (-1 : Int32)])), (hag, .inr (4, [.ref hai, .ref hac, .int (nI 0)])), (hai, .inl (cI, 512, .inl (fun i_ => nI ((fun _ => 0) i_)))), (hac, .inl (cI, 512, .inl (fun i_ => nI ((fun _ => 0) i_)))), (q_38, .inr (1, [.ref hme, .ref hle, .int (nI 0), .int (nI 0), .int (b2 false)])), (hme, .inl (cI, 4096, .inl (fun i_ => nI ((fun _ => 0) i_)))), (hle, .inl (cI, 4096, .inl (fun i_ => lvO ((fun _ => some 0) i_))))] H := hP
  have hD : va_D A [(h0, .inr (6, [.ref q_5, .ref q_16, .ref q_27, .ref q_38, .null])), (q_5, .inr (5, [.ref hro, .int (nI 0), .int (nI 0)])), (hro, .inl (cI, 20, .inl (fun i_ => nI ((fun _ => 0) i_)))), (q_16, .inr (3, [.ref hfd, .int (nI 0)])), (hfd, .inl (cI, 20, .inl (fun i_ => nI ((fun _ => 0) i_)))), (q_27, .inr (2, [.ref hag, .int (b2 false), .int (-1 : Int32)])), (hag, .inr (4, [.ref hai, .ref hac, .int (nI 0)])), (hai, .inl (cI, 512, .inl (fun i_ => nI ((fun _ => 0) i_)))), (hac, .inl (cI, 512, .inl (fun i_ => nI ((fun _ => 0) i_)))), (q_38, .inr (1, [.ref hme, .ref hle, .int (nI 0), .int (nI 0), .int (b2 false)])), (hme, .inl (cI, 4096, .inl (fun i_ => nI ((fun _ => 0) i_)))), (hle, .inl (cI, 4096, .inl (fun i_ => lvO ((fun _ => some 0) i_))))] := hD
  refine lv_aload_n hx hb dX7_init_48 rfl (lv_at hl 0 rfl) ?_
  refine va_new (ci := 0) (fs := [.null, .null, .int (0 : Int32)]) (C := RX0) (T := TX0) (N := 3) hx hb hts (by decide +kernel) tyX0 tyX0_ok hown (hts (.classLink RX7 37 RX0) (by decide +kernel)) (hts (.instantiable RX0 3) (by decide +kernel)) (hts (.initialized RX0) (by decide +kernel)) hK hP hD hS hA rfl (fun j hj => by rcases (show j = 0 ∨ j = 1 ∨ j = 2 by omega) with rfl | rfl | rfl <;> rfl) (Nat.le_of_ble_eq_true rfl) (Nat.le_of_ble_eq_true rfl) dX7_init_49 (fun q_49 H hP hD hS => ?_)
  have hP : va_P D vwCl [(h0, .inr (6, [.ref q_5, .ref q_16, .ref q_27, .ref q_38, .null])), (q_5, .inr (5, [.ref hro, .int (nI 0), .int (nI 0)])), (hro, .inl (cI, 20, .inl (fun i_ => nI ((fun _ => 0) i_)))), (q_16, .inr (3, [.ref hfd, .int (nI 0)])), (hfd, .inl (cI, 20, .inl (fun i_ => nI ((fun _ => 0) i_)))), (q_27, .inr (2, [.ref hag, .int (b2 false), .int (-1 : Int32)])), (hag, .inr (4, [.ref hai, .ref hac, .int (nI 0)])), (hai, .inl (cI, 512, .inl (fun i_ => nI ((fun _ => 0) i_)))), (hac, .inl (cI, 512, .inl (fun i_ => nI ((fun _ => 0) i_)))), (q_38, .inr (1, [.ref hme, .ref hle, .int (nI 0), .int (nI 0), .int (b2 false)])), (hme, .inl (cI, 4096, .inl (fun i_ => nI ((fun _ => 0) i_)))), (hle, .inl (cI, 4096, .inl (fun i_ => lvO ((fun _ => some 0) i_)))), (q_49, .inr (0, [.null, .null, .int (0 : Int32)]))] H := hP
  have hD : va_D A [(h0, .inr (6, [.ref q_5, .ref q_16, .ref q_27, .ref q_38, .null])), (q_5, .inr (5, [.ref hro, .int (nI 0), .int (nI 0)])), (hro, .inl (cI, 20, .inl (fun i_ => nI ((fun _ => 0) i_)))), (q_16, .inr (3, [.ref hfd, .int (nI 0)])), (hfd, .inl (cI, 20, .inl (fun i_ => nI ((fun _ => 0) i_)))), (q_27, .inr (2, [.ref hag, .int (b2 false), .int (-1 : Int32)])), (hag, .inr (4, [.ref hai, .ref hac, .int (nI 0)])), (hai, .inl (cI, 512, .inl (fun i_ => nI ((fun _ => 0) i_)))), (hac, .inl (cI, 512, .inl (fun i_ => nI ((fun _ => 0) i_)))), (q_38, .inr (1, [.ref hme, .ref hle, .int (nI 0), .int (nI 0), .int (b2 false)])), (hme, .inl (cI, 4096, .inl (fun i_ => nI ((fun _ => 0) i_)))), (hle, .inl (cI, 4096, .inl (fun i_ => lvO ((fun _ => some 0) i_)))), (q_49, .inr (0, [.null, .null, .int (0 : Int32)]))] := hD
  refine W.widen (k := 12) (n := 9275) (by omega) (by omega) ?_
  refine lv_dup hx hb dX7_init_52 rfl ?_
  have hPc := hP.sub (ws' := [(q_49, .inr (0, [.null, .null, .int (0 : Int32)]))]) [12] rfl
  have hDc := hD.sub (ws' := [(q_49, .inr (0, [.null, .null, .int (0 : Int32)]))]) [12] (by decide) rfl
  have hKc := hK.sub (tys' := [(cI, .int)]) [0] rfl
  have hFc := va_free (wc := [(q_49, .inr (0, [.null, .null, .int (0 : Int32)]))]) hD hS hA [12] rfl
  refine mx_call (va_runIN (As := []) (rest := [.ref q_49, .ref h0]) ⟨hx, hb, hml, hown, hts⟩ (c_X0_init l D H.size q_49 cI ) ⟨va_cnB 0 hts gX7_init_X0_init_n39 rfl rfl rfl (NW_m39 hNW) (hts (.initialized RX0) (by decide +kernel)) (by decide +kernel) ⟨Nat.le_of_ble_eq_true rfl, Nat.le_of_ble_eq_true rfl⟩, rfl, (hts (.instanceMethod yX0_init) (by decide +kernel))⟩ ⟨mu_bl, fun U hU hW => ⟨rfl, by rw [hU], by rw [hU]; exact hPc, va_K.moved hW.alike hKc, hDc.weaken (fun _ _ _ _ => trivial)⟩⟩ rfl rfl hl.1 rfl (lv_room (Nat.le_of_ble_eq_true rfl)) dX7_init_53 ⟨Nat.le_of_ble_eq_true rfl, Nat.le_of_ble_eq_true rfl⟩) hS (fun q _ h => hFc q h) hFc (fun u_ H1 locs hq_ hP1 hD1 hk1 hS => ?_)
  obtain ⟨hru, hpr, hcn, hjo⟩ := u_
  have hP1 : va_P D vwCl [(q_49, .inr (0, [.ref hru, .ref hjo, .int (b2 false)])), (hru, .inr (4, [.ref hpr, .ref hcn, .int (nI 0)])), (hpr, .inl (cI, 4096, .inl (fun i_ => nI ((fun _ => 0) i_)))), (hcn, .inl (cI, 4096, .inl (fun i_ => nI ((fun _ => 0) i_)))), (hjo, .inl (cI, 4096, .inl (fun i_ => nI ((fun _ => 0) i_))))] H1 := hP1
  have hD1 : va_D (va_A [(q_49, .inr (0, [.null, .null, .int (0 : Int32)]))] H.size) [(q_49, .inr (0, [.ref hru, .ref hjo, .int (b2 false)])), (hru, .inr (4, [.ref hpr, .ref hcn, .int (nI 0)])), (hpr, .inl (cI, 4096, .inl (fun i_ => nI ((fun _ => 0) i_)))), (hcn, .inl (cI, 4096, .inl (fun i_ => nI ((fun _ => 0) i_)))), (hjo, .inl (cI, 4096, .inl (fun i_ => nI ((fun _ => 0) i_))))] := hD1
  obtain ⟨hP, hD⟩ := va_join (wr := [(h0, .inr (6, [.ref q_5, .ref q_16, .ref q_27, .ref q_38, .null])), (q_5, .inr (5, [.ref hro, .int (nI 0), .int (nI 0)])), (hro, .inl (cI, 20, .inl (fun i_ => nI ((fun _ => 0) i_)))), (q_16, .inr (3, [.ref hfd, .int (nI 0)])), (hfd, .inl (cI, 20, .inl (fun i_ => nI ((fun _ => 0) i_)))), (q_27, .inr (2, [.ref hag, .int (b2 false), .int (-1 : Int32)])), (hag, .inr (4, [.ref hai, .ref hac, .int (nI 0)])), (hai, .inl (cI, 512, .inl (fun i_ => nI ((fun _ => 0) i_)))), (hac, .inl (cI, 512, .inl (fun i_ => nI ((fun _ => 0) i_)))), (q_38, .inr (1, [.ref hme, .ref hle, .int (nI 0), .int (nI 0), .int (b2 false)])), (hme, .inl (cI, 4096, .inl (fun i_ => nI ((fun _ => 0) i_)))), (hle, .inl (cI, 4096, .inl (fun i_ => lvO ((fun _ => some 0) i_))))]) (w1 := [(q_49, .inr (0, [.ref hru, .ref hjo, .int (b2 false)])), (hru, .inr (4, [.ref hpr, .ref hcn, .int (nI 0)])), (hpr, .inl (cI, 4096, .inl (fun i_ => nI ((fun _ => 0) i_)))), (hcn, .inl (cI, 4096, .inl (fun i_ => nI ((fun _ => 0) i_)))), (hjo, .inl (cI, 4096, .inl (fun i_ => nI ((fun _ => 0) i_))))]) hP hD [12] [0, 1, 2, 3, 4, 5, 6, 7, 8, 9, 10, 11] rfl rfl (by decide) (by decide) hk1 hFc hP1 hD1
  generalize H1 = H at hP hS ⊢
  have hP : va_P D vwCl [(h0, .inr (6, [.ref q_5, .ref q_16, .ref q_27, .ref q_38, .null])), (q_5, .inr (5, [.ref hro, .int (nI 0), .int (nI 0)])), (hro, .inl (cI, 20, .inl (fun i_ => nI ((fun _ => 0) i_)))), (q_16, .inr (3, [.ref hfd, .int (nI 0)])), (hfd, .inl (cI, 20, .inl (fun i_ => nI ((fun _ => 0) i_)))), (q_27, .inr (2, [.ref hag, .int (b2 false), .int (-1 : Int32)])), (hag, .inr (4, [.ref hai, .ref hac, .int (nI 0)])), (hai, .inl (cI, 512, .inl (fun i_ => nI ((fun _ => 0) i_)))), (hac, .inl (cI, 512, .inl (fun i_ => nI ((fun _ => 0) i_)))), (q_38, .inr (1, [.ref hme, .ref hle, .int (nI 0), .int (nI 0), .int (b2 false)])), (hme, .inl (cI, 4096, .inl (fun i_ => nI ((fun _ => 0) i_)))), (hle, .inl (cI, 4096, .inl (fun i_ => lvO ((fun _ => some 0) i_)))), (q_49, .inr (0, [.ref hru, .ref hjo, .int (b2 false)])), (hru, .inr (4, [.ref hpr, .ref hcn, .int (nI 0)])), (hpr, .inl (cI, 4096, .inl (fun i_ => nI ((fun _ => 0) i_)))), (hcn, .inl (cI, 4096, .inl (fun i_ => nI ((fun _ => 0) i_)))), (hjo, .inl (cI, 4096, .inl (fun i_ => nI ((fun _ => 0) i_))))] H := hP
  have hD : va_D A [(h0, .inr (6, [.ref q_5, .ref q_16, .ref q_27, .ref q_38, .null])), (q_5, .inr (5, [.ref hro, .int (nI 0), .int (nI 0)])), (hro, .inl (cI, 20, .inl (fun i_ => nI ((fun _ => 0) i_)))), (q_16, .inr (3, [.ref hfd, .int (nI 0)])), (hfd, .inl (cI, 20, .inl (fun i_ => nI ((fun _ => 0) i_)))), (q_27, .inr (2, [.ref hag, .int (b2 false), .int (-1 : Int32)])), (hag, .inr (4, [.ref hai, .ref hac, .int (nI 0)])), (hai, .inl (cI, 512, .inl (fun i_ => nI ((fun _ => 0) i_)))), (hac, .inl (cI, 512, .inl (fun i_ => nI ((fun _ => 0) i_)))), (q_38, .inr (1, [.ref hme, .ref hle, .int (nI 0), .int (nI 0), .int (b2 false)])), (hme, .inl (cI, 4096, .inl (fun i_ => nI ((fun _ => 0) i_)))), (hle, .inl (cI, 4096, .inl (fun i_ => lvO ((fun _ => some 0) i_)))), (q_49, .inr (0, [.ref hru, .ref hjo, .int (b2 false)])), (hru, .inr (4, [.ref hpr, .ref hcn, .int (nI 0)])), (hpr, .inl (cI, 4096, .inl (fun i_ => nI ((fun _ => 0) i_)))), (hcn, .inl (cI, 4096, .inl (fun i_ => nI ((fun _ => 0) i_)))), (hjo, .inl (cI, 4096, .inl (fun i_ => nI ((fun _ => 0) i_))))] := hD
  refine W.widen (k := 16) (n := 21566) (by omega) (by omega) ?_
  refine va_putF (D := D) (ci := 6) (v := .ref q_49) (ty := (.object "ConceptTable$Base")) (C := RX7) (T := TX7) (N := 5) hx hb hts (by decide +kernel) tyX7 tyX7_ok nmX7 hown hK hP hD hS 0 rfl rfl 4 (by decide) (hts (.fieldLink RX7 40 "ConceptTable" "stem" "LConceptTable$Base;") (by decide +kernel)) (fun _ h9 => h9) rfl hin rfl (by decide +kernel) rfl rfl (Nat.le_of_ble_eq_true rfl) dX7_init_56 (fun H locs hP hD hS => ?_)
  have hP : va_P D vwCl [(h0, .inr (6, [.ref q_5, .ref q_16, .ref q_27, .ref q_38, .ref q_49])), (q_5, .inr (5, [.ref hro, .int (nI 0), .int (nI 0)])), (hro, .inl (cI, 20, .inl (fun i_ => nI ((fun _ => 0) i_)))), (q_16, .inr (3, [.ref hfd, .int (nI 0)])), (hfd, .inl (cI, 20, .inl (fun i_ => nI ((fun _ => 0) i_)))), (q_27, .inr (2, [.ref hag, .int (b2 false), .int (-1 : Int32)])), (hag, .inr (4, [.ref hai, .ref hac, .int (nI 0)])), (hai, .inl (cI, 512, .inl (fun i_ => nI ((fun _ => 0) i_)))), (hac, .inl (cI, 512, .inl (fun i_ => nI ((fun _ => 0) i_)))), (q_38, .inr (1, [.ref hme, .ref hle, .int (nI 0), .int (nI 0), .int (b2 false)])), (hme, .inl (cI, 4096, .inl (fun i_ => nI ((fun _ => 0) i_)))), (hle, .inl (cI, 4096, .inl (fun i_ => lvO ((fun _ => some 0) i_)))), (q_49, .inr (0, [.ref hru, .ref hjo, .int (b2 false)])), (hru, .inr (4, [.ref hpr, .ref hcn, .int (nI 0)])), (hpr, .inl (cI, 4096, .inl (fun i_ => nI ((fun _ => 0) i_)))), (hcn, .inl (cI, 4096, .inl (fun i_ => nI ((fun _ => 0) i_)))), (hjo, .inl (cI, 4096, .inl (fun i_ => nI ((fun _ => 0) i_))))] H := hP
  have hD : va_D A [(h0, .inr (6, [.ref q_5, .ref q_16, .ref q_27, .ref q_38, .ref q_49])), (q_5, .inr (5, [.ref hro, .int (nI 0), .int (nI 0)])), (hro, .inl (cI, 20, .inl (fun i_ => nI ((fun _ => 0) i_)))), (q_16, .inr (3, [.ref hfd, .int (nI 0)])), (hfd, .inl (cI, 20, .inl (fun i_ => nI ((fun _ => 0) i_)))), (q_27, .inr (2, [.ref hag, .int (b2 false), .int (-1 : Int32)])), (hag, .inr (4, [.ref hai, .ref hac, .int (nI 0)])), (hai, .inl (cI, 512, .inl (fun i_ => nI ((fun _ => 0) i_)))), (hac, .inl (cI, 512, .inl (fun i_ => nI ((fun _ => 0) i_)))), (q_38, .inr (1, [.ref hme, .ref hle, .int (nI 0), .int (nI 0), .int (b2 false)])), (hme, .inl (cI, 4096, .inl (fun i_ => nI ((fun _ => 0) i_)))), (hle, .inl (cI, 4096, .inl (fun i_ => lvO ((fun _ => some 0) i_)))), (q_49, .inr (0, [.ref hru, .ref hjo, .int (b2 false)])), (hru, .inr (4, [.ref hpr, .ref hcn, .int (nI 0)])), (hpr, .inl (cI, 4096, .inl (fun i_ => nI ((fun _ => 0) i_)))), (hcn, .inl (cI, 4096, .inl (fun i_ => nI ((fun _ => 0) i_)))), (hjo, .inl (cI, 4096, .inl (fun i_ => nI ((fun _ => 0) i_))))] := hD
  refine lv_aload_n hx hb dX7_init_59 rfl (lv_at hl 0 rfl) ?_
  refine va_get (D := D) (ci := 6) (v := .ref q_5) (C := RX7) (T := TX7) (N := 5) hx hb hts (by decide +kernel) hown hK hP 0 rfl rfl 0 (by decide) (hts (.fieldLink RX7 12 "ConceptTable" "table" "LConceptTable$Table;") (by decide +kernel)) (fun _ h9 => h9) rfl dX7_init_60 ?_
  refine lv_bipush (v := 6) hx hb dX7_init_63 (by decide) ?_
  have hPc := hP.sub (ws' := [(q_5, .inr (5, [.ref hro, .int (nI 0), .int (nI 0)]))]) [1] rfl
  have hDc := hD.sub (ws' := [(q_5, .inr (5, [.ref hro, .int (nI 0), .int (nI 0)]))]) [1] (by decide) rfl
  have hKc := hK.sub (tys' := []) [] rfl
  have hFc := va_free (wc := [(q_5, .inr (5, [.ref hro, .int (nI 0), .int (nI 0)]))]) hD hS hA [1] rfl
  refine mu_call (va_runV (As := [.int (6 : Int32)]) (rest := []) ⟨hx, hb, hml, hown, hts⟩ (c_X6_restart l D H.size q_5 hro 0 0 6 ) (cwV 1 hts gX7_init_X6_restart rfl rfl rfl (by decide +kernel) ⟨Nat.le_of_ble_eq_true rfl, Nat.le_of_ble_eq_true rfl⟩) ⟨mu_bl, va_recv hKc hPc (ci := 5) (q0 := 0) rfl rfl, fun U hU hW => ⟨rfl, by rw [hU], by rw [hU]; exact hPc, va_K.moved hW.alike hKc, hDc.weaken (fun _ _ _ _ => trivial)⟩⟩ rfl rfl hl.1 rfl (lv_room (Nat.le_of_ble_eq_true rfl)) dX7_init_65 ⟨Nat.le_of_ble_eq_true rfl, Nat.le_of_ble_eq_true rfl⟩) hS (fun q _ h => hFc q h) hFc (fun H1 locs hP1 hD1 hk1 hS => ?_)
  obtain ⟨hP, hD⟩ := va_join (wr := [(h0, .inr (6, [.ref q_5, .ref q_16, .ref q_27, .ref q_38, .ref q_49])), (hro, .inl (cI, 20, .inl (fun i_ => nI ((fun _ => 0) i_)))), (q_16, .inr (3, [.ref hfd, .int (nI 0)])), (hfd, .inl (cI, 20, .inl (fun i_ => nI ((fun _ => 0) i_)))), (q_27, .inr (2, [.ref hag, .int (b2 false), .int (-1 : Int32)])), (hag, .inr (4, [.ref hai, .ref hac, .int (nI 0)])), (hai, .inl (cI, 512, .inl (fun i_ => nI ((fun _ => 0) i_)))), (hac, .inl (cI, 512, .inl (fun i_ => nI ((fun _ => 0) i_)))), (q_38, .inr (1, [.ref hme, .ref hle, .int (nI 0), .int (nI 0), .int (b2 false)])), (hme, .inl (cI, 4096, .inl (fun i_ => nI ((fun _ => 0) i_)))), (hle, .inl (cI, 4096, .inl (fun i_ => lvO ((fun _ => some 0) i_)))), (q_49, .inr (0, [.ref hru, .ref hjo, .int (b2 false)])), (hru, .inr (4, [.ref hpr, .ref hcn, .int (nI 0)])), (hpr, .inl (cI, 4096, .inl (fun i_ => nI ((fun _ => 0) i_)))), (hcn, .inl (cI, 4096, .inl (fun i_ => nI ((fun _ => 0) i_)))), (hjo, .inl (cI, 4096, .inl (fun i_ => nI ((fun _ => 0) i_))))]) (w1 := [(q_5, .inr (5, [.ref hro, .int (nI 6), .int (nI 0)]))]) hP hD [1] [0, 2, 3, 4, 5, 6, 7, 8, 9, 10, 11, 12, 13, 14, 15, 16] rfl rfl (by decide) (by decide) hk1 hFc hP1 hD1
  generalize H1 = H at hP hS ⊢
  have hP : va_P D vwCl [(h0, .inr (6, [.ref q_5, .ref q_16, .ref q_27, .ref q_38, .ref q_49])), (hro, .inl (cI, 20, .inl (fun i_ => nI ((fun _ => 0) i_)))), (q_16, .inr (3, [.ref hfd, .int (nI 0)])), (hfd, .inl (cI, 20, .inl (fun i_ => nI ((fun _ => 0) i_)))), (q_27, .inr (2, [.ref hag, .int (b2 false), .int (-1 : Int32)])), (hag, .inr (4, [.ref hai, .ref hac, .int (nI 0)])), (hai, .inl (cI, 512, .inl (fun i_ => nI ((fun _ => 0) i_)))), (hac, .inl (cI, 512, .inl (fun i_ => nI ((fun _ => 0) i_)))), (q_38, .inr (1, [.ref hme, .ref hle, .int (nI 0), .int (nI 0), .int (b2 false)])), (hme, .inl (cI, 4096, .inl (fun i_ => nI ((fun _ => 0) i_)))), (hle, .inl (cI, 4096, .inl (fun i_ => lvO ((fun _ => some 0) i_)))), (q_49, .inr (0, [.ref hru, .ref hjo, .int (b2 false)])), (hru, .inr (4, [.ref hpr, .ref hcn, .int (nI 0)])), (hpr, .inl (cI, 4096, .inl (fun i_ => nI ((fun _ => 0) i_)))), (hcn, .inl (cI, 4096, .inl (fun i_ => nI ((fun _ => 0) i_)))), (hjo, .inl (cI, 4096, .inl (fun i_ => nI ((fun _ => 0) i_)))), (q_5, .inr (5, [.ref hro, .int (nI 6), .int (nI 0)]))] H := hP
  have hD : va_D A [(h0, .inr (6, [.ref q_5, .ref q_16, .ref q_27, .ref q_38, .ref q_49])), (hro, .inl (cI, 20, .inl (fun i_ => nI ((fun _ => 0) i_)))), (q_16, .inr (3, [.ref hfd, .int (nI 0)])), (hfd, .inl (cI, 20, .inl (fun i_ => nI ((fun _ => 0) i_)))), (q_27, .inr (2, [.ref hag, .int (b2 false), .int (-1 : Int32)])), (hag, .inr (4, [.ref hai, .ref hac, .int (nI 0)])), (hai, .inl (cI, 512, .inl (fun i_ => nI ((fun _ => 0) i_)))), (hac, .inl (cI, 512, .inl (fun i_ => nI ((fun _ => 0) i_)))), (q_38, .inr (1, [.ref hme, .ref hle, .int (nI 0), .int (nI 0), .int (b2 false)])), (hme, .inl (cI, 4096, .inl (fun i_ => nI ((fun _ => 0) i_)))), (hle, .inl (cI, 4096, .inl (fun i_ => lvO ((fun _ => some 0) i_)))), (q_49, .inr (0, [.ref hru, .ref hjo, .int (b2 false)])), (hru, .inr (4, [.ref hpr, .ref hcn, .int (nI 0)])), (hpr, .inl (cI, 4096, .inl (fun i_ => nI ((fun _ => 0) i_)))), (hcn, .inl (cI, 4096, .inl (fun i_ => nI ((fun _ => 0) i_)))), (hjo, .inl (cI, 4096, .inl (fun i_ => nI ((fun _ => 0) i_)))), (q_5, .inr (5, [.ref hro, .int (nI 6), .int (nI 0)]))] := hD
  refine lv_aload_n hx hb dX7_init_68 rfl (lv_at hl 0 rfl) ?_
  refine va_get (D := D) (ci := 6) (v := .ref q_38) (C := RX7) (T := TX7) (N := 5) hx hb hts (by decide +kernel) hown hK hP 0 rfl rfl 3 (by decide) (hts (.fieldLink RX7 33 "ConceptTable" "family" "LConceptTable$Family;") (by decide +kernel)) (fun _ h9 => h9) rfl dX7_init_69 ?_
  refine lv_bipush (v := 6) hx hb dX7_init_72 (by decide) ?_
  have hPc := hP.sub (ws' := [(q_38, .inr (1, [.ref hme, .ref hle, .int (nI 0), .int (nI 0), .int (b2 false)])), (hme, .inl (cI, 4096, .inl (fun i_ => nI ((fun _ => 0) i_)))), (hle, .inl (cI, 4096, .inl (fun i_ => lvO ((fun _ => some 0) i_))))]) [8, 9, 10] rfl
  have hDc := hD.sub (ws' := [(q_38, .inr (1, [.ref hme, .ref hle, .int (nI 0), .int (nI 0), .int (b2 false)])), (hme, .inl (cI, 4096, .inl (fun i_ => nI ((fun _ => 0) i_)))), (hle, .inl (cI, 4096, .inl (fun i_ => lvO ((fun _ => some 0) i_))))]) [8, 9, 10] (by decide) rfl
  have hKc := hK.sub (tys' := [(cI, .int)]) [0] rfl
  have hFc := va_free (wc := [(q_38, .inr (1, [.ref hme, .ref hle, .int (nI 0), .int (nI 0), .int (b2 false)])), (hme, .inl (cI, 4096, .inl (fun i_ => nI ((fun _ => 0) i_)))), (hle, .inl (cI, 4096, .inl (fun i_ => lvO ((fun _ => some 0) i_))))]) hD hS hA [8, 9, 10] rfl
  refine mx_call (va_runV (As := [.int (6 : Int32)]) (rest := []) ⟨hx, hb, hml, hown, hts⟩ (c_X1_restart l D H.size q_38 hme hle 0 0 false cI 4096 (fun _ => 0) (fun _ => some 0) 6 (by decide) (by decide) (by decide) (fun j v h => by cases h; decide)) (cwV 1 hts gX7_init_X1_restart rfl rfl rfl (by decide +kernel) ⟨Nat.le_of_ble_eq_true rfl, Nat.le_of_ble_eq_true rfl⟩) ⟨mu_bl, va_recv hKc hPc (ci := 1) (q0 := 0) rfl rfl, fun U hU hW => ⟨rfl, by rw [hU], by rw [hU]; exact hPc, va_K.moved hW.alike hKc, hDc.weaken (fun _ _ _ _ => trivial)⟩⟩ rfl rfl hl.1 rfl (lv_room (Nat.le_of_ble_eq_true rfl)) dX7_init_74 ⟨Nat.le_of_ble_eq_true rfl, Nat.le_of_ble_eq_true rfl⟩) hS (fun q _ h => hFc q h) hFc (fun u_ H1 locs hq_ hP1 hD1 hk1 hS => ?_)
  obtain ⟨z', ar', mem', g'⟩ := u_
  have hP1 : va_P D vwCl [(q_38, .inr (1, [.ref hme, .ref hle, .int (nI 6), .int (nI z'), .int (b2 ar')])), (hme, .inl (cI, 4096, .inl (fun i_ => nI (mem' i_)))), (hle, .inl (cI, 4096, .inl (fun i_ => lvO (g' i_))))] H1 := hP1
  have hD1 : va_D (va_A [(q_38, .inr (1, [.ref hme, .ref hle, .int (nI 0), .int (nI 0), .int (b2 false)])), (hme, .inl (cI, 4096, .inl (fun i_ => nI ((fun _ => 0) i_)))), (hle, .inl (cI, 4096, .inl (fun i_ => lvO ((fun _ => some 0) i_))))] H.size) [(q_38, .inr (1, [.ref hme, .ref hle, .int (nI 6), .int (nI z'), .int (b2 ar')])), (hme, .inl (cI, 4096, .inl (fun i_ => nI (mem' i_)))), (hle, .inl (cI, 4096, .inl (fun i_ => lvO (g' i_))))] := hD1
  obtain ⟨hF, hB, hA0⟩ := hq_
  have hF : FamOK 6 g' mem' z' := hF
  have hB : ∀ x, x < 2 ^ 6 → (gB g' x = true ↔ x = 2 ^ 6 - 1) := hB
  have hA0 : ar' = false := hA0
  obtain ⟨hP, hD⟩ := va_join (wr := [(h0, .inr (6, [.ref q_5, .ref q_16, .ref q_27, .ref q_38, .ref q_49])), (hro, .inl (cI, 20, .inl (fun i_ => nI ((fun _ => 0) i_)))), (q_16, .inr (3, [.ref hfd, .int (nI 0)])), (hfd, .inl (cI, 20, .inl (fun i_ => nI ((fun _ => 0) i_)))), (q_27, .inr (2, [.ref hag, .int (b2 false), .int (-1 : Int32)])), (hag, .inr (4, [.ref hai, .ref hac, .int (nI 0)])), (hai, .inl (cI, 512, .inl (fun i_ => nI ((fun _ => 0) i_)))), (hac, .inl (cI, 512, .inl (fun i_ => nI ((fun _ => 0) i_)))), (q_49, .inr (0, [.ref hru, .ref hjo, .int (b2 false)])), (hru, .inr (4, [.ref hpr, .ref hcn, .int (nI 0)])), (hpr, .inl (cI, 4096, .inl (fun i_ => nI ((fun _ => 0) i_)))), (hcn, .inl (cI, 4096, .inl (fun i_ => nI ((fun _ => 0) i_)))), (hjo, .inl (cI, 4096, .inl (fun i_ => nI ((fun _ => 0) i_)))), (q_5, .inr (5, [.ref hro, .int (nI 6), .int (nI 0)]))]) (w1 := [(q_38, .inr (1, [.ref hme, .ref hle, .int (nI 6), .int (nI z'), .int (b2 ar')])), (hme, .inl (cI, 4096, .inl (fun i_ => nI (mem' i_)))), (hle, .inl (cI, 4096, .inl (fun i_ => lvO (g' i_))))]) hP hD [8, 9, 10] [0, 1, 2, 3, 4, 5, 6, 7, 11, 12, 13, 14, 15, 16] rfl rfl (by decide) (by decide) hk1 hFc hP1 hD1
  generalize H1 = H at hP hS ⊢
  have hP : va_P D vwCl [(h0, .inr (6, [.ref q_5, .ref q_16, .ref q_27, .ref q_38, .ref q_49])), (hro, .inl (cI, 20, .inl (fun i_ => nI ((fun _ => 0) i_)))), (q_16, .inr (3, [.ref hfd, .int (nI 0)])), (hfd, .inl (cI, 20, .inl (fun i_ => nI ((fun _ => 0) i_)))), (q_27, .inr (2, [.ref hag, .int (b2 false), .int (-1 : Int32)])), (hag, .inr (4, [.ref hai, .ref hac, .int (nI 0)])), (hai, .inl (cI, 512, .inl (fun i_ => nI ((fun _ => 0) i_)))), (hac, .inl (cI, 512, .inl (fun i_ => nI ((fun _ => 0) i_)))), (q_49, .inr (0, [.ref hru, .ref hjo, .int (b2 false)])), (hru, .inr (4, [.ref hpr, .ref hcn, .int (nI 0)])), (hpr, .inl (cI, 4096, .inl (fun i_ => nI ((fun _ => 0) i_)))), (hcn, .inl (cI, 4096, .inl (fun i_ => nI ((fun _ => 0) i_)))), (hjo, .inl (cI, 4096, .inl (fun i_ => nI ((fun _ => 0) i_)))), (q_5, .inr (5, [.ref hro, .int (nI 6), .int (nI 0)])), (q_38, .inr (1, [.ref hme, .ref hle, .int (nI 6), .int (nI z'), .int (b2 ar')])), (hme, .inl (cI, 4096, .inl (fun i_ => nI (mem' i_)))), (hle, .inl (cI, 4096, .inl (fun i_ => lvO (g' i_))))] H := hP
  have hD : va_D A [(h0, .inr (6, [.ref q_5, .ref q_16, .ref q_27, .ref q_38, .ref q_49])), (hro, .inl (cI, 20, .inl (fun i_ => nI ((fun _ => 0) i_)))), (q_16, .inr (3, [.ref hfd, .int (nI 0)])), (hfd, .inl (cI, 20, .inl (fun i_ => nI ((fun _ => 0) i_)))), (q_27, .inr (2, [.ref hag, .int (b2 false), .int (-1 : Int32)])), (hag, .inr (4, [.ref hai, .ref hac, .int (nI 0)])), (hai, .inl (cI, 512, .inl (fun i_ => nI ((fun _ => 0) i_)))), (hac, .inl (cI, 512, .inl (fun i_ => nI ((fun _ => 0) i_)))), (q_49, .inr (0, [.ref hru, .ref hjo, .int (b2 false)])), (hru, .inr (4, [.ref hpr, .ref hcn, .int (nI 0)])), (hpr, .inl (cI, 4096, .inl (fun i_ => nI ((fun _ => 0) i_)))), (hcn, .inl (cI, 4096, .inl (fun i_ => nI ((fun _ => 0) i_)))), (hjo, .inl (cI, 4096, .inl (fun i_ => nI ((fun _ => 0) i_)))), (q_5, .inr (5, [.ref hro, .int (nI 6), .int (nI 0)])), (q_38, .inr (1, [.ref hme, .ref hle, .int (nI 6), .int (nI z'), .int (b2 ar')])), (hme, .inl (cI, 4096, .inl (fun i_ => nI (mem' i_)))), (hle, .inl (cI, 4096, .inl (fun i_ => lvO (g' i_))))] := hD
  have hP := hP.sub (ws' := [(h0, .inr (6, [.ref q_5, .ref q_16, .ref q_27, .ref q_38, .ref q_49])), (q_5, .inr (5, [.ref hro, .int (nI 6), .int (nI 0)])), (hro, .inl (cI, 20, .inl (fun i_ => nI ((fun _ => 0) i_)))), (q_16, .inr (3, [.ref hfd, .int (nI 0)])), (hfd, .inl (cI, 20, .inl (fun i_ => nI ((fun _ => 0) i_)))), (q_27, .inr (2, [.ref hag, .int (b2 false), .int (-1 : Int32)])), (hag, .inr (4, [.ref hai, .ref hac, .int (nI 0)])), (hai, .inl (cI, 512, .inl (fun i_ => nI ((fun _ => 0) i_)))), (hac, .inl (cI, 512, .inl (fun i_ => nI ((fun _ => 0) i_)))), (q_38, .inr (1, [.ref hme, .ref hle, .int (nI 6), .int (nI z'), .int (b2 ar')])), (hme, .inl (cI, 4096, .inl (fun i_ => nI (mem' i_)))), (hle, .inl (cI, 4096, .inl (fun i_ => lvO (g' i_)))), (q_49, .inr (0, [.ref hru, .ref hjo, .int (b2 false)])), (hru, .inr (4, [.ref hpr, .ref hcn, .int (nI 0)])), (hpr, .inl (cI, 4096, .inl (fun i_ => nI ((fun _ => 0) i_)))), (hcn, .inl (cI, 4096, .inl (fun i_ => nI ((fun _ => 0) i_)))), (hjo, .inl (cI, 4096, .inl (fun i_ => nI ((fun _ => 0) i_))))]) [0, 13, 1, 2, 3, 4, 5, 6, 7, 14, 15, 16, 8, 9, 10, 11, 12] rfl
  have hD := hD.sub (ws' := [(h0, .inr (6, [.ref q_5, .ref q_16, .ref q_27, .ref q_38, .ref q_49])), (q_5, .inr (5, [.ref hro, .int (nI 6), .int (nI 0)])), (hro, .inl (cI, 20, .inl (fun i_ => nI ((fun _ => 0) i_)))), (q_16, .inr (3, [.ref hfd, .int (nI 0)])), (hfd, .inl (cI, 20, .inl (fun i_ => nI ((fun _ => 0) i_)))), (q_27, .inr (2, [.ref hag, .int (b2 false), .int (-1 : Int32)])), (hag, .inr (4, [.ref hai, .ref hac, .int (nI 0)])), (hai, .inl (cI, 512, .inl (fun i_ => nI ((fun _ => 0) i_)))), (hac, .inl (cI, 512, .inl (fun i_ => nI ((fun _ => 0) i_)))), (q_38, .inr (1, [.ref hme, .ref hle, .int (nI 6), .int (nI z'), .int (b2 ar')])), (hme, .inl (cI, 4096, .inl (fun i_ => nI (mem' i_)))), (hle, .inl (cI, 4096, .inl (fun i_ => lvO (g' i_)))), (q_49, .inr (0, [.ref hru, .ref hjo, .int (b2 false)])), (hru, .inr (4, [.ref hpr, .ref hcn, .int (nI 0)])), (hpr, .inl (cI, 4096, .inl (fun i_ => nI ((fun _ => 0) i_)))), (hcn, .inl (cI, 4096, .inl (fun i_ => nI ((fun _ => 0) i_)))), (hjo, .inl (cI, 4096, .inl (fun i_ => nI ((fun _ => 0) i_))))]) [0, 13, 1, 2, 3, 4, 5, 6, 7, 14, 15, 16, 8, 9, 10, 11, 12] (by decide) rfl
  exact W.vret hx hb hr (fun t ht hW => ⟨⟨(q_5, hro, q_16, hfd, q_27, hag, hai, hac, q_38, hme, hle, q_49, hru, hpr, hcn, hjo, z', ar', mem', g'), rfl, ⟨hF, hB, hA0⟩, by rw [ht]; exact hP, hD⟩, hS.F ht⟩) hS.2.2 dX7_init_77

set_option maxHeartbeats 4000000 in
set_option maxRecDepth 100000 in
theorem c_X7_begin_bad (l : Launch) (D : va_G) (h0 : Nat) (fs : List Value) (x : Int32) (hb_ : x < 1 ∨ (12 : Int32) < x) : Met l yX7_begin wsX7_begin ({ frames := 0, cells := 0, slots := 0, locals := 0 }) (va_Pc [.ref h0, .int x] (fun U => va_P D vwCl [(h0, .inr (6, fs))] U.heap ∧ va_K D vwCl [] U)) (QcRead (-2)) 0 0 (fun _ => False) := by
  refine Met.ofW (cc := cX7_begin) (maxL := 3) (ret := (some .int)) (by decide) rfl ?_
  intro p e s m args below meth c s₁ B hml hv
  obtain ⟨rfl, hP, hK⟩ := hv
  have hx := B.exec
  have hb := B.bytes
  have hr := B.returns
  have hts := atoms_spec (ws := wsX7_begin) B.pre
  have hown : s.vm.findClass RX7 = some m.cls := findClass_of_methodNamed B.named
  have hlocks := B.notSynchronized
  have hl := lv_entry ([.ref h0, .int x]) (n := 3) (Nat.le_of_ble_eq_true rfl)
  rw [lg_entry_eq]
  generalize (lg_sl ([.ref h0, .int x]) ++ List.replicate (3 - (lg_sl ([.ref h0, .int x])).length) Slot.unset).toArray = ls at hl ⊢
  have hl : lv_has ls 3 [(0, .ref h0), (1, .int x)] := hl
  refine lv_iload_n hx hb dX7_begin_0 rfl (lv_at hl 1 rfl) ?_
  refine lv_iconst (v := 1) hx hb dX7_begin_1 (by decide) ?_
  refine lv_icmp_lt (tgt := 11) hx hb dX7_begin_2 (by decide) (fun c_2 => ?_) (fun c_2 => ?_)
  · refine lv_bipush (v := -2) hx hb dX7_begin_11 (by decide) ?_
    have e_ret : (-2 : Int32) = (-2) := by rfl
    exact W.iret (v := (-2 : Int32)) hx hb hr (fun t ht hW => ⟨congrArg (fun z_ => Outcome.returned (some (Value.int z_))) e_ret, ht⟩) (fun q h => by cases h) dX7_begin_13
  · refine lv_iload_n hx hb dX7_begin_5 rfl (lv_at hl 1 rfl) ?_
    refine lv_bipush (v := 12) hx hb dX7_begin_6 (by decide) ?_
    refine lv_icmp_le (tgt := 14) hx hb dX7_begin_8 (by decide) (fun c_8 => ?_) (fun c_8 => ?_)
    · exact absurd hb_ (by rintro (h | h); exact c_2 h; exact absurd h (Int32.not_lt.mpr c_8))
    · refine lv_bipush (v := -2) hx hb dX7_begin_11 (by decide) ?_
      have e_ret : (-2 : Int32) = (-2) := by rfl
      exact W.iret (v := (-2 : Int32)) hx hb hr (fun t ht hW => ⟨congrArg (fun z_ => Outcome.returned (some (Value.int z_))) e_ret, ht⟩) (fun q h => by cases h) dX7_begin_13

set_option maxHeartbeats 4000000 in
set_option maxRecDepth 100000 in
theorem c_X7_begin_ok (l : Launch) (D : va_G) (sz : Nat) (h0 : Nat) (fs : List Value) (ht : Nat) (hro : Nat) (n : Nat) (o : Nat) (hf : Nat) (hme : Nat) (hle : Nat) (z : Nat) (ar : Bool) (cI : ClassId) (N : Nat) (mem : Nat → Nat) (g : Nat → Option Nat) (hbs : Nat) (hru : Nat) (hjo : Nat) (bt : Bool) (hiq : Nat) (hag : Nat) (op : Bool) (ask : Int32) (hai : Nat) (hac : Nat) (az : Nat) (a : Nat) (c0 : fs[0]? = some (.ref ht)) (c2 : fs[2]? = some (.ref hiq)) (c3 : fs[3]? = some (.ref hf)) (c4 : fs[4]? = some (.ref hbs)) (ha1 : 1 ≤ a) (ha : a ≤ 12) (hN : 2 ^ a ≤ N) (hN2 : N ≤ 4096) (hgb : ∀ j v, g j = some v → v ≤ 4096) : Met l yX7_begin wsX7_begin ({ frames := 5, cells := 0, slots := 0, locals := 106 }) (va_Pc [.ref h0, .int (nI a)] (fun U => U.heap.size = sz ∧ va_P D vwCl [(h0, .inr (6, fs)), (ht, .inr (5, [.ref hro, .int (nI n), .int (nI o)])), (hf, .inr (1, [.ref hme, .ref hle, .int (nI n), .int (nI z), .int (b2 ar)])), (hme, .inl (cI, N, .inl (fun i_ => nI (mem i_)))), (hle, .inl (cI, N, .inl (fun i_ => lvO (g i_)))), (hbs, .inr (0, [.ref hru, .ref hjo, .int (b2 bt)])), (hiq, .inr (2, [.ref hag, .int (b2 op), .int ask])), (hag, .inr (4, [.ref hai, .ref hac, .int (nI az)]))] U.heap ∧ va_K D vwCl [(cI, .int)] U ∧ va_D (fun _ => True) [(h0, .inr (6, fs)), (ht, .inr (5, [.ref hro, .int (nI n), .int (nI o)])), (hf, .inr (1, [.ref hme, .ref hle, .int (nI n), .int (nI z), .int (b2 ar)])), (hme, .inl (cI, N, .inl (fun i_ => nI (mem i_)))), (hle, .inl (cI, N, .inl (fun i_ => lvO (g i_)))), (hbs, .inr (0, [.ref hru, .ref hjo, .int (b2 bt)])), (hiq, .inr (2, [.ref hag, .int (b2 op), .int ask])), (hag, .inr (4, [.ref hai, .ref hac, .int (nI az)]))])) (mxQ (fun u_ : Nat × Bool × (Nat → Nat) × (Nat → Option Nat) => match u_ with | (z', ar', mem', g') => (some (.int (nI o)))) (fun u_ : Nat × Bool × (Nat → Nat) × (Nat → Option Nat) => match u_ with | (z', ar', mem', g') => (FamOK a g' mem' z') ∧ (∀ x, x < 2 ^ a → (gB g' x = true ↔ x = 2 ^ a - 1)) ∧ (ar' = false)) (fun u_ : Nat × Bool × (Nat → Nat) × (Nat → Option Nat) => match u_ with | (z', ar', mem', g') => [(h0, .inr (6, fs)), (ht, .inr (5, [.ref hro, .int (nI a), .int (nI 0)])), (hf, .inr (1, [.ref hme, .ref hle, .int (nI a), .int (nI z'), .int (b2 ar')])), (hme, .inl (cI, N, .inl (fun i_ => nI (mem' i_)))), (hle, .inl (cI, N, .inl (fun i_ => lvO (g' i_)))), (hbs, .inr (0, [.ref hru, .ref hjo, .int (b2 false)])), (hiq, .inr (2, [.ref hag, .int (b2 false), .int (-1 : Int32)])), (hag, .inr (4, [.ref hai, .ref hac, .int (nI 0)]))]) D vwCl (va_A [(h0, .inr (6, fs)), (ht, .inr (5, [.ref hro, .int (nI n), .int (nI o)])), (hf, .inr (1, [.ref hme, .ref hle, .int (nI n), .int (nI z), .int (b2 ar)])), (hme, .inl (cI, N, .inl (fun i_ => nI (mem i_)))), (hle, .inl (cI, N, .inl (fun i_ => lvO (g i_)))), (hbs, .inr (0, [.ref hru, .ref hjo, .int (b2 bt)])), (hiq, .inr (2, [.ref hag, .int (b2 op), .int ask])), (hag, .inr (4, [.ref hai, .ref hac, .int (nI az)]))] sz)) 0 0 (va_A [(h0, .inr (6, fs)), (ht, .inr (5, [.ref hro, .int (nI n), .int (nI o)])), (hf, .inr (1, [.ref hme, .ref hle, .int (nI n), .int (nI z), .int (b2 ar)])), (hme, .inl (cI, N, .inl (fun i_ => nI (mem i_)))), (hle, .inl (cI, N, .inl (fun i_ => lvO (g i_)))), (hbs, .inr (0, [.ref hru, .ref hjo, .int (b2 bt)])), (hiq, .inr (2, [.ref hag, .int (b2 op), .int ask])), (hag, .inr (4, [.ref hai, .ref hac, .int (nI az)]))] sz) := by
  refine Met.ofW (cc := cX7_begin) (maxL := 3) (ret := (some .int)) (by decide) rfl ?_
  intro p e s m args below meth c s₁ B hml hv
  obtain ⟨rfl, hsz, hP, hK, hD0⟩ := hv
  have hx := B.exec
  have hb := B.bytes
  have hr := B.returns
  have hts := atoms_spec (ws := wsX7_begin) B.pre
  have hown : s.vm.findClass RX7 = some m.cls := findClass_of_methodNamed B.named
  have hlocks := B.notSynchronized
  subst hsz
  have hD := hD0.self (sz := s.heap.size)
  generalize hAe : va_A [(h0, .inr (6, fs)), (ht, .inr (5, [.ref hro, .int (nI n), .int (nI o)])), (hf, .inr (1, [.ref hme, .ref hle, .int (nI n), .int (nI z), .int (b2 ar)])), (hme, .inl (cI, N, .inl (fun i_ => nI (mem i_)))), (hle, .inl (cI, N, .inl (fun i_ => lvO (g i_)))), (hbs, .inr (0, [.ref hru, .ref hjo, .int (b2 bt)])), (hiq, .inr (2, [.ref hag, .int (b2 op), .int ask])), (hag, .inr (4, [.ref hai, .ref hac, .int (nI az)]))] s.heap.size = A at hD ⊢
  have hA : ∀ q : Nat, s.heap.size ≤ q → A q := fun q h => by rw [← hAe]; exact Or.inr h
  have hS : va_S A s.heap s.heap [] := va_S.rf
  have hl := lv_entry ([.ref h0, .int (nI a)]) (n := 3) (Nat.le_of_ble_eq_true rfl)
  rw [lg_entry_eq]
  generalize (lg_sl ([.ref h0, .int (nI a)]) ++ List.replicate (3 - (lg_sl ([.ref h0, .int (nI a)])).length) Slot.unset).toArray = ls at hl ⊢
  have hl : lv_has ls 3 [(0, .ref h0), (1, .int (nI a))] := hl
  refine lv_iload_n hx hb dX7_begin_0 rfl (lv_at hl 1 rfl) ?_
  refine lv_iconst (v := 1) hx hb dX7_begin_1 (by decide) ?_
  refine lv_icmp_lt (tgt := 11) hx hb dX7_begin_2 (by decide) (fun c_2 => ?_) (fun c_2 => ?_)
  · have c_2 : a < 1 := (nI_ltI (a := a) (b := 1) (by omega) (by omega)).mp c_2
    exact absurd c_2 (by omega)
  · have c_2 : 1 ≤ a := Nat.le_of_not_lt (fun h_ => c_2 ((nI_ltI (a := a) (b := 1) (by omega) (by omega)).mpr h_))
    refine lv_iload_n hx hb dX7_begin_5 rfl (lv_at hl 1 rfl) ?_
    refine lv_bipush (v := 12) hx hb dX7_begin_6 (by decide) ?_
    refine lv_icmp_le (tgt := 14) hx hb dX7_begin_8 (by decide) (fun c_8 => ?_) (fun c_8 => ?_)
    · have c_8 : a ≤ 12 := (nI_leI (a := a) (b := 12) (by omega) (by omega)).mp c_8
      refine lv_aload_n hx hb dX7_begin_14 rfl (lv_at hl 0 rfl) ?_
      refine va_get (D := D) (ci := 6) (v := .ref ht) (C := RX7) (T := TX7) (N := 5) hx hb hts (by decide +kernel) hown hK hP 0 rfl rfl 0 (by decide) (hts (.fieldLink RX7 12 "ConceptTable" "table" "LConceptTable$Table;") (by decide +kernel)) (fun _ h9 => h9) c0 dX7_begin_15 ?_
      refine rd_V (As := []) (rest := []) ⟨hx, hb, hml, hown, hts⟩ (c_X6_size l D ht ([.ref hro, .int (nI n), .int (nI o)]) o rfl) (cwV 0 hts gX7_begin_X6_size rfl rfl rfl (by decide +kernel) ⟨Nat.le_of_ble_eq_true rfl, Nat.le_of_ble_eq_true rfl⟩) (hP.sub (ws' := [(ht, .inr (5, [.ref hro, .int (nI n), .int (nI o)]))]) [1] rfl) (hK.sub (tys' := []) [] rfl) (va_recv hK hP (ci := 5) (q0 := 1) rfl rfl) rfl rfl hl.1 rfl (lv_room (Nat.le_of_ble_eq_true rfl)) dX7_begin_18 ⟨Nat.le_of_ble_eq_true rfl, Nat.le_of_ble_eq_true rfl⟩ ?_
      refine lv_istore_n (lv' := [(2, .int (nI o)), (0, .ref h0), (1, .int (nI a))]) hx hb dX7_begin_21 rfl hl (by decide) rfl (fun ls hl => ?_)
      refine lv_aload_n hx hb dX7_begin_22 rfl (lv_at hl 1 rfl) ?_
      refine va_get (D := D) (ci := 6) (v := .ref ht) (C := RX7) (T := TX7) (N := 5) hx hb hts (by decide +kernel) hown hK hP 0 rfl rfl 0 (by decide) (hts (.fieldLink RX7 12 "ConceptTable" "table" "LConceptTable$Table;") (by decide +kernel)) (fun _ h9 => h9) c0 dX7_begin_23 ?_
      refine lv_iload_n hx hb dX7_begin_26 rfl (lv_at hl 2 rfl) ?_
      have hPc := hP.sub (ws' := [(ht, .inr (5, [.ref hro, .int (nI n), .int (nI o)]))]) [1] rfl
      have hDc := hD.sub (ws' := [(ht, .inr (5, [.ref hro, .int (nI n), .int (nI o)]))]) [1] (by decide) rfl
      have hKc := hK.sub (tys' := []) [] rfl
      have hFc := va_free (wc := [(ht, .inr (5, [.ref hro, .int (nI n), .int (nI o)]))]) hD hS hA [1] rfl
      refine mu_call (va_runV (As := [.int (nI a)]) (rest := []) ⟨hx, hb, hml, hown, hts⟩ (c_X6_restart l D s.heap.size ht hro n o a ) (cwV 1 hts gX7_begin_X6_restart rfl rfl rfl (by decide +kernel) ⟨Nat.le_of_ble_eq_true rfl, Nat.le_of_ble_eq_true rfl⟩) ⟨mu_bl, va_recv hKc hPc (ci := 5) (q0 := 0) rfl rfl, fun U hU hW => ⟨rfl, by rw [hU], by rw [hU]; exact hPc, va_K.moved hW.alike hKc, hDc.weaken (fun _ _ _ _ => trivial)⟩⟩ rfl rfl hl.1 rfl (lv_room (Nat.le_of_ble_eq_true rfl)) dX7_begin_27 ⟨Nat.le_of_ble_eq_true rfl, Nat.le_of_ble_eq_true rfl⟩) hS (fun q _ h => hFc q h) hFc (fun H1 locs hP1 hD1 hk1 hS => ?_)
      obtain ⟨hP, hD⟩ := va_join (wr := [(h0, .inr (6, fs)), (hf, .inr (1, [.ref hme, .ref hle, .int (nI n), .int (nI z), .int (b2 ar)])), (hme, .inl (cI, N, .inl (fun i_ => nI (mem i_)))), (hle, .inl (cI, N, .inl (fun i_ => lvO (g i_)))), (hbs, .inr (0, [.ref hru, .ref hjo, .int (b2 bt)])), (hiq, .inr (2, [.ref hag, .int (b2 op), .int ask])), (hag, .inr (4, [.ref hai, .ref hac, .int (nI az)]))]) (w1 := [(ht, .inr (5, [.ref hro, .int (nI a), .int (nI 0)]))]) hP hD [1] [0, 2, 3, 4, 5, 6, 7] rfl rfl (by decide) (by decide) hk1 hFc hP1 hD1
      generalize H1 = H at hP hS ⊢
      have hP : va_P D vwCl [(h0, .inr (6, fs)), (hf, .inr (1, [.ref hme, .ref hle, .int (nI n), .int (nI z), .int (b2 ar)])), (hme, .inl (cI, N, .inl (fun i_ => nI (mem i_)))), (hle, .inl (cI, N, .inl (fun i_ => lvO (g i_)))), (hbs, .inr (0, [.ref hru, .ref hjo, .int (b2 bt)])), (hiq, .inr (2, [.ref hag, .int (b2 op), .int ask])), (hag, .inr (4, [.ref hai, .ref hac, .int (nI az)])), (ht, .inr (5, [.ref hro, .int (nI a), .int (nI 0)]))] H := hP
      have hD : va_D A [(h0, .inr (6, fs)), (hf, .inr (1, [.ref hme, .ref hle, .int (nI n), .int (nI z), .int (b2 ar)])), (hme, .inl (cI, N, .inl (fun i_ => nI (mem i_)))), (hle, .inl (cI, N, .inl (fun i_ => lvO (g i_)))), (hbs, .inr (0, [.ref hru, .ref hjo, .int (b2 bt)])), (hiq, .inr (2, [.ref hag, .int (b2 op), .int ask])), (hag, .inr (4, [.ref hai, .ref hac, .int (nI az)])), (ht, .inr (5, [.ref hro, .int (nI a), .int (nI 0)]))] := hD
      refine lv_aload_n hx hb dX7_begin_30 rfl (lv_at hl 1 rfl) ?_
      refine va_get (D := D) (ci := 6) (v := .ref hf) (C := RX7) (T := TX7) (N := 5) hx hb hts (by decide +kernel) hown hK hP 0 rfl rfl 3 (by decide) (hts (.fieldLink RX7 33 "ConceptTable" "family" "LConceptTable$Family;") (by decide +kernel)) (fun _ h9 => h9) c3 dX7_begin_31 ?_
      refine lv_iload_n hx hb dX7_begin_34 rfl (lv_at hl 2 rfl) ?_
      have hPc := hP.sub (ws' := [(hf, .inr (1, [.ref hme, .ref hle, .int (nI n), .int (nI z), .int (b2 ar)])), (hme, .inl (cI, N, .inl (fun i_ => nI (mem i_)))), (hle, .inl (cI, N, .inl (fun i_ => lvO (g i_))))]) [1, 2, 3] rfl
      have hDc := hD.sub (ws' := [(hf, .inr (1, [.ref hme, .ref hle, .int (nI n), .int (nI z), .int (b2 ar)])), (hme, .inl (cI, N, .inl (fun i_ => nI (mem i_)))), (hle, .inl (cI, N, .inl (fun i_ => lvO (g i_))))]) [1, 2, 3] (by decide) rfl
      have hKc := hK.sub (tys' := [(cI, .int)]) [0] rfl
      have hFc := va_free (wc := [(hf, .inr (1, [.ref hme, .ref hle, .int (nI n), .int (nI z), .int (b2 ar)])), (hme, .inl (cI, N, .inl (fun i_ => nI (mem i_)))), (hle, .inl (cI, N, .inl (fun i_ => lvO (g i_))))]) hD hS hA [1, 2, 3] rfl
      refine mx_call (va_runV (As := [.int (nI a)]) (rest := []) ⟨hx, hb, hml, hown, hts⟩ (c_X1_restart l D H.size hf hme hle n z ar cI N mem g a ha hN hN2 hgb) (cwV 1 hts gX7_begin_X1_restart rfl rfl rfl (by decide +kernel) ⟨Nat.le_of_ble_eq_true rfl, Nat.le_of_ble_eq_true rfl⟩) ⟨mu_bl, va_recv hKc hPc (ci := 1) (q0 := 0) rfl rfl, fun U hU hW => ⟨rfl, by rw [hU], by rw [hU]; exact hPc, va_K.moved hW.alike hKc, hDc.weaken (fun _ _ _ _ => trivial)⟩⟩ rfl rfl hl.1 rfl (lv_room (Nat.le_of_ble_eq_true rfl)) dX7_begin_35 ⟨Nat.le_of_ble_eq_true rfl, Nat.le_of_ble_eq_true rfl⟩) hS (fun q _ h => hFc q h) hFc (fun u_ H1 locs hq_ hP1 hD1 hk1 hS => ?_)
      obtain ⟨z', ar', mem', g'⟩ := u_
      have hP1 : va_P D vwCl [(hf, .inr (1, [.ref hme, .ref hle, .int (nI a), .int (nI z'), .int (b2 ar')])), (hme, .inl (cI, N, .inl (fun i_ => nI (mem' i_)))), (hle, .inl (cI, N, .inl (fun i_ => lvO (g' i_))))] H1 := hP1
      have hD1 : va_D (va_A [(hf, .inr (1, [.ref hme, .ref hle, .int (nI n), .int (nI z), .int (b2 ar)])), (hme, .inl (cI, N, .inl (fun i_ => nI (mem i_)))), (hle, .inl (cI, N, .inl (fun i_ => lvO (g i_))))] H.size) [(hf, .inr (1, [.ref hme, .ref hle, .int (nI a), .int (nI z'), .int (b2 ar')])), (hme, .inl (cI, N, .inl (fun i_ => nI (mem' i_)))), (hle, .inl (cI, N, .inl (fun i_ => lvO (g' i_))))] := hD1
      obtain ⟨hF, hB, hA0⟩ := hq_
      have hF : FamOK a g' mem' z' := hF
      have hB : ∀ x, x < 2 ^ a → (gB g' x = true ↔ x = 2 ^ a - 1) := hB
      have hA0 : ar' = false := hA0
      obtain ⟨hP, hD⟩ := va_join (wr := [(h0, .inr (6, fs)), (hbs, .inr (0, [.ref hru, .ref hjo, .int (b2 bt)])), (hiq, .inr (2, [.ref hag, .int (b2 op), .int ask])), (hag, .inr (4, [.ref hai, .ref hac, .int (nI az)])), (ht, .inr (5, [.ref hro, .int (nI a), .int (nI 0)]))]) (w1 := [(hf, .inr (1, [.ref hme, .ref hle, .int (nI a), .int (nI z'), .int (b2 ar')])), (hme, .inl (cI, N, .inl (fun i_ => nI (mem' i_)))), (hle, .inl (cI, N, .inl (fun i_ => lvO (g' i_))))]) hP hD [1, 2, 3] [0, 4, 5, 6, 7] rfl rfl (by decide) (by decide) hk1 hFc hP1 hD1
      generalize H1 = H at hP hS ⊢
      have hP : va_P D vwCl [(h0, .inr (6, fs)), (hbs, .inr (0, [.ref hru, .ref hjo, .int (b2 bt)])), (hiq, .inr (2, [.ref hag, .int (b2 op), .int ask])), (hag, .inr (4, [.ref hai, .ref hac, .int (nI az)])), (ht, .inr (5, [.ref hro, .int (nI a), .int (nI 0)])), (hf, .inr (1, [.ref hme, .ref hle, .int (nI a), .int (nI z'), .int (b2 ar')])), (hme, .inl (cI, N, .inl (fun i_ => nI (mem' i_)))), (hle, .inl (cI, N, .inl (fun i_ => lvO (g' i_))))] H := hP
      have hD : va_D A [(h0, .inr (6, fs)), (hbs, .inr (0, [.ref hru, .ref hjo, .int (b2 bt)])), (hiq, .inr (2, [.ref hag, .int (b2 op), .int ask])), (hag, .inr (4, [.ref hai, .ref hac, .int (nI az)])), (ht, .inr (5, [.ref hro, .int (nI a), .int (nI 0)])), (hf, .inr (1, [.ref hme, .ref hle, .int (nI a), .int (nI z'), .int (b2 ar')])), (hme, .inl (cI, N, .inl (fun i_ => nI (mem' i_)))), (hle, .inl (cI, N, .inl (fun i_ => lvO (g' i_))))] := hD
      refine lv_aload_n hx hb dX7_begin_38 rfl (lv_at hl 1 rfl) ?_
      refine va_get (D := D) (ci := 6) (v := .ref hbs) (C := RX7) (T := TX7) (N := 5) hx hb hts (by decide +kernel) hown hK hP 0 rfl rfl 4 (by decide) (hts (.fieldLink RX7 40 "ConceptTable" "stem" "LConceptTable$Base;") (by decide +kernel)) (fun _ h9 => h9) c4 dX7_begin_39 ?_
      have hPc := hP.sub (ws' := [(hbs, .inr (0, [.ref hru, .ref hjo, .int (b2 bt)]))]) [1] rfl
      have hDc := hD.sub (ws' := [(hbs, .inr (0, [.ref hru, .ref hjo, .int (b2 bt)]))]) [1] (by decide) rfl
      have hKc := hK.sub (tys' := []) [] rfl
      have hFc := va_free (wc := [(hbs, .inr (0, [.ref hru, .ref hjo, .int (b2 bt)]))]) hD hS hA [1] rfl
      refine mu_call (va_runV (As := []) (rest := []) ⟨hx, hb, hml, hown, hts⟩ (c_X0_forget l D H.size hbs hru hjo bt ) (cwV 0 hts gX7_begin_X0_forget rfl rfl rfl (by decide +kernel) ⟨Nat.le_of_ble_eq_true rfl, Nat.le_of_ble_eq_true rfl⟩) ⟨mu_bl, va_recv hKc hPc (ci := 0) (q0 := 0) rfl rfl, fun U hU hW => ⟨rfl, by rw [hU], by rw [hU]; exact hPc, va_K.moved hW.alike hKc, hDc.weaken (fun _ _ _ _ => trivial)⟩⟩ rfl rfl hl.1 rfl (lv_room (Nat.le_of_ble_eq_true rfl)) dX7_begin_42 ⟨Nat.le_of_ble_eq_true rfl, Nat.le_of_ble_eq_true rfl⟩) hS (fun q _ h => hFc q h) hFc (fun H1 locs hP1 hD1 hk1 hS => ?_)
      obtain ⟨hP, hD⟩ := va_join (wr := [(h0, .inr (6, fs)), (hiq, .inr (2, [.ref hag, .int (b2 op), .int ask])), (hag, .inr (4, [.ref hai, .ref hac, .int (nI az)])), (ht, .inr (5, [.ref hro, .int (nI a), .int (nI 0)])), (hf, .inr (1, [.ref hme, .ref hle, .int (nI a), .int (nI z'), .int (b2 ar')])), (hme, .inl (cI, N, .inl (fun i_ => nI (mem' i_)))), (hle, .inl (cI, N, .inl (fun i_ => lvO (g' i_))))]) (w1 := [(hbs, .inr (0, [.ref hru, .ref hjo, .int (b2 false)]))]) hP hD [1] [0, 2, 3, 4, 5, 6, 7] rfl rfl (by decide) (by decide) hk1 hFc hP1 hD1
      generalize H1 = H at hP hS ⊢
      have hP : va_P D vwCl [(h0, .inr (6, fs)), (hiq, .inr (2, [.ref hag, .int (b2 op), .int ask])), (hag, .inr (4, [.ref hai, .ref hac, .int (nI az)])), (ht, .inr (5, [.ref hro, .int (nI a), .int (nI 0)])), (hf, .inr (1, [.ref hme, .ref hle, .int (nI a), .int (nI z'), .int (b2 ar')])), (hme, .inl (cI, N, .inl (fun i_ => nI (mem' i_)))), (hle, .inl (cI, N, .inl (fun i_ => lvO (g' i_)))), (hbs, .inr (0, [.ref hru, .ref hjo, .int (b2 false)]))] H := hP
      have hD : va_D A [(h0, .inr (6, fs)), (hiq, .inr (2, [.ref hag, .int (b2 op), .int ask])), (hag, .inr (4, [.ref hai, .ref hac, .int (nI az)])), (ht, .inr (5, [.ref hro, .int (nI a), .int (nI 0)])), (hf, .inr (1, [.ref hme, .ref hle, .int (nI a), .int (nI z'), .int (b2 ar')])), (hme, .inl (cI, N, .inl (fun i_ => nI (mem' i_)))), (hle, .inl (cI, N, .inl (fun i_ => lvO (g' i_)))), (hbs, .inr (0, [.ref hru, .ref hjo, .int (b2 false)]))] := hD
      refine lv_aload_n hx hb dX7_begin_45 rfl (lv_at hl 1 rfl) ?_
      refine va_get (D := D) (ci := 6) (v := .ref hiq) (C := RX7) (T := TX7) (N := 5) hx hb hts (by decide +kernel) hown hK hP 0 rfl rfl 2 (by decide) (hts (.fieldLink RX7 26 "ConceptTable" "inquiry" "LConceptTable$Inquiry;") (by decide +kernel)) (fun _ h9 => h9) c2 dX7_begin_46 ?_
      have hPc := hP.sub (ws' := [(hiq, .inr (2, [.ref hag, .int (b2 op), .int ask])), (hag, .inr (4, [.ref hai, .ref hac, .int (nI az)]))]) [1, 2] rfl
      have hDc := hD.sub (ws' := [(hiq, .inr (2, [.ref hag, .int (b2 op), .int ask])), (hag, .inr (4, [.ref hai, .ref hac, .int (nI az)]))]) [1, 2] (by decide) rfl
      have hKc := hK.sub (tys' := []) [] rfl
      have hFc := va_free (wc := [(hiq, .inr (2, [.ref hag, .int (b2 op), .int ask])), (hag, .inr (4, [.ref hai, .ref hac, .int (nI az)]))]) hD hS hA [1, 2] rfl
      refine mu_call (va_runV (As := []) (rest := []) ⟨hx, hb, hml, hown, hts⟩ (c_X2_forget l D H.size hiq hag op ask hai hac az ) (cwV 0 hts gX7_begin_X2_forget rfl rfl rfl (by decide +kernel) ⟨Nat.le_of_ble_eq_true rfl, Nat.le_of_ble_eq_true rfl⟩) ⟨mu_bl, va_recv hKc hPc (ci := 2) (q0 := 0) rfl rfl, fun U hU hW => ⟨rfl, by rw [hU], by rw [hU]; exact hPc, va_K.moved hW.alike hKc, hDc.weaken (fun _ _ _ _ => trivial)⟩⟩ rfl rfl hl.1 rfl (lv_room (Nat.le_of_ble_eq_true rfl)) dX7_begin_49 ⟨Nat.le_of_ble_eq_true rfl, Nat.le_of_ble_eq_true rfl⟩) hS (fun q _ h => hFc q h) hFc (fun H1 locs hP1 hD1 hk1 hS => ?_)
      obtain ⟨hP, hD⟩ := va_join (wr := [(h0, .inr (6, fs)), (ht, .inr (5, [.ref hro, .int (nI a), .int (nI 0)])), (hf, .inr (1, [.ref hme, .ref hle, .int (nI a), .int (nI z'), .int (b2 ar')])), (hme, .inl (cI, N, .inl (fun i_ => nI (mem' i_)))), (hle, .inl (cI, N, .inl (fun i_ => lvO (g' i_)))), (hbs, .inr (0, [.ref hru, .ref hjo, .int (b2 false)]))]) (w1 := [(hiq, .inr (2, [.ref hag, .int (b2 false), .int (-1 : Int32)])), (hag, .inr (4, [.ref hai, .ref hac, .int (nI 0)]))]) hP hD [1, 2] [0, 3, 4, 5, 6, 7] rfl rfl (by decide) (by decide) hk1 hFc hP1 hD1
      generalize H1 = H at hP hS ⊢
      have hP : va_P D vwCl [(h0, .inr (6, fs)), (ht, .inr (5, [.ref hro, .int (nI a), .int (nI 0)])), (hf, .inr (1, [.ref hme, .ref hle, .int (nI a), .int (nI z'), .int (b2 ar')])), (hme, .inl (cI, N, .inl (fun i_ => nI (mem' i_)))), (hle, .inl (cI, N, .inl (fun i_ => lvO (g' i_)))), (hbs, .inr (0, [.ref hru, .ref hjo, .int (b2 false)])), (hiq, .inr (2, [.ref hag, .int (b2 false), .int (-1 : Int32)])), (hag, .inr (4, [.ref hai, .ref hac, .int (nI 0)]))] H := hP
      have hD : va_D A [(h0, .inr (6, fs)), (ht, .inr (5, [.ref hro, .int (nI a), .int (nI 0)])), (hf, .inr (1, [.ref hme, .ref hle, .int (nI a), .int (nI z'), .int (b2 ar')])), (hme, .inl (cI, N, .inl (fun i_ => nI (mem' i_)))), (hle, .inl (cI, N, .inl (fun i_ => lvO (g' i_)))), (hbs, .inr (0, [.ref hru, .ref hjo, .int (b2 false)])), (hiq, .inr (2, [.ref hag, .int (b2 false), .int (-1 : Int32)])), (hag, .inr (4, [.ref hai, .ref hac, .int (nI 0)]))] := hD
      refine lv_iload_n hx hb dX7_begin_52 rfl (lv_at hl 0 rfl) ?_
      have hP := hP.sub (ws' := [(h0, .inr (6, fs)), (ht, .inr (5, [.ref hro, .int (nI a), .int (nI 0)])), (hf, .inr (1, [.ref hme, .ref hle, .int (nI a), .int (nI z'), .int (b2 ar')])), (hme, .inl (cI, N, .inl (fun i_ => nI (mem' i_)))), (hle, .inl (cI, N, .inl (fun i_ => lvO (g' i_)))), (hbs, .inr (0, [.ref hru, .ref hjo, .int (b2 false)])), (hiq, .inr (2, [.ref hag, .int (b2 false), .int (-1 : Int32)])), (hag, .inr (4, [.ref hai, .ref hac, .int (nI 0)]))]) [0, 1, 2, 3, 4, 5, 6, 7] rfl
      have hD := hD.sub (ws' := [(h0, .inr (6, fs)), (ht, .inr (5, [.ref hro, .int (nI a), .int (nI 0)])), (hf, .inr (1, [.ref hme, .ref hle, .int (nI a), .int (nI z'), .int (b2 ar')])), (hme, .inl (cI, N, .inl (fun i_ => nI (mem' i_)))), (hle, .inl (cI, N, .inl (fun i_ => lvO (g' i_)))), (hbs, .inr (0, [.ref hru, .ref hjo, .int (b2 false)])), (hiq, .inr (2, [.ref hag, .int (b2 false), .int (-1 : Int32)])), (hag, .inr (4, [.ref hai, .ref hac, .int (nI 0)]))]) [0, 1, 2, 3, 4, 5, 6, 7] (by decide) rfl
      exact W.iret (v := (nI o)) hx hb hr (fun t ht hW => ⟨⟨(z', ar', mem', g'), rfl, ⟨hF, hB, hA0⟩, by rw [ht]; exact hP, hD⟩, hS.F ht⟩) hS.2.2 dX7_begin_53
    · have c_8 : 12 < a := Nat.lt_of_not_le (fun h_ => c_8 ((nI_leI (a := a) (b := 12) (by omega) (by omega)).mpr h_))
      exact absurd c_8 (by omega)
