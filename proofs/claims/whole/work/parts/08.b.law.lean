/-! THE CLAIM OUT OF ONE WALK OF THE LAW'S BODY. Your part is whole_start (and what it stands on); all else here is the same for every law, but numbers. -/
def R_law : String := "ConceptTableLaw"
def lw_P (b : Addr) (xs : List Int32) (args : Array Value) (s : State) : Prop := args = #[.ref b] ∧ s.IntsAt b xs ∧ xs.length ≤ 1536 ∧ (Jvm.Cond.and given_1 narrow_1).before args s = true
def lw_Q (_ : Array Value) (s : State) (o : Outcome) (t : State) : Prop := o = .returned (some (.int 1)) ∧ Framed s o t [] 600000 7302250
def lw_Z (below : List Frame) (a : Array Value) (s : State) : State → Prop := fun t => ∃ o, t.status = .running ∧ Ended t below o ∧ lw_Q a s o t
/-- the law's own end, with 1 on the stack, nothing written that was there before, its room as the claim has it -/
theorem lw_ret {p : Program} {l : Launch} {e : Env} {s : State} {m : MethodId} {below : List Frame} {meth : Method} {c : Code} {b : Nat} (hx : p.tables.exec = Jvm.exec) (hb : c.code = code) (hr : meth.sig.returnType = ret) (hlocks : meth.locks = false) {pc : Nat} {H : Heap} {ls : Array Slot} (hdg : decode code pc = .ok (.ireturn, 1)) : W p l e room_1 s m #[Value.ref b] below meth c H [] 600000 7302250 (lw_Z below #[Value.ref b] s) (F0 m pc ls [.int 1]) := by
  intro T hT X
  obtain ⟨fs, hret, hrun, hended, hW, hframe⟩ := X.leave (v := some (.int 1)) (hlocks := hlocks) (fun h => by rw [hr] at h; cases h)
  have hmeth' : T.vm.method? m = some meth := X.method'
  refine ⟨T.setFrames fs, ?_, .returned (some (.int 1)), hrun, hended, rfl, ⟨_, rfl⟩, hW, hframe⟩
  jvm_step X.here [X.here.top, hx, hb, hdg, hmeth', hr, ret, narrow_b1]
  (try refine ⟨rfl, ?_⟩); (try refine ⟨rfl, ?_⟩)
  first | (intro acts; rw [hret _ acts rfl rfl rfl]) | rw [hret _ _ rfl rfl rfl]
  exact Steps.refl _
/-- what holds at the law's entry: the machine, the code, the tables' words (any of lw_tbl by 'hts w (by decide +kernel)'), the script of L ints xs at the cell b, what the Statement gives of the start (any of its parts by flat_of_before) -/
def lw_At (p : Program) (s : State) (m : MethodId) (meth : Method) (c : Code) (b L : Nat) (xs : Nat → Int32) : Prop :=
  p.tables.exec = Jvm.exec ∧ c.code = code ∧ meth.sig.returnType = ret ∧ c.maxLocals = 4 ∧ s.vm.findClass R_law = some m.cls ∧ (∀ w ∈ lw_tbl, w.before #[Value.ref b] s = true) ∧ va_X b L xs s s.heap ∧ b < s.heap.size ∧ meth.locks = false ∧ (Jvm.Cond.and given_1 narrow_1).before #[Value.ref b] s = true
/-! the world of the law, and what each call must reach -/
def LWo (cI cZ : ClassId) (xa xt xro xnb xfd xiq xag xai xac xf xme xle xbs xru xpr xcn xjo ma m2 m3 m4 m6 m7 m9 m10 m15 m16 m17 : Nat) (n : Nat) (o : Nat) (r : Nat → Nat) (z : Nat) (ar : Bool) (mem : Nat → Nat) (g : Nat → Option Nat) (bt : Bool) (bz : Nat) (pr : Nat → Nat) (cn : Nat → Nat) (jo : Nat → Nat) (op : Bool) (ask : Int32) (az : Nat) (aif : Nat → Nat) (ath : Nat → Nat) (nz : Nat) (fd : Nat → Nat) (qu : Int32) (kn : Bool) (co : Nat) (ba : Nat) (ord : Nat → Nat) (icl : Nat → Bool) (conc : Nat → Nat) (lev : Nat → Nat) (prem : Nat → Nat) (concl : Nat → Nat) (ip : Nat → Bool) : va_W := [(xa, .inr (6, [.ref xt, .ref xnb, .ref xiq, .ref xf, .ref xbs])), (xt, .inr (5, [.ref xro, .int (nI n), .int (nI o)])), (xro, .inl (cI, 20, .inl (fun i_ => nI (r i_)))), (xnb, .inr (3, [.ref xfd, .int (nI nz)])), (xfd, .inl (cI, 20, .inl (fun i_ => nI (fd i_)))), (xiq, .inr (2, [.ref xag, .int (b2 op), .int ask])), (xag, .inr (4, [.ref xai, .ref xac, .int (nI az)])), (xai, .inl (cI, 512, .inl (fun i_ => nI (aif i_)))), (xac, .inl (cI, 512, .inl (fun i_ => nI (ath i_)))), (xf, .inr (1, [.ref xme, .ref xle, .int (nI n), .int (nI z), .int (b2 ar)])), (xme, .inl (cI, 4096, .inl (fun i_ => nI (mem i_)))), (xle, .inl (cI, 4096, .inl (fun i_ => lvO (g i_)))), (xbs, .inr (0, [.ref xru, .ref xjo, .int (b2 bt)])), (xru, .inr (4, [.ref xpr, .ref xcn, .int (nI bz)])), (xpr, .inl (cI, 4096, .inl (fun i_ => nI (pr i_)))), (xcn, .inl (cI, 4096, .inl (fun i_ => nI (cn i_)))), (xjo, .inl (cI, 4096, .inl (fun i_ => nI (jo i_)))), (ma, .inr (7, [.int (nI n), .int (nI o), .ref m2, .ref m3, .ref m4, .int (nI co), .ref m6, .ref m7, .int (nI ba), .ref m9, .ref m10, .int (b2 kn), .int (b2 op), .int qu, .int (nI az), .ref m15, .ref m16, .ref m17])), (m2, .inl (cI, 20, .inl (fun i_ => nI (r i_)))), (m3, .inl (cI, 4096, .inl (fun i_ => nI (ord i_)))), (m4, .inl (cZ, 4096, .inl (fun i_ => b2 (icl i_)))), (m6, .inl (cI, 4096, .inl (fun i_ => nI (conc i_)))), (m7, .inl (cI, 4096, .inl (fun i_ => nI (lev i_)))), (m9, .inl (cI, 4096, .inl (fun i_ => nI (prem i_)))), (m10, .inl (cI, 4096, .inl (fun i_ => nI (concl i_)))), (m15, .inl (cI, 4096, .inl (fun i_ => nI (aif i_)))), (m16, .inl (cI, 4096, .inl (fun i_ => nI (ath i_)))), (m17, .inl (cZ, 4096, .inl (fun i_ => b2 (ip i_))))]
def LNx (l : Launch) (D : va_G) (cI cZ : ClassId) (p : Program) (e : Env) (s : State) (m : MethodId) (below : List Frame) (meth : Method) (c : Code) (b : Nat) (A : Nat → Prop) (xa xt xro xnb xfd xiq xag xai xac xf xme xle xbs xru xpr xcn xjo ma m2 m3 m4 m6 m7 m9 m10 m15 m16 m17 : Nat) (t : Nat) (pc : Nat) : Prop := ∀ (n : Nat) (o : Nat) (r : Nat → Nat) (z : Nat) (ar : Bool) (mem : Nat → Nat) (g : Nat → Option Nat) (bt : Bool) (bz : Nat) (pr : Nat → Nat) (cn : Nat → Nat) (jo : Nat → Nat) (op : Bool) (ask : Int32) (az : Nat) (aif : Nat → Nat) (ath : Nat → Nat) (nz : Nat) (fd : Nat → Nat) (qu : Int32) (kn : Bool) (co : Nat) (ba : Nat) (ord : Nat → Nat) (icl : Nat → Bool) (conc : Nat → Nat) (lev : Nat → Nat) (prem : Nat → Nat) (concl : Nat → Nat) (ip : Nat → Bool), CI_ (t + 1) n o r z ar mem g bt bz pr cn op ask az aif ath qu kn co ba conc lev prem concl → ∀ (H : Heap) (locs : List Loc), va_P D vwCl (LWo cI cZ xa xt xro xnb xfd xiq xag xai xac xf xme xle xbs xru xpr xcn xjo ma m2 m3 m4 m6 m7 m9 m10 m15 m16 m17 n o r z ar mem g bt bz pr cn jo op ask az aif ath nz fd qu kn co ba ord icl conc lev prem concl ip) H → va_D A (LWo cI cZ xa xt xro xnb xfd xiq xag xai xac xf xme xle xbs xru xpr xcn xjo ma m2 m3 m4 m6 m7 m9 m10 m15 m16 m17 n o r z ar mem g bt bz pr cn jo op ask az aif ath nz fd qu kn co ba ord icl conc lev prem concl ip) → va_S A s.heap H locs → ∀ (ls : Array Slot), lv_has ls 4 [(3, .int (nI (3 * t))), (2, .ref ma), (1, .ref xa), (0, .ref b)] → W p l e room_1 s m #[Value.ref b] below meth c H locs 28 58473 (lw_Z below #[Value.ref b] s) (F0 m pc ls [])
theorem ge3_nI {v : Nat} (h : v + 5 < 2 ^ 31) : (3 : Int32) ≤ nI (v + 5) := by
  rw [show (3 : Int32) = nI 3 from rfl, nI_leI (by decide) h]
  omega
theorem lp_in {L t : Nat} (hL : L ≤ 1536) (ht : 3 * t ≤ L) (h : ¬ (Int32.ofNat L - (3 : Int32)) < nI (3 * t)) : 3 * t + 3 ≤ L := by
  rcases Nat.lt_or_ge L 3 with z | z
  · exfalso
    apply h
    rw [Int32.lt_iff_toInt_lt, nI_toInt (by omega)]
    rcases (show L = 0 ∨ L = 1 ∨ L = 2 by omega) with rfl | rfl | rfl
    · have : (Int32.ofNat 0 - (3 : Int32)).toInt = -3 := by decide
      omega
    · have : (Int32.ofNat 1 - (3 : Int32)).toInt = -2 := by decide
      omega
    · have : (Int32.ofNat 2 - (3 : Int32)).toInt = -1 := by decide
      omega
  · have e : (Int32.ofNat L - (3 : Int32)) = nI (L - 3) := pk_sub (a := L) (b := 3) z
    rw [e, nI_ltI (by omega) (by omega)] at h
    omega
theorem sw_out {y : Int32} (h : ∀ j, j ≤ 21 → ¬ y = nI j) : y.toInt < 0 ∨ 21 < y.toInt := by
  rcases Decidable.em (y < 0) with h1 | h1
  · rw [Int32.lt_iff_toInt_lt] at h1
    exact Or.inl h1
  · obtain ⟨j, hj, rfl⟩ := nI_of h1
    rw [nI_toInt hj]
    have : ¬ j ≤ 21 := fun z => h j z rfl
    right
    omega
