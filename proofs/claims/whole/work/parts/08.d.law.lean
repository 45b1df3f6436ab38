set_option maxHeartbeats 4000000 in
set_option maxRecDepth 100000 in
theorem lw_loop (l : Launch) (D : va_G) (cI cZ : ClassId) (p : Program) (e : Env) (s : State) (m : MethodId) (below : List Frame) (meth : Method) (c : Code) (b : Nat) (A : Nat → Prop) (xa xt xro xnb xfd xiq xag xai xac xf xme xle xbs xru xpr xcn xjo ma m2 m3 m4 m6 m7 m9 m10 m15 m16 m17 : Nat) {L : Nat} {xs : Nat → Int32} (hL : L ≤ 1536) (hx : p.tables.exec = Jvm.exec) (hb : c.code = cL_law) (hml : c.maxLocals = 4) (hown : s.vm.findClass RL = some m.cls) (hts : ∀ w ∈ wsL_law, w.before #[Value.ref b] s = true) (hX : va_X b L xs s s.heap) (hbl : b < s.heap.size) (hbA : ¬ A b) (hA : ∀ q : Nat, s.heap.size ≤ q → A q) (hK : va_K D vwCl [(cI, .int), (cZ, .boolean)] s) (hr : meth.sig.returnType = ret) (hlocks : meth.locks = false) (hAs : ∀ q : Nat, A q → s.heap.size ≤ q) : ∀ (f t : Nat), L + 3 < 3 * t + f → 3 * t ≤ L → ∀ (n : Nat) (o : Nat) (r : Nat → Nat) (z : Nat) (ar : Bool) (mem : Nat → Nat) (g : Nat → Option Nat) (bt : Bool) (bz : Nat) (pr : Nat → Nat) (cn : Nat → Nat) (jo : Nat → Nat) (op : Bool) (ask : Int32) (az : Nat) (aif : Nat → Nat) (ath : Nat → Nat) (nz : Nat) (fd : Nat → Nat) (qu : Int32) (kn : Bool) (co : Nat) (ba : Nat) (ord : Nat → Nat) (icl : Nat → Bool) (conc : Nat → Nat) (lev : Nat → Nat) (prem : Nat → Nat) (concl : Nat → Nat) (ip : Nat → Bool), CI_ t n o r z ar mem g bt bz pr cn op ask az aif ath qu kn co ba conc lev prem concl → ∀ (H : Heap) (locs : List Loc), va_P D vwCl (LWo cI cZ xa xt xro xnb xfd xiq xag xai xac xf xme xle xbs xru xpr xcn xjo ma m2 m3 m4 m6 m7 m9 m10 m15 m16 m17 n o r z ar mem g bt bz pr cn jo op ask az aif ath nz fd qu kn co ba ord icl conc lev prem concl ip) H → va_D A (LWo cI cZ xa xt xro xnb xfd xiq xag xai xac xf xme xle xbs xru xpr xcn xjo ma m2 m3 m4 m6 m7 m9 m10 m15 m16 m17 n o r z ar mem g bt bz pr cn jo op ask az aif ath nz fd qu kn co ba ord icl conc lev prem concl ip) → va_S A s.heap H locs → ∀ (ls : Array Slot), lv_has ls 4 [(3, .int (nI (3 * t))), (2, .ref ma), (1, .ref xa), (0, .ref b)] → W p l e room_1 s m #[Value.ref b] below meth c H locs 28 58473 (lw_Z below #[Value.ref b] s) (F0 m 18 ls []) := by
  intro f
  induction f with
  | zero => intro t h1 h2; omega
  | succ f ih =>
    intro t hf ht n o r z ar mem g bt bz pr cn jo op ask az aif ath nz fd qu kn co ba ord icl conc lev prem concl ip hI H locs hP hD hS ls hl
    refine lv_iload_n hx hb dL_law_18 rfl (lv_at hl 0 rfl) ?_
    refine lv_aload_n hx hb dL_law_19 rfl (lv_at hl 3 rfl) ?_
    refine va_slen hx hb hX hbl hbA hS dL_law_20 ?_
    refine lv_iconst (v := 3) hx hb dL_law_21 (by decide) ?_
    refine lv_isub hx hb dL_law_22 ?_
    refine lv_icmp_gt (tgt := 648) hx hb dL_law_23 (by decide) (fun c_23 => ?_) (fun c_23 => ?_)
    · refine lv_iconst (v := 1) hx hb dL_law_648 (by decide) ?_
      refine va_forget (fun q hq => hAs _ (hS.2.2 q hq)) ?_
      refine W.widen (k := 600000) (n := 7302250) (by decide) (by decide) ?_
      exact lw_ret hx hb hr hlocks dL_law_649
    have ht3 := lp_in hL ht c_23
    have nx : LNx l D cI cZ p e s m below meth c b A xa xt xro xnb xfd xiq xag xai xac xf xme xle xbs xru xpr xcn xjo ma m2 m3 m4 m6 m7 m9 m10 m15 m16 m17 t 642 := by
      intro n o r z ar mem g bt bz pr cn jo op ask az aif ath nz fd qu kn co ba ord icl conc lev prem concl ip hI H locs hP hD hS ls hl
      refine lv_iinc (v := nI (3 * (t + 1))) (lv' := [(3, .int (nI (3 * (t + 1)))), (2, .ref ma), (1, .ref xa), (0, .ref b)]) hx hb dL_law_642 hl (k := 0) rfl (nI_add (3 * t) 3) (by decide) rfl (fun ls hl => ?_)
      refine lv_goto (tgt := 18) hx hb dL_law_645 (by decide) ?_
      exact ih (t + 1) (by omega) (by omega) n o r z ar mem g bt bz pr cn jo op ask az aif ath nz fd qu kn co ba ord icl conc lev prem concl ip hI H locs hP hD hS ls hl
    refine lv_aload_n hx hb dL_law_26 rfl (lv_at hl 3 rfl) ?_
    refine lv_iload_n hx hb dL_law_27 rfl (lv_at hl 0 rfl) ?_
    refine va_sld hx hb hX hbl hbA hS (vp_in_nI (by omega) (by omega)) dL_law_28 ?_
    refine lv_bipush (v := 31) hx hb dL_law_29 (by decide) ?_
    refine lv_iand hx hb dL_law_31 ?_
    generalize (xs (nI (3 * t)).toNatClampNeg &&& (31 : Int32)) = y
    rcases Decidable.em (y = (0 : Int32)) with c_0 | c_0
    · refine lv_tableIn (tgt := 136) hx hb dL_law_32 (by rw [c_0]; decide) (by rw [c_0]; decide) (off := 104) (by rw [c_0]; rfl) (by decide) ?_
      exact lw_c0 l D cI cZ p e s m below meth c b A xa xt xro xnb xfd xiq xag xai xac xf xme xle xbs xru xpr xcn xjo ma m2 m3 m4 m6 m7 m9 m10 m15 m16 m17 t hL hx hb hml hown hts hX hbl hbA hA hK _ _ ht3 rfl rfl n o r z ar mem g bt bz pr cn jo op ask az aif ath nz fd qu kn co ba ord icl conc lev prem concl ip hI H locs hP hD hS ls hl nx
    rcases Decidable.em (y = (1 : Int32)) with c_1 | c_1
    · refine lv_tableIn (tgt := 159) hx hb dL_law_32 (by rw [c_1]; decide) (by rw [c_1]; decide) (off := 127) (by rw [c_1]; rfl) (by decide) ?_
      exact lw_c1 l D cI cZ p e s m below meth c b A xa xt xro xnb xfd xiq xag xai xac xf xme xle xbs xru xpr xcn xjo ma m2 m3 m4 m6 m7 m9 m10 m15 m16 m17 t hL hx hb hml hown hts hX hbl hbA hA hK _ _ ht3 rfl rfl n o r z ar mem g bt bz pr cn jo op ask az aif ath nz fd qu kn co ba ord icl conc lev prem concl ip hI H locs hP hD hS ls hl nx
    rcases Decidable.em (y = (2 : Int32)) with c_2 | c_2
    · refine lv_tableIn (tgt := 182) hx hb dL_law_32 (by rw [c_2]; decide) (by rw [c_2]; decide) (off := 150) (by rw [c_2]; rfl) (by decide) ?_
      exact lw_c2 l D cI cZ p e s m below meth c b A xa xt xro xnb xfd xiq xag xai xac xf xme xle xbs xru xpr xcn xjo ma m2 m3 m4 m6 m7 m9 m10 m15 m16 m17 t hL hx hb hml hown hts hX hbl hbA hA hK _ _ ht3 rfl rfl n o r z ar mem g bt bz pr cn jo op ask az aif ath nz fd qu kn co ba ord icl conc lev prem concl ip hI H locs hP hD hS ls hl nx
    rcases Decidable.em (y = (3 : Int32)) with c_3 | c_3
    · refine lv_tableIn (tgt := 205) hx hb dL_law_32 (by rw [c_3]; decide) (by rw [c_3]; decide) (off := 173) (by rw [c_3]; rfl) (by decide) ?_
      exact lw_c3 l D cI cZ p e s m below meth c b A xa xt xro xnb xfd xiq xag xai xac xf xme xle xbs xru xpr xcn xjo ma m2 m3 m4 m6 m7 m9 m10 m15 m16 m17 t hL hx hb hml hown hts hX hbl hbA hA hK _ _ ht3 rfl rfl n o r z ar mem g bt bz pr cn jo op ask az aif ath nz fd qu kn co ba ord icl conc lev prem concl ip hI H locs hP hD hS ls hl nx
    rcases Decidable.em (y = (4 : Int32)) with c_4 | c_4
    · refine lv_tableIn (tgt := 228) hx hb dL_law_32 (by rw [c_4]; decide) (by rw [c_4]; decide) (off := 196) (by rw [c_4]; rfl) (by decide) ?_
      exact lw_c4 l D cI cZ p e s m below meth c b A xa xt xro xnb xfd xiq xag xai xac xf xme xle xbs xru xpr xcn xjo ma m2 m3 m4 m6 m7 m9 m10 m15 m16 m17 t hL hx hb hml hown hts hX hbl hbA hA hK _ _ ht3 rfl rfl n o r z ar mem g bt bz pr cn jo op ask az aif ath nz fd qu kn co ba ord icl conc lev prem concl ip hI H locs hP hD hS ls hl nx
    rcases Decidable.em (y = (5 : Int32)) with c_5 | c_5
    · refine lv_tableIn (tgt := 251) hx hb dL_law_32 (by rw [c_5]; decide) (by rw [c_5]; decide) (off := 219) (by rw [c_5]; rfl) (by decide) ?_
      exact lw_c5 l D cI cZ p e s m below meth c b A xa xt xro xnb xfd xiq xag xai xac xf xme xle xbs xru xpr xcn xjo ma m2 m3 m4 m6 m7 m9 m10 m15 m16 m17 t hL hx hb hml hown hts hX hbl hbA hA hK _ _ ht3 rfl rfl n o r z ar mem g bt bz pr cn jo op ask az aif ath nz fd qu kn co ba ord icl conc lev prem concl ip hI H locs hP hD hS ls hl nx
    rcases Decidable.em (y = (6 : Int32)) with c_6 | c_6
    · refine lv_tableIn (tgt := 274) hx hb dL_law_32 (by rw [c_6]; decide) (by rw [c_6]; decide) (off := 242) (by rw [c_6]; rfl) (by decide) ?_
      exact lw_c6 l D cI cZ p e s m below meth c b A xa xt xro xnb xfd xiq xag xai xac xf xme xle xbs xru xpr xcn xjo ma m2 m3 m4 m6 m7 m9 m10 m15 m16 m17 t hL hx hb hml hown hts hX hbl hbA hA hK _ _ ht3 rfl rfl n o r z ar mem g bt bz pr cn jo op ask az aif ath nz fd qu kn co ba ord icl conc lev prem concl ip hI H locs hP hD hS ls hl nx
    rcases Decidable.em (y = (7 : Int32)) with c_7 | c_7
    · refine lv_tableIn (tgt := 297) hx hb dL_law_32 (by rw [c_7]; decide) (by rw [c_7]; decide) (off := 265) (by rw [c_7]; rfl) (by decide) ?_
      exact lw_c7 l D cI cZ p e s m below meth c b A xa xt xro xnb xfd xiq xag xai xac xf xme xle xbs xru xpr xcn xjo ma m2 m3 m4 m6 m7 m9 m10 m15 m16 m17 t hL hx hb hml hown hts hX hbl hbA hA hK _ _ ht3 rfl rfl n o r z ar mem g bt bz pr cn jo op ask az aif ath nz fd qu kn co ba ord icl conc lev prem concl ip hI H locs hP hD hS ls hl nx
    rcases Decidable.em (y = (8 : Int32)) with c_8 | c_8
    · refine lv_tableIn (tgt := 310) hx hb dL_law_32 (by rw [c_8]; decide) (by rw [c_8]; decide) (off := 278) (by rw [c_8]; rfl) (by decide) ?_
      exact lw_c8 l D cI cZ p e s m below meth c b A xa xt xro xnb xfd xiq xag xai xac xf xme xle xbs xru xpr xcn xjo ma m2 m3 m4 m6 m7 m9 m10 m15 m16 m17 t hL hx hb hml hown hts hX hbl hbA hA hK _ _ ht3 rfl rfl n o r z ar mem g bt bz pr cn jo op ask az aif ath nz fd qu kn co ba ord icl conc lev prem concl ip hI H locs hP hD hS ls hl nx
    rcases Decidable.em (y = (9 : Int32)) with c_9 | c_9
    · refine lv_tableIn (tgt := 343) hx hb dL_law_32 (by rw [c_9]; decide) (by rw [c_9]; decide) (off := 311) (by rw [c_9]; rfl) (by decide) ?_
      exact lw_c9 l D cI cZ p e s m below meth c b A xa xt xro xnb xfd xiq xag xai xac xf xme xle xbs xru xpr xcn xjo ma m2 m3 m4 m6 m7 m9 m10 m15 m16 m17 t hL hx hb hml hown hts hX hbl hbA hA hK _ _ ht3 rfl rfl n o r z ar mem g bt bz pr cn jo op ask az aif ath nz fd qu kn co ba ord icl conc lev prem concl ip hI H locs hP hD hS ls hl nx
    rcases Decidable.em (y = (10 : Int32)) with c_10 | c_10
    · refine lv_tableIn (tgt := 356) hx hb dL_law_32 (by rw [c_10]; decide) (by rw [c_10]; decide) (off := 324) (by rw [c_10]; rfl) (by decide) ?_
      exact lw_c10 l D cI cZ p e s m below meth c b A xa xt xro xnb xfd xiq xag xai xac xf xme xle xbs xru xpr xcn xjo ma m2 m3 m4 m6 m7 m9 m10 m15 m16 m17 t hL hx hb hml hown hts hX hbl hbA hA hK _ _ ht3 rfl rfl n o r z ar mem g bt bz pr cn jo op ask az aif ath nz fd qu kn co ba ord icl conc lev prem concl ip hI H locs hP hD hS ls hl nx
    rcases Decidable.em (y = (11 : Int32)) with c_11 | c_11
    · refine lv_tableIn (tgt := 389) hx hb dL_law_32 (by rw [c_11]; decide) (by rw [c_11]; decide) (off := 357) (by rw [c_11]; rfl) (by decide) ?_
      exact lw_c11 l D cI cZ p e s m below meth c b A xa xt xro xnb xfd xiq xag xai xac xf xme xle xbs xru xpr xcn xjo ma m2 m3 m4 m6 m7 m9 m10 m15 m16 m17 t hL hx hb hml hown hts hX hbl hbA hA hK _ _ ht3 rfl rfl n o r z ar mem g bt bz pr cn jo op ask az aif ath nz fd qu kn co ba ord icl conc lev prem concl ip hI H locs hP hD hS ls hl nx
    rcases Decidable.em (y = (12 : Int32)) with c_12 | c_12
    · refine lv_tableIn (tgt := 422) hx hb dL_law_32 (by rw [c_12]; decide) (by rw [c_12]; decide) (off := 390) (by rw [c_12]; rfl) (by decide) ?_
      exact lw_c12 l D cI cZ p e s m below meth c b A xa xt xro xnb xfd xiq xag xai xac xf xme xle xbs xru xpr xcn xjo ma m2 m3 m4 m6 m7 m9 m10 m15 m16 m17 t hL hx hb hml hown hts hX hbl hbA hA hK _ _ ht3 rfl rfl n o r z ar mem g bt bz pr cn jo op ask az aif ath nz fd qu kn co ba ord icl conc lev prem concl ip hI H locs hP hD hS ls hl nx
    rcases Decidable.em (y = (13 : Int32)) with c_13 | c_13
    · refine lv_tableIn (tgt := 455) hx hb dL_law_32 (by rw [c_13]; decide) (by rw [c_13]; decide) (off := 423) (by rw [c_13]; rfl) (by decide) ?_
      exact lw_c13 l D cI cZ p e s m below meth c b A xa xt xro xnb xfd xiq xag xai xac xf xme xle xbs xru xpr xcn xjo ma m2 m3 m4 m6 m7 m9 m10 m15 m16 m17 t hL hx hb hml hown hts hX hbl hbA hA hK _ _ ht3 rfl rfl n o r z ar mem g bt bz pr cn jo op ask az aif ath nz fd qu kn co ba ord icl conc lev prem concl ip hI H locs hP hD hS ls hl nx
    rcases Decidable.em (y = (14 : Int32)) with c_14 | c_14
    · refine lv_tableIn (tgt := 478) hx hb dL_law_32 (by rw [c_14]; decide) (by rw [c_14]; decide) (off := 446) (by rw [c_14]; rfl) (by decide) ?_
      exact lw_c14 l D cI cZ p e s m below meth c b A xa xt xro xnb xfd xiq xag xai xac xf xme xle xbs xru xpr xcn xjo ma m2 m3 m4 m6 m7 m9 m10 m15 m16 m17 t hL hx hb hml hown hts hX hbl hbA hA hK _ _ ht3 rfl rfl n o r z ar mem g bt bz pr cn jo op ask az aif ath nz fd qu kn co ba ord icl conc lev prem concl ip hI H locs hP hD hS ls hl nx
    rcases Decidable.em (y = (15 : Int32)) with c_15 | c_15
    · refine lv_tableIn (tgt := 501) hx hb dL_law_32 (by rw [c_15]; decide) (by rw [c_15]; decide) (off := 469) (by rw [c_15]; rfl) (by decide) ?_
      exact lw_c15 l D cI cZ p e s m below meth c b A xa xt xro xnb xfd xiq xag xai xac xf xme xle xbs xru xpr xcn xjo ma m2 m3 m4 m6 m7 m9 m10 m15 m16 m17 t hL hx hb hml hown hts hX hbl hbA hA hK _ _ ht3 rfl rfl n o r z ar mem g bt bz pr cn jo op ask az aif ath nz fd qu kn co ba ord icl conc lev prem concl ip hI H locs hP hD hS ls hl nx
    rcases Decidable.em (y = (16 : Int32)) with c_16 | c_16
    · refine lv_tableIn (tgt := 524) hx hb dL_law_32 (by rw [c_16]; decide) (by rw [c_16]; decide) (off := 492) (by rw [c_16]; rfl) (by decide) ?_
      exact lw_c16 l D cI cZ p e s m below meth c b A xa xt xro xnb xfd xiq xag xai xac xf xme xle xbs xru xpr xcn xjo ma m2 m3 m4 m6 m7 m9 m10 m15 m16 m17 t hL hx hb hml hown hts hX hbl hbA hA hK _ _ ht3 rfl rfl n o r z ar mem g bt bz pr cn jo op ask az aif ath nz fd qu kn co ba ord icl conc lev prem concl ip hI H locs hP hD hS ls hl nx
    rcases Decidable.em (y = (17 : Int32)) with c_17 | c_17
    · refine lv_tableIn (tgt := 537) hx hb dL_law_32 (by rw [c_17]; decide) (by rw [c_17]; decide) (off := 505) (by rw [c_17]; rfl) (by decide) ?_
      exact lw_c17 l D cI cZ p e s m below meth c b A xa xt xro xnb xfd xiq xag xai xac xf xme xle xbs xru xpr xcn xjo ma m2 m3 m4 m6 m7 m9 m10 m15 m16 m17 t hL hx hb hml hown hts hX hbl hbA hA hK _ _ ht3 rfl rfl n o r z ar mem g bt bz pr cn jo op ask az aif ath nz fd qu kn co ba ord icl conc lev prem concl ip hI H locs hP hD hS ls hl nx
    rcases Decidable.em (y = (18 : Int32)) with c_18 | c_18
    · refine lv_tableIn (tgt := 550) hx hb dL_law_32 (by rw [c_18]; decide) (by rw [c_18]; decide) (off := 518) (by rw [c_18]; rfl) (by decide) ?_
      exact lw_c18 l D cI cZ p e s m below meth c b A xa xt xro xnb xfd xiq xag xai xac xf xme xle xbs xru xpr xcn xjo ma m2 m3 m4 m6 m7 m9 m10 m15 m16 m17 t hL hx hb hml hown hts hX hbl hbA hA hK _ _ ht3 rfl rfl n o r z ar mem g bt bz pr cn jo op ask az aif ath nz fd qu kn co ba ord icl conc lev prem concl ip hI H locs hP hD hS ls hl nx
    rcases Decidable.em (y = (19 : Int32)) with c_19 | c_19
    · refine lv_tableIn (tgt := 563) hx hb dL_law_32 (by rw [c_19]; decide) (by rw [c_19]; decide) (off := 531) (by rw [c_19]; rfl) (by decide) ?_
      exact lw_c19 l D cI cZ p e s m below meth c b A xa xt xro xnb xfd xiq xag xai xac xf xme xle xbs xru xpr xcn xjo ma m2 m3 m4 m6 m7 m9 m10 m15 m16 m17 t hL hx hb hml hown hts hX hbl hbA hA hK _ _ ht3 rfl rfl n o r z ar mem g bt bz pr cn jo op ask az aif ath nz fd qu kn co ba ord icl conc lev prem concl ip hI H locs hP hD hS ls hl nx
    rcases Decidable.em (y = (20 : Int32)) with c_20 | c_20
    · refine lv_tableIn (tgt := 586) hx hb dL_law_32 (by rw [c_20]; decide) (by rw [c_20]; decide) (off := 554) (by rw [c_20]; rfl) (by decide) ?_
      exact lw_c20 l D cI cZ p e s m below meth c b A xa xt xro xnb xfd xiq xag xai xac xf xme xle xbs xru xpr xcn xjo ma m2 m3 m4 m6 m7 m9 m10 m15 m16 m17 t hL hx hb hml hown hts hX hbl hbA hA hK _ _ ht3 rfl rfl n o r z ar mem g bt bz pr cn jo op ask az aif ath nz fd qu kn co ba ord icl conc lev prem concl ip hI H locs hP hD hS ls hl nx
    rcases Decidable.em (y = (21 : Int32)) with c_21 | c_21
    · refine lv_tableIn (tgt := 619) hx hb dL_law_32 (by rw [c_21]; decide) (by rw [c_21]; decide) (off := 587) (by rw [c_21]; rfl) (by decide) ?_
      exact lw_c21 l D cI cZ p e s m below meth c b A xa xt xro xnb xfd xiq xag xai xac xf xme xle xbs xru xpr xcn xjo ma m2 m3 m4 m6 m7 m9 m10 m15 m16 m17 t hL hx hb hml hown hts hX hbl hbA hA hK _ _ ht3 rfl rfl n o r z ar mem g bt bz pr cn jo op ask az aif ath nz fd qu kn co ba ord icl conc lev prem concl ip hI H locs hP hD hS ls hl nx
    refine lv_tableOut (tgt := 642) hx hb dL_law_32 (sw_out (fun j hj => ?_)) (by decide) ?_
    · rcases (show j = 0 ∨ j = 1 ∨ j = 2 ∨ j = 3 ∨ j = 4 ∨ j = 5 ∨ j = 6 ∨ j = 7 ∨ j = 8 ∨ j = 9 ∨ j = 10 ∨ j = 11 ∨ j = 12 ∨ j = 13 ∨ j = 14 ∨ j = 15 ∨ j = 16 ∨ j = 17 ∨ j = 18 ∨ j = 19 ∨ j = 20 ∨ j = 21 by omega) with rfl | rfl | rfl | rfl | rfl | rfl | rfl | rfl | rfl | rfl | rfl | rfl | rfl | rfl | rfl | rfl | rfl | rfl | rfl | rfl | rfl | rfl
      · exact c_0
      · exact c_1
      · exact c_2
      · exact c_3
      · exact c_4
      · exact c_5
      · exact c_6
      · exact c_7
      · exact c_8
      · exact c_9
      · exact c_10
      · exact c_11
      · exact c_12
      · exact c_13
      · exact c_14
      · exact c_15
      · exact c_16
      · exact c_17
      · exact c_18
      · exact c_19
      · exact c_20
      · exact c_21
    have hI2 : CI_ (t + 1) n o r z ar mem g bt bz pr cn op ask az aif ath qu kn co ba conc lev prem concl := by obtain ⟨hn1, hn, ho, hr_, hfam, hgc, har, hbt, hai_, hac_, haz, hop0, hop1, hqu, hkn⟩ := hI; exact ⟨hn1, hn, ho, hr_, hfam, hgc, har, hbt, hai_, hac_, Nat.le_succ_of_le haz, hop0, hop1, hqu, hkn⟩
    exact nx n o r z ar mem g bt bz pr cn jo op ask az aif ath nz fd qu kn co ba ord icl conc lev prem concl ip hI2 H locs hP hD hS ls hl
