/-! ===== the law's entry: the tables' facts, the objects that it makes ===== -/
theorem lc_str {args : Array Value} {s : State} {k : Nat} {tx : String} (h1 : (Cond.stringRef RX1 k tx).before args s = true) (h2 : (Cond.exactly (.string RX1 k) "java/lang/String").before args s = true) : ∃ sa, vk_R RX1 k tx sa s := by
  obtain ⟨a, c, ce, kc, q1, -⟩ := Cond.exactly_spec (args := args) (first := s) (o := none) (s := s) (idx := []) (t := .string RX1 k) (cls := "java/lang/String") h2
  exact ⟨a, vk_R.of h1 q1⟩
theorem xBadIn : ∀ w ∈ xBad, w ∈ lw_tbl := by decide +kernel
theorem lc_arr {args : Array Value} {s : State} {ty : FieldType} (h : (Cond.arrayClass ty).before args s = true) (hra : ∀ c, s.vm.findClass ("[" ++ ty.toString) = some c → va_RA s c ty) : ∃ cA, ArrOfT s cA ty ∧ va_RA s cA ty := by
  obtain ⟨c, k, comp, h1, h2, h3⟩ := Cond.arrayClass_spec (args := args) (first := s) (o := none) (s := s) (idx := []) (type := ty) h
  exact ⟨c, fun n z => ⟨fun k h => (by cases h), k, h2, comp, h3⟩, hra c h1⟩
theorem ra_long {U : State} {c1 c2 : ClassId} (h1 : va_RA U c1 .long) (h2 : va_RA U c2 .long) : c1 = c2 := Option.some.inj ((Eq.symm h1).trans h2)
set_option maxRecDepth 100000 in
theorem lc_E {b : Nat} {s : State} (hts : ∀ w ∈ lw_tbl, w.before #[Value.ref b] s = true) (hgv : (Jvm.Cond.and given_1 narrow_1).before #[Value.ref b] s = true) : zx_E s := by
  have hs := flat_of_before _ hgv
  refine ⟨?_, fun w hw => xMv_moved (Vm.Alike.refl s.vm) (xBad_mv w hw) (hts w (xBadIn w hw)), ?_, ?_, ?_⟩
  · exact List.forall_mem_cons.mpr ⟨lc_str (k := 235) (tx := "there is no such place") (hts _ (by decide +kernel)) (hs _ (by decide +kernel)), List.forall_mem_cons.mpr ⟨lc_str (k := 238) (tx := "there is no such bridge") (hts _ (by decide +kernel)) (hs _ (by decide +kernel)), List.forall_mem_cons.mpr ⟨lc_str (k := 240) (tx := "there are 16 places") (hts _ (by decide +kernel)) (hs _ (by decide +kernel)), List.forall_mem_cons.mpr ⟨lc_str (k := 242) (tx := "a name is 0 to 9") (hts _ (by decide +kernel)) (hs _ (by decide +kernel)), List.forall_mem_cons.mpr ⟨lc_str (k := 244) (tx := "years are 1 to 50") (hts _ (by decide +kernel)) (hs _ (by decide +kernel)), List.forall_mem_cons.mpr ⟨lc_str (k := 50) (tx := "water is 0 to 99") (hts _ (by decide +kernel)) (hs _ (by decide +kernel)), List.forall_mem_cons.mpr ⟨lc_str (k := 55) (tx := "swell is -9 to 9") (hts _ (by decide +kernel)) (hs _ (by decide +kernel)), List.forall_mem_cons.mpr ⟨lc_str (k := 66) (tx := "a place does not lead to itself") (hts _ (by decide +kernel)) (hs _ (by decide +kernel)), List.forall_mem_cons.mpr ⟨lc_str (k := 73) (tx := "ways do not lead in a ring") (hts _ (by decide +kernel)) (hs _ (by decide +kernel)), List.forall_mem_cons.mpr ⟨lc_str (k := 90) (tx := "the rule is 0 or 1") (hts _ (by decide +kernel)) (hs _ (by decide +kernel)), List.forall_mem_cons.mpr ⟨lc_str (k := 98) (tx := "there are 16 bridges") (hts _ (by decide +kernel)) (hs _ (by decide +kernel)), fun _ h => absurd h List.not_mem_nil⟩⟩⟩⟩⟩⟩⟩⟩⟩⟩⟩
  · exact List.forall_mem_cons.mpr ⟨va_Nc.of (hs (.not (.castable xIA xIO)) (by decide +kernel)), List.forall_mem_cons.mpr ⟨va_Nc.of (hs (.not (.castable xIS xIO)) (by decide +kernel)), List.forall_mem_cons.mpr ⟨va_Nc.of (hs (.not (.castable xIS xIA)) (by decide +kernel)), fun _ h => absurd h List.not_mem_nil⟩⟩⟩
  · exact vx_Zqof (hts _ (by decide +kernel)) (hts _ (by decide +kernel)) (hs _ (by decide +kernel)) (fun a h => Nat.not_le.mpr h)
  · exact vx_Zqof (hts _ (by decide +kernel)) (hts _ (by decide +kernel)) (hs _ (by decide +kernel)) (fun a h => Nat.not_le.mpr h)
theorem lc_Kn {args : Array Value} {s : State} (hts : ∀ w ∈ lw_tbl, w.before args s = true) : ∃ (D : va_G) (cI cZ cJ : ClassId), va_K D vwCl (tyJ cI cZ cJ) s := by
  obtain ⟨c0, i0, h0⟩ := u_known (n := 16) hts inX0 (hts (.instantiable RX0 16) (by decide +kernel))
  obtain ⟨c1, i1, h1⟩ := u_known (n := 6) hts inX1 (hts (.instantiable RX1 6) (by decide +kernel))
  obtain ⟨c2, i2, h2⟩ := u_known (n := 19) hts inX2 (hts (.instantiable RX2 19) (by decide +kernel))
  obtain ⟨cI, a1, b1⟩ := lc_arr (hts (.arrayClass .int) (by decide +kernel)) (fun _ h => h)
  obtain ⟨cZ, a2, b2⟩ := lc_arr (hts (.arrayClass .boolean) (by decide +kernel)) (fun _ h => h)
  obtain ⟨cJ, a3, b3⟩ := lc_arr (hts (.arrayClass .long) (by decide +kernel)) (fun _ h => h)
  refine ⟨(fun c => match c with | 0 => c0 | 1 => c1 | _ => c2, fun c => match c with | 0 => i0 | 1 => i1 | _ => i2), cI, cZ, cJ, fun c q hc => ?_, fun k q hk => ?_⟩
  · match c, hc with
    | 0, hc => cases hc; exact h0
    | 1, hc => cases hc; exact h1
    | 2, hc => cases hc; exact h2
    | c + 3, hc => cases hc
  · match k, hk with
    | 0, hk => cases hk; exact ⟨a1, b1⟩
    | 1, hk => cases hk; exact ⟨a2, b2⟩
    | 2, hk => cases hk; exact ⟨a3, b3⟩
    | k + 3, hk => cases hk
theorem LI.zero : LI 0 0 0 (fun _ => 0) z0 z0 z0 z0 z0 z0 z0 z0 z0 z0 z0 z0 z0 z0 z0 z0 z0 z0 z0 z0 z0 z0 z0 z0 := by
  refine ⟨by omega, by omega, Or.inl rfl, fun p hp => absurd hp (Nat.not_lt_zero p), fun p hp => absurd hp (Nat.not_lt_zero p), fun p hp => absurd hp (Nat.not_lt_zero p), fun p hp => absurd hp (Nat.not_lt_zero p), fun _ => zo_0, fun _ => zo_0, fun _ => zo_0, fun _ => zo_0, fun p hp => absurd hp (Nat.not_lt_zero p), fun p hp => absurd hp (Nat.not_lt_zero p), fun p hp => absurd hp (Nat.not_lt_zero p), fun _ _ => ⟨rfl, rfl, rfl, rfl, rfl, rfl⟩⟩
set_option maxHeartbeats 4000000 in
set_option maxRecDepth 100000 in
theorem lc_start {pP : Program} {l : Launch} {eE : Env} {sS : State} {mM : MethodId} {aA : Array Value} {bB : List Frame} {mT : Method} {cD : Code} {Q : State → Prop} {D : va_G} {cI cZ cJ : ClassId} {A : Nat → Prop} {sc L : Nat} {xs : Nat → Int32} (hl : l.stackTraces = false) (C : zv_C pP mM cD cL_law 9 sS aA wsL_law "RiverNamesLaw" A) (hA : A = fun q => sS.heap.size ≤ q) (hE : zx_E sS) (hX : va_X sc L xs sS sS.heap) (hsc : sc < sS.heap.size) (hL : L ≤ 2048) (KF : ∀ (ws : va_W) (lv : List (Nat × Value)), zv_V pP l eE room_1 sS mM aA bB mT cD Q 9 D vwCl A A (tyJ cI cZ cJ) ws 601024 7293034 1972 lv []) : zv_V pP l eE room_1 sS mM aA bB mT cD Q 9 D vwCl A A (tyJ cI cZ cJ) [] 0 0 0 [(0, .ref sc)] [] := by
  have k1 : Cond.classLink RL 8 RX1 ∈ wsL_law := by decide +kernel
  have k2 : Cond.instantiable RX1 6 ∈ wsL_law := by decide +kernel
  have k3 : Cond.initialized RX1 ∈ wsL_law := by decide +kernel
  have k4 : Cond.methodLink RL 102 yX1_init ∈ wsL_law := by decide +kernel
  have k5 : Cond.instanceMethod yX1_init ∈ wsL_law := by decide +kernel
  have j1 : Cond.classLink RL 103 RX2 ∈ wsL_law := by decide +kernel
  have j2 : Cond.instantiable RX2 19 ∈ wsL_law := by decide +kernel
  have j3 : Cond.initialized RX2 ∈ wsL_law := by decide +kernel
  have j4 : Cond.methodLink RL 105 yX2_init ∈ wsL_law := by decide +kernel
  have j5 : Cond.instanceMethod yX2_init ∈ wsL_law := by decide +kernel
  have a1 : Cond.arrayClass .long ∈ wsL_law := by decide +kernel
  refine zv_new (ci := 1) C inlX1 rfl tyX1_ok dL_law_0 3 rfl k1 k2 k3 dfX1 dfX1_ok (by decide) (by decide) (fun q0 => ?_)
  refine zv_dup C dL_law_3 4 rfl rfl ?_
  refine zv_callI (tyc := tyL cI cZ) (wc := [(q0, .inr (1, dfX1))]) (wr := []) C (k_X1_init l D cI cZ q0) (cwI 0 C.1.2.2.2.2 gL_law_X1_init rfl rfl rfl (C.1.2.2.2.2 _ k3) (C.1.2.2.2.2 _ k4) (C.1.2.2.2.2 _ k5) rfl (by decide +kernel) ⟨Nat.le_of_ble_eq_true rfl, Nat.le_of_ble_eq_true rfl⟩) dL_law_4 7 rfl (As := []) (rest := [.ref q0]) rfl rfl (Nat.le_of_ble_eq_true rfl) (by decide) [0, 1] rfl [0] rfl rfl [] rfl rfl (by decide) (fun v w hv => ?_)
  obtain ⟨q, h, k, eq, rfl, rfl⟩ := hv
  subst eq
  refine zv_go rfl rfl (st' := [.ref (q 0)]) rfl (kc' := 33) rfl (ns' := 518) rfl ?_
  refine zv_wd (ws' := (cR cI cZ q h k 0 0 0 0 z0 z0 z0 z0 z0 z0 z0 z0 z0 z0 z0 z0 z0 z0 0 0 z0 z0 z0 z0 z0 z0 z0 z0 z0 z0 z0 z0 z0 z0 z0 z0 : va_W)) rfl ?_
  refine zv_astore_n C dL_law_7 8 rfl [(1, .ref (q 0)), (0, .ref sc)] (by decide) rfl ?_
  refine zv_new (ci := 2) C inlX2 rfl tyX2_ok dL_law_8 11 rfl j1 j2 j3 dfX2 dfX2_ok (by decide) (by decide) (fun q2 => ?_)
  refine zv_dup C dL_law_11 12 rfl rfl ?_
  refine zv_callI (tyc := tyL cI cZ) (wc := [(q2, .inr (2, dfX2))]) (wr := cR cI cZ q h k 0 0 0 0 z0 z0 z0 z0 z0 z0 z0 z0 z0 z0 z0 z0 z0 z0 0 0 z0 z0 z0 z0 z0 z0 z0 z0 z0 z0 z0 z0 z0 z0 z0 z0) C (k_X2_init l D cI cZ q2) (cwI 0 C.1.2.2.2.2 gL_law_X2_init rfl rfl rfl (C.1.2.2.2.2 _ j3) (C.1.2.2.2.2 _ j4) (C.1.2.2.2.2 _ j5) rfl (by decide +kernel) ⟨Nat.le_of_ble_eq_true rfl, Nat.le_of_ble_eq_true rfl⟩) dL_law_12 15 rfl (As := []) (rest := [.ref q2]) rfl rfl (Nat.le_of_ble_eq_true rfl) (by decide) [0, 1] rfl [33] rfl rfl [0, 1, 2, 3, 4, 5, 6, 7, 8, 9, 10, 11, 12, 13, 14, 15, 16, 17, 18, 19, 20, 21, 22, 23, 24, 25, 26, 27, 28, 29, 30, 31, 32] rfl rfl (by decide) (fun v w hv => ?_)
  obtain ⟨mh, em, rfl, rfl⟩ := hv
  subst em
  refine zv_go rfl rfl (st' := [.ref (mh 0)]) rfl (kc' := 48) rfl (ns' := 761) rfl ?_
  refine zv_wd (ws' := (cR cI cZ q h k 0 0 0 0 z0 z0 z0 z0 z0 z0 z0 z0 z0 z0 z0 z0 z0 z0 0 0 z0 z0 z0 z0 z0 z0 z0 z0 z0 z0 z0 z0 z0 z0 z0 z0 ++ cM cI cZ mh 0 0 0 0 0 z0 z0 z0 z0 z0 z0 z0 z0 z0 z0 z0 z0 z0 z0 : va_W)) rfl ?_
  refine zv_astore_n C dL_law_15 16 rfl [(2, .ref (mh 0)), (1, .ref (q 0)), (0, .ref sc)] (by decide) rfl ?_
  refine zv_iconst (v := 1) C dL_law_16 17 rfl (by decide) ?_
  refine zv_newa (atype := .long) C a1 rfl dL_law_17 19 rfl (N' := 1) (a0 := (1, .inr (.inl (fun _ => 0)))) (fun cA => rfl) 2 rfl ra_long (by decide) (by decide) (by decide) (by decide) (by decide) (fun o => ?_)
  refine zv_go rfl rfl rfl (kc' := 49) rfl (ns' := 762) rfl ?_
  refine zv_astore_n C dL_law_19 20 rfl [(3, .ref o), (2, .ref (mh 0)), (1, .ref (q 0)), (0, .ref sc)] (by decide) rfl ?_
  refine zv_iconst (v := 0) C dL_law_20 21 rfl (by decide) ?_
  refine zv_istore C dL_law_21 23 rfl [(4, .int 0), (3, .ref o), (2, .ref (mh 0)), (1, .ref (q 0)), (0, .ref sc)] (by decide) rfl ?_
  refine zv_sub [4, 3, 2, 1, 0] (lv' := [(0, .ref sc), (1, .ref (q 0)), (2, .ref (mh 0)), (3, .ref o), (4, .int (nI 0))]) rfl ?_
  have hw := lc_loop (q := q) (h := h) (k := k) (mh := mh) (o := o) hl C hA hE hX hsc hL KF (L + 1) 0 49 762 0 0 0 0 0 (fun _ => 0) z0 z0 z0 z0 z0 z0 z0 z0 z0 z0 z0 z0 z0 z0 0 0 z0 z0 z0 z0 z0 z0 z0 z0 z0 z0 z0 z0 z0 z0 z0 z0 (fun _ => 0) z0 z0 z0 z0 z0 z0 z0 z0 z0 z0 z0 z0 z0 z0 LI.zero (by omega) (by omega) (by omega) (by omega)
  exact zv_wd rfl hw
