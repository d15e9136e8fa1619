/-! ===== the law's loop and its entry ===== -/
theorem lc_str {args : Array Value} {s : State} {k : Nat} {tx : String} (h1 : (Cond.stringRef RX1 k tx).before args s = true) (h2 : (Cond.exactly (.string RX1 k) "java/lang/String").before args s = true) : ∃ sa, vk_R RX1 k tx sa s := by
  obtain ⟨a, c, ce, kc, q1, -⟩ := Cond.exactly_spec (args := args) (first := s) (o := none) (s := s) (idx := []) (t := .string RX1 k) (cls := "java/lang/String") h2
  exact ⟨a, vk_R.of h1 q1⟩
theorem xBadIn : ∀ w ∈ xBad, w ∈ lw_tbl := by decide +kernel
theorem lc_arr {args : Array Value} {s : State} {ty : FieldType} (h : (Cond.arrayClass ty).before args s = true) (hra : ∀ c, s.vm.findClass ("[" ++ ty.toString) = some c → va_RA s c ty) : ∃ cA, ArrOfT s cA ty ∧ va_RA s cA ty := by
  obtain ⟨c, k, comp, h1, h2, h3⟩ := Cond.arrayClass_spec (args := args) (first := s) (o := none) (s := s) (idx := []) (type := ty) h
  exact ⟨c, fun n z => ⟨fun k h => (by cases h), k, h2, comp, h3⟩, hra c h1⟩
set_option maxRecDepth 100000 in
theorem lc_E {b : Nat} {s : State} (hts : ∀ w ∈ lw_tbl, w.before #[Value.ref b] s = true) (hgv : (Jvm.Cond.and given_1 narrow_1).before #[Value.ref b] s = true) : zx_E s := by
  have hs := flat_of_before _ hgv
  refine ⟨?_, fun w hw => xMv_moved (Vm.Alike.refl s.vm) (xBad_mv w hw) (hts w (xBadIn w hw)), ?_, ?_, ?_⟩
  · exact List.forall_mem_cons.mpr ⟨lc_str (k := 235) (tx := "there is no such place") (hts _ (by decide +kernel)) (hs _ (by decide +kernel)), List.forall_mem_cons.mpr ⟨lc_str (k := 238) (tx := "there is no such bridge") (hts _ (by decide +kernel)) (hs _ (by decide +kernel)), List.forall_mem_cons.mpr ⟨lc_str (k := 240) (tx := "there are 16 places") (hts _ (by decide +kernel)) (hs _ (by decide +kernel)), List.forall_mem_cons.mpr ⟨lc_str (k := 242) (tx := "a name is 0 to 9") (hts _ (by decide +kernel)) (hs _ (by decide +kernel)), List.forall_mem_cons.mpr ⟨lc_str (k := 244) (tx := "years are 1 to 50") (hts _ (by decide +kernel)) (hs _ (by decide +kernel)), List.forall_mem_cons.mpr ⟨lc_str (k := 50) (tx := "water is 0 to 99") (hts _ (by decide +kernel)) (hs _ (by decide +kernel)), List.forall_mem_cons.mpr ⟨lc_str (k := 55) (tx := "swell is -9 to 9") (hts _ (by decide +kernel)) (hs _ (by decide +kernel)), List.forall_mem_cons.mpr ⟨lc_str (k := 66) (tx := "a place does not lead to itself") (hts _ (by decide +kernel)) (hs _ (by decide +kernel)), List.forall_mem_cons.mpr ⟨lc_str (k := 73) (tx := "ways do not lead in a ring") (hts _ (by decide +kernel)) (hs _ (by decide +kernel)), List.forall_mem_cons.mpr ⟨lc_str (k := 90) (tx := "the rule is 0 or 1") (hts _ (by decide +kernel)) (hs _ (by decide +kernel)), List.forall_mem_cons.mpr ⟨lc_str (k := 98) (tx := "there are 16 bridges") (hts _ (by decide +kernel)) (hs _ (by decide +kernel)), fun _ h => absurd h List.not_mem_nil⟩⟩⟩⟩⟩⟩⟩⟩⟩⟩⟩
  · exact fun _ h => absurd h List.not_mem_nil
  · exact vx_Zqof (hts _ (by decide +kernel)) (hts _ (by decide +kernel)) (hs _ (by decide +kernel)) (fun a h => Nat.not_le.mpr h)
  · exact vx_Zqof (hts _ (by decide +kernel)) (hts _ (by decide +kernel)) (hs _ (by decide +kernel)) (fun a h => Nat.not_le.mpr h)
theorem LI.zero : LI 0 0 0 (fun _ => 0) z0 z0 z0 z0 z0 z0 z0 z0 z0 z0 z0 z0 z0 z0 z0 z0 z0 z0 z0 z0 z0 z0 z0 z0 := by
  refine ⟨by omega, by omega, Or.inl rfl, fun p hp => absurd hp (Nat.not_lt_zero p), fun p hp => absurd hp (Nat.not_lt_zero p), fun p hp => absurd hp (Nat.not_lt_zero p), fun p hp => absurd hp (Nat.not_lt_zero p), fun _ => zo_0, fun _ => zo_0, fun _ => zo_0, fun _ => zo_0, fun p hp => absurd hp (Nat.not_lt_zero p), fun p hp => absurd hp (Nat.not_lt_zero p), fun p hp => absurd hp (Nat.not_lt_zero p), fun _ _ => ⟨rfl, rfl, rfl, rfl, rfl, rfl⟩⟩
theorem lc_Kn {args : Array Value} {s : State} (hts : ∀ w ∈ lw_tbl, w.before args s = true) : ∃ (D : va_G) (cI cZ cA : ClassId), va_K D vwCl (tyS cI cZ cA) s := by
  obtain ⟨c0, i0, h0⟩ := u_known (n := 16) hts inX0 (hts (.instantiable RX0 16) (by decide +kernel))
  obtain ⟨c1, i1, h1⟩ := u_known (n := 6) hts inX1 (hts (.instantiable RX1 6) (by decide +kernel))
  obtain ⟨c2, i2, h2⟩ := u_known (n := 4) hts inX2 (hts (.instantiable RX2 4) (by decide +kernel))
  obtain ⟨cI, a1, b1⟩ := lc_arr (hts (.arrayClass .int) (by decide +kernel)) (fun _ h => h)
  obtain ⟨cZ, a2, b2⟩ := lc_arr (hts (.arrayClass .boolean) (by decide +kernel)) (fun _ h => h)
  obtain ⟨comp, cA, kA, hcomp, -, hkA, hkindA, hnameA⟩ := arrayOverA_spec (hts (.arrayOver (.array .int)) (by decide +kernel))
  refine ⟨(fun c => match c with | 0 => c0 | 1 => c1 | _ => c2, fun c => match c with | 0 => i0 | 1 => i1 | _ => i2), cI, cZ, cA, fun c q hc => ?_, fun k q hk => ?_⟩
  · match c, hc with
    | 0, hc => cases hc; exact h0
    | 1, hc => cases hc; exact h1
    | 2, hc => cases hc; exact h2
    | c + 3, hc => cases hc
  · match k, hk with
    | 0, hk => cases hk; exact ⟨a1, b1⟩
    | 1, hk => cases hk; exact ⟨a2, b2⟩
    | 2, hk => cases hk; exact ⟨fun n z => ⟨fun k h => (by cases h), kA, hkA, comp, hkindA⟩, hnameA⟩
    | k + 3, hk => cases hk
theorem zn_inA {p : Program} {l : Launch} {e : Env} {R : Room} {s : State} {m : MethodId} {args : Array Value} {below : List Frame} {meth : Method} {c : Code} {Q : State → Prop} {nL : Nat} {A B : Nat → Prop} {D : va_G} {cl : List vw_C} {tys : List (ClassId × FieldType)} {ws : va_W} {kc ns pc : Nat} {lv : List (Nat × Value)} {st : List Value} (kk : (∀ q ∈ ws, B q.1) → zv_V p l e R s m args below meth c Q nL D cl A B tys ws kc ns pc lv st) : zv_V p l e R s m args below meth c Q nL D cl A B tys ws kc ns pc lv st := fun H locs ls hK hP hD hS h => kk (zn_D.mp hD).2 H locs ls hK hP hD hS h
theorem zR.zero {cI cZ : ClassId} {q h k : Nat → Nat} : zR cI cZ (q 0) 0 0 0 0 z0 z0 z0 z0 z0 z0 z0 z0 (cR cI cZ q h k 0 0 0 0 z0 z0 z0 z0 z0 z0 z0 z0 z0 z0 z0 z0 z0 z0 0 0 z0 z0 z0 z0 z0 z0 z0 z0 z0 z0 z0 z0 z0 z0 z0 z0) := ⟨⟨q, h, k, fun _ => 0, z0, z0, z0, z0, z0, z0, z0, z0, z0, z0, z0, z0, z0, z0, 0, 0, z0, z0, z0, z0, z0, z0, z0, z0, z0, z0, z0, z0, z0, z0, z0, z0, rfl, rfl, LI.zero⟩, fun i hi => absurd hi (Nat.not_lt_zero i), fun i hi => absurd hi (Nat.not_lt_zero i)⟩
set_option maxHeartbeats 4000000 in
set_option maxRecDepth 100000 in
theorem la_acts {pP : Program} {l : Launch} {eE : Env} {sS : State} {mM : MethodId} {aA : Array Value} {bB : List Frame} {mT : Method} {cD : Code} {Q : State → Prop} {D : va_G} {cI cZ cA : ClassId} {A : Nat → Prop} (C : zv_C pP mM cD cL_law 27 sS aA wsL_law "RiverNamesLaw" A) (hl : l.stackTraces = false) (hA : A = fun q => sS.heap.size ≤ q) (hE : zx_E sS) (hO : va_AOA .int sS) {sc L : Nat} {xs : Nat → Int32} (hXE : xE sc L xs sS) (hL : L ≤ 2048) {a n b : Nat} {r y : Int32} {m0 m1 m2 m3 m4 m5 m6 m7 : Nat → Int32} {w : va_W} (hR : zR cI cZ a n b r y m0 m1 m2 m3 m4 m5 m6 m7 w) (hn0 : 0 < n) {s pa da : Nat → Nat} {ti kc ns : Nat} (hti : ti < 8) (hkc : kc ≤ 580000) (hns : ns ≤ 7000000) (K : ∀ (x : Int32) (n b : Nat) (r y : Int32) (m0 m1 m2 m3 m4 m5 m6 m7 : Nat → Int32) (w : va_W) (s pa da : Nat → Nat) (kc' ns' : Nat), zR cI cZ a n b r y m0 m1 m2 m3 m4 m5 m6 m7 w → 0 < n → kc' ≤ kc + 13500 → ns' ≤ ns + 213000 → zv_V pP l eE room_1 sS mM aA bB mT cD Q 27 D vwCl A A (tyS cI cZ cA) ((s 0, .inr (2, [.int r, .int y, .ref (s 1), .ref (s 2)])) :: (s 1, .inl (cA, n, aq pa)) :: (s 2, .inl (cA, b, aq da)) :: (sR cI 6 pa (rP m0 m1 m2 m3 m4 m5) n ++ (sR cI 2 da (rB m6 m7) b ++ w))) kc' ns' 82 [(0, .ref sc), (1, .ref a), (2, .ref (s 0)), (3, .int (nI ti)), (4, .int x)] []) : zv_V pP l eE room_1 sS mM aA bB mT cD Q 27 D vwCl A A (tyS cI cZ cA) ((s 0, .inr (2, [.int r, .int y, .ref (s 1), .ref (s 2)])) :: (s 1, .inl (cA, n, aq pa)) :: (s 2, .inl (cA, b, aq da)) :: (sR cI 6 pa (rP m0 m1 m2 m3 m4 m5) n ++ (sR cI 2 da (rB m6 m7) b ++ w))) kc ns 28 [(0, .ref sc), (1, .ref a), (2, .ref (s 0)), (3, .int (nI ti))] [] := by
  have hAs : ¬ A sc := by
    rw [hA]
    have := hXE.2
    show ¬ sS.heap.size ≤ sc
    omega
  refine zv_aload_n C dL_law_28 29 rfl 0 rfl ?_
  refine zv_iload_n C dL_law_29 30 rfl 3 rfl ?_
  refine zv_iconst (v := 1) C dL_law_30 31 rfl (by decide) ?_
  refine zv_iadd (v := (nI (ti + 1))) C dL_law_31 32 rfl (nI_1 ti) ?_
  refine zn_callRS (rest := []) C xE_B (xE_E hAs hXE) (k_L_cell l D cI cZ cA sc L xs hL (ti + 1) (by omega)) (va_cwS 2 C.1.2.2.2.2 gL_law_L_cell rfl rfl rfl (by decide +kernel) ⟨Nat.le_of_ble_eq_true rfl, Nat.le_of_ble_eq_true rfl⟩) dL_law_32 35 rfl rfl rfl (Nat.le_of_ble_eq_true rfl) ⟨(by show kc + 0 ≤ 600130; omega), (by show ns + 0 ≤ 7301079; omega)⟩ [0, 1] rfl (List.nil_sublist _) (fun v hv => ?_)
  obtain ⟨x0, rfl⟩ := hv
  refine zv_go rfl rfl (st' := [.int x0]) rfl (kc' := kc) rfl (ns' := ns) rfl ?_
  refine zv_iconst (v := 2) C dL_law_35 36 rfl (by decide) ?_
  refine zn_ishr C dL_law_36 37 rfl ?_
  refine zv_bipush (v := 53) C dL_law_37 39 rfl (by decide) ?_
  refine zv_iload_n C dL_law_39 40 rfl 3 rfl ?_
  refine zv_imul (v := (53 * (nI ti))) C dL_law_40 41 rfl rfl ?_
  refine zv_iadd (v := ((x0 >>> (2 &&& 31)) + (53 * (nI ti)))) C dL_law_41 42 rfl rfl ?_
  obtain ⟨x, hx⟩ : ∃ x : Int32, ((x0 >>> (2 &&& 31)) + (53 * (nI ti))) = x := ⟨_, rfl⟩
  refine zv_go rfl rfl (st' := [.int x]) (by rw [← hx]) rfl rfl ?_
  refine zv_istore C dL_law_42 44 rfl [(4, .int x), (0, .ref sc), (1, .ref a), (2, .ref (s 0)), (3, .int (nI ti))] (by decide) rfl ?_
  refine zv_iconst (v := 0) C dL_law_44 45 rfl (by decide) ?_
  refine zv_istore C dL_law_45 47 rfl [(5, .int 0), (4, .int x), (0, .ref sc), (1, .ref a), (2, .ref (s 0)), (3, .int (nI ti))] (by decide) rfl ?_
  have LP : ∀ (mu_LP : Nat), ∀ (k : Nat) (n b : Nat) (r y : Int32) (m0 m1 m2 m3 m4 m5 m6 m7 : Nat → Int32) (w : va_W) (s pa da : Nat → Nat) (kc1 ns1 : Nat), (zR cI cZ a n b r y m0 m1 m2 m3 m4 m5 m6 m7 w) → (0 < n) → (k ≤ 3) → (kc1 + 4500 * (3 - k) ≤ kc + 13500) → (ns1 + 71000 * (3 - k) ≤ ns + 213000) → 3 - k < mu_LP → zv_V pP l eE room_1 sS mM aA bB mT cD Q 27 D vwCl A A (tyS cI cZ cA) ((s 0, .inr (2, [.int r, .int y, .ref (s 1), .ref (s 2)])) :: (s 1, .inl (cA, n, aq pa)) :: (s 2, .inl (cA, b, aq da)) :: (sR cI 6 pa (rP m0 m1 m2 m3 m4 m5) n ++ (sR cI 2 da (rB m6 m7) b ++ w))) kc1 ns1 47 [(0, .ref sc), (1, .ref a), (2, .ref (s 0)), (3, .int (nI ti)), (4, .int x), (5, .int (nI k))] [] := by
    intro mu_LP
    induction mu_LP with
    | zero => intro k n b r y m0 m1 m2 m3 m4 m5 m6 m7 w s pa da kc1 ns1 hR hn0 hk hkc1 hns1 hmu_LP; exact absurd hmu_LP (Nat.not_lt_zero _)
    | succ mu_LP ih_LP =>
      intro k n b r y m0 m1 m2 m3 m4 m5 m6 m7 w s pa da kc1 ns1 hR hn0 hk hkc1 hns1 hmu_LP
      refine zv_iload C dL_law_47 49 rfl 5 rfl ?_
      refine zv_iconst (v := 3) C dL_law_49 50 rfl (by decide) ?_
      refine zv_icmp_ge C dL_law_50 53 82 rfl (by decide) (fun ck => ?_) (fun ck => ?_)
      ·
        refine zv_sub [0, 1, 2, 3, 4] (lv' := [(0, .ref sc), (1, .ref a), (2, .ref (s 0)), (3, .int (nI ti)), (4, .int x)]) rfl ?_
        exact K x n b r y m0 m1 m2 m3 m4 m5 m6 m7 w s pa da kc1 ns1 hR hn0 (by omega) (by omega)
      ·
        have hk2 : k < 3 := zn_le' (a := 3) (b := k) (by omega) (by omega) ck
        refine zv_aload_n C dL_law_53 54 rfl 1 rfl ?_
        refine zv_aload_n C dL_law_54 55 rfl 2 rfl ?_
        refine zv_iload C dL_law_55 57 rfl 4 rfl ?_
        refine zv_iconst (v := 3) C dL_law_57 58 rfl (by decide) ?_
        refine zv_iload C dL_law_58 60 rfl 5 rfl ?_
        refine zv_imul (v := (3 * (nI k))) C dL_law_60 61 rfl rfl ?_
        refine zn_ishr C dL_law_61 62 rfl ?_
        refine zv_bipush (v := 29) C dL_law_62 64 rfl (by decide) ?_
        refine zv_iload C dL_law_64 66 rfl 5 rfl ?_
        refine zv_imul (v := (29 * (nI k))) C dL_law_66 67 rfl rfl ?_
        refine zv_iadd (v := ((x >>> ((3 * (nI k)) &&& 31)) + (29 * (nI k)))) C dL_law_67 68 rfl rfl ?_
        obtain ⟨z, hz⟩ : ∃ z : Int32, ((x >>> ((3 * (nI k)) &&& 31)) + (29 * (nI k))) = z := ⟨_, rfl⟩
        refine zv_go rfl rfl (st' := [.int z, .ref (s 0), .ref a]) (by rw [← hz]) rfl rfl ?_
        by_cases hT : acT z n b m0
        · -- it throws
          refine zv_wd (ws' := cS cI cA s r y n b pa da m0 m1 m2 m3 m4 m5 m6 m7 ++ w) (by simp only [List.append_assoc, List.cons_append, List.append_nil, List.nil_append] <;> rfl) ?_
          refine zn_callRSW (rest := []) C zn_EB (zn_EE hA hE) (k_L_act_t l D cI cZ cA hR s pa da z hn0 hl hT) (vx_cwSW 3 C.1.2.2.2.2 gL_law_L_act rfl rfl rfl (by decide +kernel) ⟨Nat.le_of_ble_eq_true rfl, Nat.le_of_ble_eq_true rfl⟩) dL_law_68 71 rfl rfl rfl (Nat.le_of_ble_eq_true rfl) ⟨(by show kc1 + 1 ≤ 600130; omega), (by show ns1 + 6 ≤ 7301079; omega)⟩ [0, 1, 2] rfl (List.Sublist.refl _) (fun v hv => ?_)
          subst hv
          refine zv_wd (ws' := ((s 0, .inr (2, [.int r, .int y, .ref (s 1), .ref (s 2)])) :: (s 1, .inl (cA, n, aq pa)) :: (s 2, .inl (cA, b, aq da)) :: (sR cI 6 pa (rP m0 m1 m2 m3 m4 m5) n ++ (sR cI 2 da (rB m6 m7) b ++ w)))) (by simp only [List.append_assoc, List.cons_append, List.append_nil, List.nil_append] <;> rfl) ?_
          refine zv_go rfl rfl (st' := [.int 1]) rfl (kc' := (kc1 + 1)) rfl (ns' := (ns1 + 6)) rfl ?_
          refine zv_if_ne C dL_law_71 74 76 rfl (by decide) (fun _ => ?_) (fun c => absurd c (by decide))
          refine zv_iinc (v := (nI (k + 1))) C dL_law_76 79 rfl [(5, .int (nI (k + 1))), (0, .ref sc), (1, .ref a), (2, .ref (s 0)), (3, .int (nI ti)), (4, .int x)] 5 rfl (nI_1 k) (by decide) rfl ?_
          refine zv_goto C dL_law_79 47 (by decide) ?_
          refine zv_sub [1, 2, 3, 4, 5, 0] (lv' := [(0, .ref sc), (1, .ref a), (2, .ref (s 0)), (3, .int (nI ti)), (4, .int x), (5, .int (nI (k + 1)))]) rfl ?_
          exact ih_LP (k + 1) n b r y m0 m1 m2 m3 m4 m5 m6 m7 w s pa da _ _ hR hn0 (by omega) (by omega) (by omega) (by omega)
        · -- it goes well
          refine zv_wd (ws' := [] ++ ((cS cI cA s r y n b pa da m0 m1 m2 m3 m4 m5 m6 m7 ++ w) ++ [])) (by simp only [List.append_assoc, List.cons_append, List.append_nil, List.nil_append] <;> rfl) ?_
          refine zn_callMSW (a := []) (bb := []) (rest := []) C zn_OB (zn_OE hO) (k_L_act l D cI cZ cA hR s pa da z hn0 hT) (vx_cwSW 3 C.1.2.2.2.2 gL_law_L_act rfl rfl rfl (by decide +kernel) ⟨Nat.le_of_ble_eq_true rfl, Nat.le_of_ble_eq_true rfl⟩) dL_law_68 71 rfl rfl rfl (Nat.le_of_ble_eq_true rfl) ⟨(by show kc1 + 4500 ≤ 600130; omega), (by show ns1 + 71000 ≤ 7301079; omega)⟩ [0, 1, 2] rfl (fun v w9 hv => ?_)
          obtain ⟨rfl, n', b', r', y', m0', m1', m2', m3', m4', m5', m6', m7', hle, s', pa', da', w', hs', rfl, hR'⟩ := hv
          refine zv_wd (ws' := ((s' 0, .inr (2, [.int r', .int y', .ref (s' 1), .ref (s' 2)])) :: (s' 1, .inl (cA, n', aq pa')) :: (s' 2, .inl (cA, b', aq da')) :: (sR cI 6 pa' (rP m0' m1' m2' m3' m4' m5') n' ++ (sR cI 2 da' (rB m6' m7') b' ++ w')))) (by simp only [List.append_assoc, List.cons_append, List.append_nil, List.nil_append] <;> rfl) ?_
          refine zv_go rfl rfl (st' := [.int 1]) rfl (kc' := (kc1 + 4500)) rfl (ns' := (ns1 + 71000)) rfl ?_
          refine zv_go rfl (lv' := [(0, .ref sc), (1, .ref a), (2, .ref (s' 0)), (3, .int (nI ti)), (4, .int x), (5, .int (nI k))]) (by rw [hs']) rfl rfl rfl ?_
          refine zv_if_ne C dL_law_71 74 76 rfl (by decide) (fun _ => ?_) (fun c => absurd c (by decide))
          refine zv_iinc (v := (nI (k + 1))) C dL_law_76 79 rfl [(5, .int (nI (k + 1))), (0, .ref sc), (1, .ref a), (2, .ref (s' 0)), (3, .int (nI ti)), (4, .int x)] 5 rfl (nI_1 k) (by decide) rfl ?_
          refine zv_goto C dL_law_79 47 (by decide) ?_
          refine zv_sub [1, 2, 3, 4, 5, 0] (lv' := [(0, .ref sc), (1, .ref a), (2, .ref (s' 0)), (3, .int (nI ti)), (4, .int x), (5, .int (nI (k + 1)))]) rfl ?_
          exact ih_LP (k + 1) n' b' r' y' m0' m1' m2' m3' m4' m5' m6' m7' w' s' pa' da' _ _ hR' (by omega) (by omega) (by omega) (by omega) (by omega)
  refine zv_go rfl (lv' := [(5, .int (nI 0)), (4, .int x), (0, .ref sc), (1, .ref a), (2, .ref (s 0)), (3, .int (nI ti))]) rfl rfl rfl rfl ?_
  refine zv_sub [2, 3, 4, 5, 1, 0] (lv' := [(0, .ref sc), (1, .ref a), (2, .ref (s 0)), (3, .int (nI ti)), (4, .int x), (5, .int (nI 0))]) rfl ?_
  exact LP 4 0 n b r y m0 m1 m2 m3 m4 m5 m6 m7 w s pa da kc ns hR hn0 (by omega) (by omega) (by omega) (by omega)
set_option maxHeartbeats 4000000 in
set_option maxRecDepth 100000 in
theorem la_loop {pP : Program} {l : Launch} {eE : Env} {sS : State} {mM : MethodId} {aA : Array Value} {bB : List Frame} {mT : Method} {cD : Code} {Q : State → Prop} {D : va_G} {cI cZ cA : ClassId} {A : Nat → Prop} (C : zv_C pP mM cD cL_law 27 sS aA wsL_law "RiverNamesLaw" A) (hl : l.stackTraces = false) (hA : A = fun q => sS.heap.size ≤ q) (hE : zx_E sS) (hO : va_AOA .int sS) {sc L : Nat} {xs : Nat → Int32} (hXE : xE sc L xs sS) (hL : L ≤ 2048) (KF : ∀ (ws : va_W) (lv : List (Nat × Value)), zv_V pP l eE room_1 sS mM aA bB mT cD Q 27 D vwCl A A (tyS cI cZ cA) ws 600130 7301079 1323 lv [.int 1]) : ∀ (mu ti : Nat) (a n b : Nat) (r y : Int32) (m0 m1 m2 m3 m4 m5 m6 m7 : Nat → Int32) (w : va_W) (s pa da : Nat → Nat) (kc ns : Nat), zR cI cZ a n b r y m0 m1 m2 m3 m4 m5 m6 m7 w → 0 < n → ti ≤ 8 → kc + 13503 * (8 - ti) ≤ 570000 → ns + 213048 * (8 - ti) ≤ 6900000 → 8 - ti < mu → zv_V pP l eE room_1 sS mM aA bB mT cD Q 27 D vwCl A A (tyS cI cZ cA) ((s 0, .inr (2, [.int r, .int y, .ref (s 1), .ref (s 2)])) :: (s 1, .inl (cA, n, aq pa)) :: (s 2, .inl (cA, b, aq da)) :: (sR cI 6 pa (rP m0 m1 m2 m3 m4 m5) n ++ (sR cI 2 da (rB m6 m7) b ++ w))) kc ns 22 [(0, .ref sc), (1, .ref a), (2, .ref (s 0)), (3, .int (nI ti))] [] := by
  intro mu
  induction mu with
  | zero => intro ti a n b r y m0 m1 m2 m3 m4 m5 m6 m7 w s pa da kc ns _ _ _ _ _ h; exact absurd h (Nat.not_lt_zero _)
  | succ mu ih =>
    intro ti a n b r y m0 m1 m2 m3 m4 m5 m6 m7 w s pa da kc ns hR hn0 hti hkc hns hmu
    have hV := hR.lv
    have hn16 : n ≤ 16 := hV.n16
    have hb16 : b ≤ 16 := hV.b16
    obtain ⟨fs, hrc⟩ := hR.recv
    obtain ⟨d, sD, hD⟩ := hV.dep
    refine zv_iload_n C dL_law_22 23 rfl 3 rfl ?_
    refine zv_bipush (v := 8) C dL_law_23 25 rfl (by decide) ?_
    refine zv_icmp_ge C dL_law_25 28 1318 rfl (by decide) (fun ct => ?_) (fun ct => ?_)
    ·
      refine zv_aload_n C dL_law_1318 1319 rfl 2 rfl ?_
      refine zv_aload_n C dL_law_1319 1320 rfl 1 rfl ?_
      refine zn_callRV (rest := []) C zn_OB (zn_OE hO) (k_X2_isSame l D cI cZ cA hR s pa da) (cwV 1 C.1.2.2.2.2 gL_law_X2_isSame rfl rfl rfl (by decide +kernel) ⟨Nat.le_of_ble_eq_true rfl, Nat.le_of_ble_eq_true rfl⟩) dL_law_1320 1323 rfl (ci := 2) rfl 0 rfl rfl rfl (Nat.le_of_ble_eq_true rfl) ⟨(by show kc + 4700 ≤ 600130; omega), (by show ns + 75000 ≤ 7301079; omega)⟩ [0, 1, 2] rfl (List.Sublist.refl _) (fun v hv => ?_)
      subst hv
      refine zv_go rfl rfl (st' := [.int 1]) rfl (kc' := (kc + 4700)) rfl (ns' := (ns + 75000)) rfl ?_
      refine zv_widen (k' := 600130) (n' := 7301079) (by omega) (by omega) ?_
      exact KF _ _
    ·
      have ht2 : ti < 8 := zn_le' (a := 8) (b := ti) (by omega) (by omega) ct
      refine la_acts C hl hA hE hO hXE hL hR hn0 ht2 (by omega) (by omega) (fun x n b r y m0 m1 m2 m3 m4 m5 m6 m7 w s pa da kc1 ns1 hR hn0 hk1 hs1 => ?_)
      refine la_names C hR (by omega) (by omega) (fun w hR => ?_)
      refine la_places C hR (by omega) (by omega) ?_
      refine la_bridges C hR (by omega) (by omega) (fun w hR => ?_)
      refine la_delta C hR (by omega) (by omega) hn0 (fun w nm pl g hpl hg hR => ?_)
      refine la_rule C hR (by omega) (by omega) hg (fun w hR => ?_)
      refine la_years C hR (by omega) (by omega) hpl hg (fun w yy hR => ?_)
      refine zn_part (ws' := ((s 0, .inr (2, [.int r, .int (y + nI yy), .ref (s 1), .ref (s 2)])) :: (s 1, .inl (cA, n, aq pa)) :: (s 2, .inl (cA, b, aq da)) :: (sR cI 6 pa (rP m0 m1 m2 (swN m1 m3 m4 yy) m4 m5) n ++ (sR cI 2 da (rB m6 m7) b ++ w)))) (List.Sublist.cons _ (List.Sublist.refl _)) ?_
      refine zv_iinc (v := (nI (ti + 1))) C dL_law_1312 1315 rfl [(3, .int (nI (ti + 1))), (0, .ref sc), (1, .ref a), (2, .ref (s 0)), (4, .int x)] 3 rfl (nI_1 ti) (by decide) rfl ?_
      refine zv_goto C dL_law_1315 22 (by decide) ?_
      refine zv_sub [1, 2, 3, 0] (lv' := [(0, .ref sc), (1, .ref a), (2, .ref (s 0)), (3, .int (nI (ti + 1)))]) rfl ?_
      exact ih (ti + 1) a n b r (y + nI yy) m0 m1 m2 (swN m1 m3 m4 yy) m4 m5 m6 m7 w s pa da _ _ hR hn0 (by omega) (by omega) (by omega) (by omega)
set_option maxHeartbeats 4000000 in
set_option maxRecDepth 100000 in
theorem lc_start {pP : Program} {l : Launch} {eE : Env} {sS : State} {mM : MethodId} {aA : Array Value} {bB : List Frame} {mT : Method} {cD : Code} {Q : State → Prop} {D : va_G} {cI cZ cA : ClassId} {A : Nat → Prop} (C : zv_C pP mM cD cL_law 27 sS aA wsL_law "RiverNamesLaw" A) (hl : l.stackTraces = false) (hA : A = fun q => sS.heap.size ≤ q) (hE : zx_E sS) (hO : va_AOA .int sS) {sc L : Nat} {xs : Nat → Int32} (hXE : xE sc L xs sS) (hL : L ≤ 2048) (hNw : va_Nw (.methodLinkNest RL 76 yX2_init RL) sS) (KF : ∀ (ws : va_W) (lv : List (Nat × Value)), zv_V pP l eE room_1 sS mM aA bB mT cD Q 27 D vwCl A A (tyS cI cZ cA) ws 600130 7301079 1323 lv [.int 1]) : zv_V pP l eE room_1 sS mM aA bB mT cD Q 27 D vwCl A A (tyS cI cZ cA) [] 0 0 0 [(0, .ref sc)] [] := by
  have k1 : Cond.classLink RL 26 RX1 ∈ wsL_law := by decide +kernel
  have k2 : Cond.instantiable RX1 6 ∈ wsL_law := by decide +kernel
  have k3 : Cond.initialized RX1 ∈ wsL_law := by decide +kernel
  have k4 : Cond.methodLink RL 81 yX1_init ∈ wsL_law := by decide +kernel
  have k5 : Cond.instanceMethod yX1_init ∈ wsL_law := by decide +kernel
  have hAs : ¬ A sc := by
    rw [hA]
    have := hXE.2
    show ¬ sS.heap.size ≤ sc
    omega
  refine zv_new (ci := 1) C inlX1 rfl tyX1_ok dL_law_0 3 rfl k1 k2 k3 dfX1 dfX1_ok (by decide) (by decide) (fun q0 => ?_)
  refine zv_dup C dL_law_3 4 rfl rfl ?_
  refine zv_callI (tyc := tyL cI cZ) (wc := [(q0, .inr (1, dfX1))]) (wr := []) C (k_X1_init l D cI cZ q0) (cwI 0 C.1.2.2.2.2 gL_law_X1_init rfl rfl rfl (C.1.2.2.2.2 _ k3) (C.1.2.2.2.2 _ k4) (C.1.2.2.2.2 _ k5) rfl (by decide +kernel) ⟨Nat.le_of_ble_eq_true rfl, Nat.le_of_ble_eq_true rfl⟩) dL_law_4 7 rfl (As := []) (rest := [.ref q0]) rfl rfl (Nat.le_of_ble_eq_true rfl) (by decide) [0, 1] rfl [0] rfl rfl [] rfl rfl (by decide) (fun v w0 hv => ?_)
  obtain ⟨q, h, k, eq, rfl, rfl⟩ := hv
  subst eq
  refine zv_go rfl rfl (st' := [.ref (q 0)]) rfl (kc' := 33) rfl (ns' := 518) rfl ?_
  refine zv_wd (ws' := (cR cI cZ q h k 0 0 0 0 z0 z0 z0 z0 z0 z0 z0 z0 z0 z0 z0 z0 z0 z0 0 0 z0 z0 z0 z0 z0 z0 z0 z0 z0 z0 z0 z0 z0 z0 z0 z0 : va_W)) rfl ?_
  have hR0 : zR cI cZ (q 0) 0 0 0 0 z0 z0 z0 z0 z0 z0 z0 z0 (cR cI cZ q h k 0 0 0 0 z0 z0 z0 z0 z0 z0 z0 z0 z0 z0 z0 z0 z0 z0 0 0 z0 z0 z0 z0 z0 z0 z0 z0 z0 z0 z0 z0 z0 z0 z0 z0 : va_W) := zR.zero
  generalize (cR cI cZ q h k 0 0 0 0 z0 z0 z0 z0 z0 z0 z0 z0 z0 z0 z0 z0 z0 z0 0 0 z0 z0 z0 z0 z0 z0 z0 z0 z0 z0 z0 z0 z0 z0 z0 z0 : va_W) = w at hR0 ⊢
  refine zn_inA (fun hw => ?_)
  have hsw : ∀ z ∈ w, ¬ z.1 = sc := fun z hz e => hAs (e ▸ hw z hz)
  refine zv_astore_n C dL_law_7 8 rfl [(1, .ref (q 0)), (0, .ref sc)] (by decide) rfl ?_
  refine zv_aload_n C dL_law_8 9 rfl 0 rfl ?_
  refine zv_aload_n C dL_law_9 10 rfl 1 rfl ?_
  refine zv_wd (ws' := [] ++ (w ++ [])) (by simp only [List.append_nil, List.nil_append]) ?_
  refine zn_callMS (a := []) (bb := []) (rest := []) C bE_B (bE_E hAs ⟨hO, hXE, hNw⟩) (k_L_build l D cI cZ cA (q 0) sc L xs hL w hsw hR0) (va_cwS 2 C.1.2.2.2.2 gL_law_L_build rfl rfl rfl (by decide +kernel) ⟨Nat.le_of_ble_eq_true rfl, Nat.le_of_ble_eq_true rfl⟩) dL_law_10 13 rfl rfl rfl (Nat.le_of_ble_eq_true rfl) ⟨(by show 33 + 40 ≤ 600130; omega), (by show 518 + 400 ≤ 7301079; omega)⟩ [0, 1, 2] rfl (fun v w9 hv => ?_)
  obtain ⟨s0, n, r, m0, m1, m2, m3, m4, m5, m6, m7, rfl, h3, s, pa, da, w', hs, rfl, hR⟩ := hv
  subst hs
  refine zv_wd (ws' := ((s 0, .inr (2, [.int r, .int 0, .ref (s 1), .ref (s 2)])) :: (s 1, .inl (cA, n, aq pa)) :: (s 2, .inl (cA, 0, aq da)) :: (sR cI 6 pa (rP m0 m1 m2 m3 m4 m5) n ++ (sR cI 2 da (rB m6 m7) 0 ++ w')))) (by simp only [List.append_assoc, List.cons_append, List.append_nil, List.nil_append] <;> rfl) ?_
  refine zv_go rfl rfl (st' := [.ref (s 0)]) rfl (kc' := 73) rfl (ns' := 918) rfl ?_
  refine zv_astore_n C dL_law_13 14 rfl [(2, .ref (s 0)), (1, .ref (q 0)), (0, .ref sc)] (by decide) rfl ?_
  refine zv_aload_n C dL_law_14 15 rfl 0 rfl ?_
  refine zn_ifnn C dL_law_15 20 (by decide) ?_
  refine zv_iconst (v := 0) C dL_law_20 21 rfl (by decide) ?_
  refine zv_istore_n C dL_law_21 22 rfl [(3, .int 0), (2, .ref (s 0)), (1, .ref (q 0)), (0, .ref sc)] (by decide) rfl ?_
  refine zv_go rfl (lv' := [(3, .int (nI 0)), (2, .ref (s 0)), (1, .ref (q 0)), (0, .ref sc)]) rfl rfl rfl rfl ?_
  refine zv_sub [3, 2, 1, 0] (lv' := [(0, .ref sc), (1, .ref (q 0)), (2, .ref (s 0)), (3, .int (nI 0))]) rfl ?_
  exact la_loop C hl hA hE hO hXE hL KF 9 0 (q 0) n 0 r 0 m0 m1 m2 m3 m4 m5 m6 m7 w' s pa da 73 918 hR (by omega) (by omega) (by omega) (by omega) (by omega)
