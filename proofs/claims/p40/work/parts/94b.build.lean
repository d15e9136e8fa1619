/-! ===== the script, read in a method of the law; a land that cells choose ===== -/
def xE (sc L : Nat) (xs : Nat → Int32) (U : State) : Prop := va_X sc L xs U U.heap ∧ sc < U.heap.size
theorem xE_B {sc L : Nat} {xs : Nat → Int32} : zn_B (xE sc L xs) := fun _ _ _ _ h => ⟨h.1, h.2⟩
theorem xE_E {sc L : Nat} {xs : Nat → Int32} {A : Nat → Prop} {s : State} (hA : ¬ A sc) (h : xE sc L xs s) : zn_E A s (xE sc L xs) := fun H locs U hS hU hW => by
  have h1 : H[sc]? = s.heap[sc]? := hS.2.1 sc h.2 hA
  refine ⟨?_, ?_⟩
  · rw [hU]
    exact (h.1.kept h1).moved hW.alike
  · rw [hU]
    exact Nat.lt_of_lt_of_le h.2 hS.1
def bE (sc L : Nat) (xs : Nat → Int32) (U : State) : Prop := va_AOA .int U ∧ xE sc L xs U ∧ va_Nw (.methodLinkNest RL 76 yX2_init RL) U
theorem bE_B {sc L : Nat} {xs : Nat → Int32} : zn_B (bE sc L xs) := fun U g mk a h => ⟨zn_OB U g mk a h.1, xE_B U g mk a h.2.1, va_Nw.same rfl rfl h.2.2⟩
theorem bE_E {sc L : Nat} {xs : Nat → Int32} {A : Nat → Prop} {s : State} (hA : ¬ A sc) (h : bE sc L xs s) : zn_E A s (bE sc L xs) := fun H locs U hS hU hW => ⟨zn_OE h.1 H locs U hS hU hW, xE_E hA h.2.1 H locs U hS hU hW, va_Nw.warmM hW h.2.2⟩
section ZNN
variable {p : Program} {l : Launch} {e : Env} {R : Room} {s : State} {m : MethodId} {args : Array Value} {below : List Frame} {meth : Method} {c : Code} {Q : State → Prop} {cc : ByteArray} {nL : Nat} {own : String} {Ts : List Cond} {A B : Nat → Prop} {D : va_G} {cl : List vw_C} {tys : List (ClassId × FieldType)} {ws : va_W} {kc ns pc n : Nat} {lv : List (Nat × Value)} {st : List Value}
theorem zn_callMIN (C : zv_C p m c cc nL s args Ts own A) {y : MethodName} {wy : List Cond} {rm : Room} {index maxL nA : Nat} {bytes : ByteArray} {host : String} {As rest : List Value} {wc : va_W} {tyc : List (ClassId × FieldType)} {E : State → Prop} {post : Option Value → va_W → Prop} {b : Addr} {a bb : va_W} (hb : zn_B E) (hE : zn_E A s E) (hM : zv_ME E l y wy rm D cl tyc (.ref b :: As) wc post) (cw : va_CN R s args own index y host bytes maxL none wy rm rm.cells rm.slots nA ∧ y.name = "<init>" ∧ (Cond.instanceMethod y).before args s = true) (hdg : decode cc pc = .ok (.invokespecial index, 3)) (n : Nat) (hn : pc + 3 = n) (hst : st = As.reverse ++ .ref b :: rest) (hnA : As.length = nA) (hroom : (rest.map fun v => v.category).sum ≤ 8) (hcs : kc + rm.cells ≤ R.cells ∧ ns + rm.slots ≤ R.slots) (isT : List Nat) (hT : isT.filterMap (fun i => tys[i]?) = tyc) (kk : ∀ (v : Option Value) (w : va_W), post v w → zv_V p l e R s m args below meth c Q nL D cl A A tys (a ++ (w ++ bb)) (kc + rm.cells) (ns + rm.slots) n lv (v.toList ++ rest)) : zv_V p l e R s m args below meth c Q nL D cl A A tys (a ++ (wc ++ bb)) kc ns pc lv st := by
  subst hn; subst hst
  intro H locs ls hK hP hD hS h
  have hPc := zn_Psub hP ((List.sublist_append_left wc bb).trans (List.sublist_append_right a (wc ++ bb)))
  have hDc := zn_Dsub hD ((List.sublist_append_left wc bb).trans (List.sublist_append_right a (wc ++ bb)))
  have hKc := hK.sub isT hT
  exact zn_cM C (g := F0 m pc ls (As.reverse ++ .ref b :: rest)) (va_runIN (l := l) (e := e) (below := below) (meth := meth) (locs := locs) (g := F0 m pc ls (As.reverse ++ .ref b :: rest)) (As := As) (rest := rest) (b := b) C.1 (hM H.size) cw ⟨zn_blind hb D cl tyc wc H.size _, fun U hU hW => ⟨rfl, ⟨by rw [hU], by rw [hU]; exact hPc, va_K.moved hW.alike hKc, hDc.weaken (fun _ _ _ _ => trivial)⟩, hE H locs U hS hU hW⟩⟩ rfl hnA h.1 rfl (lv_room hroom) hdg hcs) hK hP hD hS h kk
end ZNN
abbrev rmL_cell : Room := { frames := 0, cells := 0, slots := 0, locals := 0 }
set_option maxHeartbeats 4000000 in
set_option maxRecDepth 100000 in
theorem k_L_cell (l : Launch) (D : va_G) (cI cZ cA : ClassId) (sc L : Nat) (xs : Nat → Int32) (hL : L ≤ 2048) (k : Nat) (hk : k ≤ 100) : zv_RX (xE sc L xs) l yL_cell wsL_cell rmL_cell D vwCl (tyL cI cZ) [.ref sc, .int (nI k)] [] (fun v => ∃ x : Int32, v = some (.int x)) := by
  refine zv_RX.of cL_cell 2 (some .int) (by decide) rfl (Nat.le_of_ble_eq_true rfl) ?_
  intro pP eE sS mM aA bB mT cD A C hr hlk hA hO Q hQ
  have hAq : ∀ q : Nat, sS.heap.size ≤ q → A q := C.2
  have kc8 : Cond.constant RL 8 (790386105) ∈ wsL_cell := by decide +kernel
  refine zv_go (pc' := 0) rfl (lv' := [(0, .ref sc), (1, .int (nI k))]) rfl rfl rfl rfl ?_
  obtain ⟨hX, hsc⟩ := hO
  refine zv_iload_n C dL_cell_0 1 rfl 1 rfl ?_
  refine zv_aload_n C dL_cell_1 2 rfl 0 rfl ?_
  refine zv_slen C hA hX hsc dL_cell_2 3 rfl ?_
  refine zv_icmp_ge C dL_cell_3 6 12 rfl (by decide) (fun c => ?_) (fun c => ?_)
  ·
    refine zn_ldc (v := 790386105) C dL_cell_12 14 rfl kc8 ?_
    refine zv_iload_n C dL_cell_14 15 rfl 1 rfl ?_
    refine zv_iconst (v := 3) C dL_cell_15 16 rfl (by decide) ?_
    refine zv_iadd (v := (nI (k + 3))) C dL_cell_16 17 rfl (nI_add k 3) ?_
    refine zv_imul (v := (790386105 * (nI (k + 3)))) C dL_cell_17 18 rfl rfl ?_
    exact zv_iretR C hr hlk hA hQ dL_cell_18 ⟨_, rfl⟩
  ·
    refine zv_aload_n C dL_cell_6 7 rfl 0 rfl ?_
    refine zv_iload_n C dL_cell_7 8 rfl 1 rfl ?_
    refine zv_sld (v := xs k) C hA hX hsc dL_cell_8 9 rfl k rfl (zn_le' (by omega) (by omega) c) hL rfl ?_
    refine zv_goto C dL_cell_9 18 (by decide) ?_
    exact zv_iretR C hr hlk hA hQ dL_cell_18 ⟨_, rfl⟩
abbrev rmL_build : Room := { frames := 8, cells := 40, slots := 400, locals := 190 }
set_option maxHeartbeats 4000000 in
set_option maxRecDepth 100000 in
theorem k_L_build (l : Launch) (D : va_G) (cI cZ cA : ClassId) (a sc L : Nat) (xs : Nat → Int32) (hL : L ≤ 2048) (w : va_W) (hsw : ∀ q ∈ w, ¬ q.1 = sc) (hR : zR cI cZ a 0 0 0 0 z0 z0 z0 z0 z0 z0 z0 z0 w) : zv_ME (bE sc L xs) l yL_build wsL_build rmL_build D vwCl (tyS cI cZ cA) [.ref a, .ref sc] (w) (fun v u => ∃ (s0 n : Nat) (r : Int32) (m0 m1 m2 m3 m4 m5 m6 m7 : Nat → Int32), v = some (.ref s0) ∧ 3 ≤ n ∧ zB cI cZ cA a s0 n 0 r 0 m0 m1 m2 m3 m4 m5 m6 m7 u) := by
  refine zv_ME.of cL_build 8 (some (.object "RiverNamesLaw$Sim")) (by decide) rfl (Nat.le_of_ble_eq_true rfl) ?_
  intro pP eE sS mM aA bB mT cD A C hr hlk hnm hAw hO Q hQ
  have j1 : Cond.classLink RL 10 RX2 ∈ wsL_build := by decide +kernel
  have j2 : Cond.instantiable RX2 4 ∈ wsL_build := by decide +kernel
  have j3 : Cond.initialized RX2 ∈ wsL_build := by decide +kernel
  have j5 : Cond.instanceMethod yX2_init ∈ wsL_build := by decide +kernel
  have inX2 : ∀ w ∈ u_ws RX2 TX2 4, w ∈ wsL_build := by decide +kernel
  have lk46 : Cond.fieldLink RL 46 "RiverNamesLaw$Sim" "rule" "I" ∈ wsL_build := by decide +kernel
  have lk9 : Cond.fieldLink RL 9 "RiverNamesLaw$Sim" "places" "[[I" ∈ wsL_build := by decide +kernel
  have arint : Cond.arrayClass .int ∈ wsL_build := by decide +kernel
  refine zv_go (pc' := 0) rfl (lv' := [(0, .ref a), (1, .ref sc)]) rfl rfl rfl rfl ?_
  obtain ⟨hOA, hXE, hNw⟩ := hO
  have hO := hOA
  have hAs : ¬ A sc := by
    rw [hAw]
    rintro (⟨k, e, hk⟩ | z)
    · exact hsw _ (List.mem_of_getElem? hk) rfl
    · have := hXE.2; omega
  refine zv_new (ci := 2) C inX2 rfl tyX2_ok dL_build_0 3 rfl j1 j2 j3 dfX2 dfX2_ok (by show 0 + 1 ≤ 40; omega) (by show 0 + 4 ≤ 400; omega) (fun q0 => ?_)
  refine zv_go rfl rfl rfl (kc' := 1) rfl (ns' := 4) rfl ?_
  refine zv_dup C dL_build_3 4 rfl rfl ?_
  refine zv_wd (ws' := w ++ ([(q0, .inr (2, dfX2))] ++ [])) rfl ?_
  refine zn_callMIN (a := w) (bb := []) (rest := [.ref q0]) C zn_OB (zn_OE hO) (k_X2_init l D cI cZ cA q0) ⟨va_cnB 0 C.1.2.2.2.2 gL_build_X2_init_n76 rfl rfl rfl hNw (C.1.2.2.2.2 _ j3) (by decide +kernel) ⟨Nat.le_of_ble_eq_true rfl, Nat.le_of_ble_eq_true rfl⟩, rfl, C.1.2.2.2.2 _ j5⟩ dL_build_4 7 rfl rfl rfl (Nat.le_of_ble_eq_true rfl) ⟨(by show 1 + 2 ≤ 40; omega), (by show 4 + 0 ≤ 400; omega)⟩ [0, 1, 2] rfl (fun v u hv => ?_)
  obtain ⟨s, es, rfl, rfl⟩ := hv
  subst es
  refine zn_perm (ws' := cS cI cA s 0 0 0 0 (fun _ => 0) (fun _ => 0) z0 z0 z0 z0 z0 z0 z0 z0 ++ w) (by rw [List.append_nil]; exact List.perm_append_comm) ?_
  refine zv_go rfl rfl (st' := [.ref (s 0)]) rfl (kc' := 3) rfl (ns' := 4) rfl ?_
  refine zv_astore_n C dL_build_7 8 rfl [(2, .ref (s 0)), (0, .ref a), (1, .ref sc)] (by decide) rfl ?_
  refine zv_iconst (v := 3) C dL_build_8 9 rfl (by decide) ?_
  refine zv_aload_n C dL_build_9 10 rfl 2 rfl ?_
  refine zv_iconst (v := 0) C dL_build_10 11 rfl (by decide) ?_
  refine zv_go rfl rfl (st' := [.int (nI 0), .ref sc, .int 3]) (by rfl) rfl rfl ?_
  refine zn_callRS (rest := [.int 3]) C xE_B (xE_E hAs hXE) (k_L_cell l D cI cZ cA sc L xs hL 0 (by omega)) (va_cwS 2 C.1.2.2.2.2 gL_build_L_cell rfl rfl rfl (by decide +kernel) ⟨Nat.le_of_ble_eq_true rfl, Nat.le_of_ble_eq_true rfl⟩) dL_build_11 14 rfl rfl rfl (Nat.le_of_ble_eq_true rfl) ⟨(by show 3 + 0 ≤ 40; omega), (by show 4 + 0 ≤ 400; omega)⟩ [0, 1] rfl (List.nil_sublist _) (fun v hv => ?_)
  obtain ⟨x0, rfl⟩ := hv
  refine zv_go rfl rfl (st' := [.int x0, .int 3]) rfl (kc' := 3) rfl (ns' := 4) rfl ?_
  refine zv_bipush (v := 11) C dL_build_14 16 rfl (by decide) ?_
  refine zv_go rfl rfl (st' := [.int (nI 11), .int x0, .int 3]) (by rfl) rfl rfl ?_
  refine zn_callRS (rest := [.int 3]) C zn_TB zn_TE (zn_ofR (k_L_below l D cI cZ cA x0 11 (by omega) (by omega))) (va_cwS 2 C.1.2.2.2.2 gL_build_L_below rfl rfl rfl (by decide +kernel) ⟨Nat.le_of_ble_eq_true rfl, Nat.le_of_ble_eq_true rfl⟩) dL_build_16 19 rfl rfl rfl (Nat.le_of_ble_eq_true rfl) ⟨(by show 3 + 0 ≤ 40; omega), (by show 4 + 0 ≤ 400; omega)⟩ [0, 1] rfl (List.nil_sublist _) (fun v hv => ?_)
  subst hv
  refine zv_go rfl rfl (st' := [.int (nI (bl x0 11)), .int 3]) rfl (kc' := 3) rfl (ns' := 4) rfl ?_
  have hx0 := bl_lt x0 (N := 11) (by omega)
  refine zv_iadd (v := (nI (3 + bl x0 11))) C dL_build_19 20 rfl (nI_add 3 (bl x0 11)) ?_
  obtain ⟨nn, hnn, h3n, h13n⟩ : ∃ nn : Nat, 3 + bl x0 11 = nn ∧ 3 ≤ nn ∧ nn ≤ 13 := ⟨_, rfl, by omega, by omega⟩
  refine zv_go rfl rfl (st' := [.int (nI nn)]) (by rw [← hnn]) rfl rfl ?_
  refine zv_istore_n C dL_build_20 21 rfl [(3, .int (nI nn)), (2, .ref (s 0)), (0, .ref a), (1, .ref sc)] (by decide) rfl ?_
  refine zv_iconst (v := 0) C dL_build_21 22 rfl (by decide) ?_
  refine zv_istore C dL_build_22 24 rfl [(4, .int 0), (3, .int (nI nn)), (2, .ref (s 0)), (0, .ref a), (1, .ref sc)] (by decide) rfl ?_
  have L1 : ∀ (mu_L1 : Nat), ∀ (n : Nat) (s pa da : Nat → Nat) (m0 m1 m2 m3 m4 m5 m6 m7 : Nat → Int32) (w : va_W) (kc ns : Nat), (zR cI cZ a n 0 0 0 m0 m1 m2 m3 m4 m5 m6 m7 w) → (n ≤ nn) → (∀ i, i < n → m0 i = -1) → (kc + 2 * (nn - n) ≤ 40) → (ns + 23 * (nn - n) ≤ 400) → nn - n < mu_L1 → zv_V pP l eE rmL_build sS mM aA bB mT cD Q 8 D vwCl A A (tyS cI cZ cA) ((s 0, .inr (2, [.int 0, .int 0, .ref (s 1), .ref (s 2)])) :: (s 1, .inl (cA, n, aq pa)) :: (s 2, .inl (cA, 0, aq da)) :: (sR cI 6 pa (rP m0 m1 m2 m3 m4 m5) n ++ (sR cI 2 da (rB m6 m7) 0 ++ w))) kc ns 24 [(0, .ref a), (1, .ref sc), (2, .ref (s 0)), (3, .int (nI nn)), (4, .int (nI n))] [] := by
    intro mu_L1
    induction mu_L1 with
    | zero => intro n s pa da m0 m1 m2 m3 m4 m5 m6 m7 w kc ns hR hn hm0 hkc hns hmu_L1; exact absurd hmu_L1 (Nat.not_lt_zero _)
    | succ mu_L1 ih_L1 =>
      intro n s pa da m0 m1 m2 m3 m4 m5 m6 m7 w kc ns hR hn hm0 hkc hns hmu_L1
      refine zv_iload C dL_build_24 26 rfl 4 rfl ?_
      refine zv_iload_n C dL_build_26 27 rfl 3 rfl ?_
      refine zv_icmp_ge C dL_build_27 30 207 rfl (by decide) (fun ck => ?_) (fun ck => ?_)
      ·
        have e1 : n = nn := by have := zn_le (by omega) (by omega) ck; omega
        subst e1
        clear ih_L1
        refine zv_iconst (v := 0) C dL_build_207 208 rfl (by decide) ?_
        refine zv_istore C dL_build_208 210 rfl [(4, .int 0), (0, .ref a), (1, .ref sc), (2, .ref (s 0)), (3, .int (nI n))] (by decide) rfl ?_
        have L2 : ∀ (mu_L2 : Nat), ∀ (p : Nat) (m0 : Nat → Int32) (w : va_W), (zR cI cZ a n 0 0 0 m0 m1 m2 m3 m4 m5 m6 m7 w) → (p ≤ n) → (∀ i, p ≤ i → i < n → m0 i = -1) → n - p < mu_L2 → zv_V pP l eE rmL_build sS mM aA bB mT cD Q 8 D vwCl A A (tyS cI cZ cA) ((s 0, .inr (2, [.int 0, .int 0, .ref (s 1), .ref (s 2)])) :: (s 1, .inl (cA, n, aq pa)) :: (s 2, .inl (cA, 0, aq da)) :: (sR cI 6 pa (rP m0 m1 m2 m3 m4 m5) n ++ (sR cI 2 da (rB m6 m7) 0 ++ w))) kc ns 210 [(0, .ref a), (1, .ref sc), (2, .ref (s 0)), (3, .int (nI n)), (4, .int (nI p))] [] := by
          intro mu_L2
          induction mu_L2 with
          | zero => intro p m0 w hR hp hun hmu_L2; exact absurd hmu_L2 (Nat.not_lt_zero _)
          | succ mu_L2 ih_L2 =>
            intro p m0 w hR hp hun hmu_L2
            refine zv_iload C dL_build_210 212 rfl 4 rfl ?_
            refine zv_iload_n C dL_build_212 213 rfl 3 rfl ?_
            refine zv_icmp_ge C dL_build_213 216 300 rfl (by decide) (fun cp => ?_) (fun cp => ?_)
            ·
              have e1 : p = n := by have := zn_le (by omega) (by omega) cp; omega
              subst e1
              obtain ⟨fs, hrc⟩ := hR.recv
              have hn0 : 0 < p := by omega
              refine zv_aload_n C dL_build_300 301 rfl 2 rfl ?_
              refine zv_aload_n C dL_build_301 302 rfl 1 rfl ?_
              refine zv_bipush (v := 15) C dL_build_302 304 rfl (by decide) ?_
              refine zv_go rfl rfl (st' := [.int (nI 15), .ref sc, .ref (s 0)]) (by rfl) rfl rfl ?_
              refine zn_callRS (rest := [.ref (s 0)]) C xE_B (xE_E hAs hXE) (k_L_cell l D cI cZ cA sc L xs hL 15 (by omega)) (va_cwS 2 C.1.2.2.2.2 gL_build_L_cell rfl rfl rfl (by decide +kernel) ⟨Nat.le_of_ble_eq_true rfl, Nat.le_of_ble_eq_true rfl⟩) dL_build_304 307 rfl rfl rfl (Nat.le_of_ble_eq_true rfl) ⟨(by show kc + 0 ≤ 40; omega), (by show ns + 0 ≤ 400; omega)⟩ [0, 1] rfl (List.nil_sublist _) (fun v hv => ?_)
              obtain ⟨x3, rfl⟩ := hv
              refine zv_go rfl rfl (st' := [.int x3, .ref (s 0)]) rfl (kc' := kc) rfl (ns' := ns) rfl ?_
              refine zv_iconst (v := 2) C dL_build_307 308 rfl (by decide) ?_
              refine zv_go rfl rfl (st' := [.int (nI 2), .int x3, .ref (s 0)]) (by rfl) rfl rfl ?_
              refine zn_callRS (rest := [.ref (s 0)]) C zn_TB zn_TE (zn_ofR (k_L_below l D cI cZ cA x3 2 (by omega) (by omega))) (va_cwS 2 C.1.2.2.2.2 gL_build_L_below rfl rfl rfl (by decide +kernel) ⟨Nat.le_of_ble_eq_true rfl, Nat.le_of_ble_eq_true rfl⟩) dL_build_308 311 rfl rfl rfl (Nat.le_of_ble_eq_true rfl) ⟨(by show kc + 0 ≤ 40; omega), (by show ns + 0 ≤ 400; omega)⟩ [0, 1] rfl (List.nil_sublist _) (fun v hv => ?_)
              subst hv
              refine zv_go rfl rfl (st' := [.int (nI (bl x3 2)), .ref (s 0)]) rfl (kc' := kc) rfl (ns' := ns) rfl ?_
              refine zv_put (ci := 2) C inX2 rfl tyX2_ok nmX2 dL_build_311 314 rfl 0 0 rfl (by decide) lk46 rfl rfl rfl (Nat.le_of_ble_eq_true rfl) ((s 0, .inr (2, [.int (nI (bl x3 2)), .int 0, .ref (s 1), .ref (s 2)])) :: (s 1, .inl (cA, p, aq pa)) :: (s 2, .inl (cA, 0, aq da)) :: (sR cI 6 pa (rP m0 m1 m2 m3 m4 m5) p ++ (sR cI 2 da (rB m6 m7) 0 ++ w))) rfl ?_
              refine zv_aload_n C dL_build_314 315 rfl 0 rfl ?_
              refine zv_aload_n C dL_build_315 316 rfl 2 rfl ?_
              refine zv_get (ci := 2) C inX2 rfl dL_build_316 319 rfl 0 0 rfl (by decide) lk46 rfl ?_
              refine zv_wd (ws' := ((s 0, .inr (2, [.int (nI (bl x3 2)), .int 0, .ref (s 1), .ref (s 2)])) :: (s 1, .inl (cA, p, aq pa)) :: (s 2, .inl (cA, 0, aq da)) :: (sR cI 6 pa (rP m0 m1 m2 m3 m4 m5) p ++ sR cI 2 da (rB m6 m7) 0)) ++ (w ++ [])) (by simp only [List.append_assoc, List.cons_append, List.append_nil, List.nil_append] <;> rfl) ?_
              refine zn_callMV (a := ((s 0, .inr (2, [.int (nI (bl x3 2)), .int 0, .ref (s 1), .ref (s 2)])) :: (s 1, .inl (cA, p, aq pa)) :: (s 2, .inl (cA, 0, aq da)) :: (sR cI 6 pa (rP m0 m1 m2 m3 m4 m5) p ++ sR cI 2 da (rB m6 m7) 0))) (bb := []) (rest := []) C zn_TB zn_TE (zn_ofM (w_setRule l D hR (nI (bl x3 2)) (isI_nI (lo := 0) (hi := 1) (Nat.zero_le _) (by have := bl_lt x3 (N := 2) (by omega); omega) (by omega)))) (cwV 1 C.1.2.2.2.2 gL_build_X1_setRule rfl rfl rfl (by decide +kernel) ⟨Nat.le_of_ble_eq_true rfl, Nat.le_of_ble_eq_true rfl⟩) dL_build_319 322 rfl (ci := 1) rfl 0 hrc rfl rfl (Nat.le_of_ble_eq_true rfl) ⟨(by show kc + 0 ≤ 40; omega), (by show ns + 0 ≤ 400; omega)⟩ [0, 1] rfl (fun v w' hv => ?_)
              obtain ⟨rfl, hR2⟩ := hv
              refine zv_wd (ws' := ((s 0, .inr (2, [.int (nI (bl x3 2)), .int 0, .ref (s 1), .ref (s 2)])) :: (s 1, .inl (cA, p, aq pa)) :: (s 2, .inl (cA, 0, aq da)) :: (sR cI 6 pa (rP m0 m1 m2 m3 m4 m5) p ++ (sR cI 2 da (rB m6 m7) 0 ++ w')))) (by simp only [List.append_assoc, List.cons_append, List.append_nil, List.nil_append] <;> rfl) ?_
              refine zv_go rfl rfl (st' := [.int 0]) rfl (kc' := kc) rfl (ns' := ns) rfl ?_
              refine zv_if_ne C dL_build_322 325 329 rfl (by decide) (fun c => absurd c (fun c => c rfl)) (fun _ => ?_)
              refine zv_aload_n C dL_build_325 326 rfl 2 rfl ?_
              refine zv_goto C dL_build_326 330 (by decide) ?_
              refine zv_wd (ws' := cS cI cA s (nI (bl x3 2)) 0 p 0 pa da m0 m1 m2 m3 m4 m5 m6 m7 ++ w') (by simp only [List.append_assoc, List.cons_append, List.append_nil, List.nil_append] <;> rfl) ?_
              refine zv_widen (k' := 40) (n' := 400) (by omega) (by omega) ?_
              exact zn_aretM C hr (Or.inl ⟨_, rfl⟩) hlk hQ dL_build_330 ⟨s 0, p, nI (bl x3 2), m0, m1, m2, m3, m4, m5, m6, m7, rfl, h3n, s, pa, da, w', rfl, rfl, hR2⟩
            ·
              have hp2 : p < n := zn_le' (by omega) (by omega) cp
              have hV := hR.lv
              have hn16 : n ≤ 16 := hV.n16
              have hb16 : 0 ≤ 16 := by omega
              obtain ⟨fs, hrc⟩ := hR.recv
              refine zv_aload_n C dL_build_216 217 rfl 1 rfl ?_
              refine zv_iconst (v := 1) C dL_build_217 218 rfl (by decide) ?_
              refine zv_iload C dL_build_218 220 rfl 4 rfl ?_
              refine zv_iadd (v := (nI (1 + p))) C dL_build_220 221 rfl (nI_add 1 p) ?_
              refine zn_callRS (rest := []) C xE_B (xE_E hAs hXE) (k_L_cell l D cI cZ cA sc L xs hL (1 + p) (by omega)) (va_cwS 2 C.1.2.2.2.2 gL_build_L_cell rfl rfl rfl (by decide +kernel) ⟨Nat.le_of_ble_eq_true rfl, Nat.le_of_ble_eq_true rfl⟩) dL_build_221 224 rfl rfl rfl (Nat.le_of_ble_eq_true rfl) ⟨(by show kc + 0 ≤ 40; omega), (by show ns + 0 ≤ 400; omega)⟩ [0, 1] rfl (List.nil_sublist _) (fun v hv => ?_)
              obtain ⟨x1, rfl⟩ := hv
              refine zv_go rfl rfl (st' := [.int x1]) rfl (kc' := kc) rfl (ns' := ns) rfl ?_
              refine zv_iconst (v := 5) C dL_build_224 225 rfl (by decide) ?_
              refine zn_ishr C dL_build_225 226 rfl ?_
              refine zv_iload_n C dL_build_226 227 rfl 3 rfl ?_
              refine zn_callRS (rest := []) C zn_TB zn_TE (zn_ofR (k_L_below l D cI cZ cA (x1 >>> ((5 : Int32) &&& 31)) n (by omega) (by omega))) (va_cwS 2 C.1.2.2.2.2 gL_build_L_below rfl rfl rfl (by decide +kernel) ⟨Nat.le_of_ble_eq_true rfl, Nat.le_of_ble_eq_true rfl⟩) dL_build_227 230 rfl rfl rfl (Nat.le_of_ble_eq_true rfl) ⟨(by show kc + 0 ≤ 40; omega), (by show ns + 0 ≤ 400; omega)⟩ [0, 1] rfl (List.nil_sublist _) (fun v hv => ?_)
              subst hv
              refine zv_go rfl rfl (st' := [.int (nI (bl (x1 >>> ((5 : Int32) &&& 31)) n))]) rfl (kc' := kc) rfl (ns' := ns) rfl ?_
              obtain ⟨t, ht, et⟩ : ∃ t, t < n ∧ bl (x1 >>> ((5 : Int32) &&& 31)) n = t := ⟨_, bl_lt _ (by omega), rfl⟩
              refine zv_go rfl rfl (st' := [.int (nI t)]) (by rw [et]) rfl rfl ?_
              refine zv_istore C dL_build_230 232 rfl [(5, .int (nI t)), (0, .ref a), (1, .ref sc), (2, .ref (s 0)), (3, .int (nI n)), (4, .int (nI p))] (by decide) rfl ?_
              refine zv_iload C dL_build_232 234 rfl 0 rfl ?_
              refine zv_iload C dL_build_234 236 rfl 5 rfl ?_
              refine zv_icmp_eq C dL_build_236 239 294 rfl (by decide) (fun ct => ?_) (fun ct => ?_)
              ·
                refine zv_iinc (v := (nI (p + 1))) C dL_build_294 297 rfl [(4, .int (nI (p + 1))), (5, .int (nI t)), (0, .ref a), (1, .ref sc), (2, .ref (s 0)), (3, .int (nI n))] 5 rfl (nI_1 p) (by decide) rfl ?_
                refine zv_goto C dL_build_297 210 (by decide) ?_
                refine zv_sub [2, 3, 4, 5, 0] (lv' := [(0, .ref a), (1, .ref sc), (2, .ref (s 0)), (3, .int (nI n)), (4, .int (nI (p + 1)))]) rfl ?_
                exact ih_L2 (p + 1) m0 w hR (by omega) (fun i h1 h2 => hun i (by omega) h2) (by omega)
              ·
                have hne : ¬ p = t := fun z => ct (by rw [z])
                refine zv_aload_n C dL_build_239 240 rfl 3 rfl ?_
                refine zv_iload C dL_build_240 242 rfl 0 rfl ?_
                refine zv_iload C dL_build_242 244 rfl 5 rfl ?_
                refine zn_callRV (rest := []) C zn_TB zn_TE (zn_ofR (k_X2_isAbove l D cI cZ cA 0 hV s pa da t p ht hp2)) (cwV 2 C.1.2.2.2.2 gL_build_X2_isAbove rfl rfl rfl (by decide +kernel) ⟨Nat.le_of_ble_eq_true rfl, Nat.le_of_ble_eq_true rfl⟩) dL_build_244 247 rfl (ci := 2) rfl 0 rfl rfl rfl (Nat.le_of_ble_eq_true rfl) ⟨(by show kc + 0 ≤ 40; omega), (by show ns + 0 ≤ 400; omega)⟩ [0, 1, 2] rfl (List.Sublist.cons_cons _ (List.Sublist.cons_cons _ (List.Sublist.cons_cons _ (List.Sublist.append (List.Sublist.refl _) (List.sublist_append_left _ _))))) (fun v hv => ?_)
                subst hv
                refine zv_go rfl rfl (st' := [.int (zb (fl m0 (nI p) 16 (m0 t)))]) rfl (kc' := kc) rfl (ns' := ns) rfl ?_
                refine zv_if_ne C dL_build_247 250 294 rfl (by decide) (fun cf => ?_) (fun cf => ?_)
                ·
                  refine zv_iinc (v := (nI (p + 1))) C dL_build_294 297 rfl [(4, .int (nI (p + 1))), (5, .int (nI t)), (0, .ref a), (1, .ref sc), (2, .ref (s 0)), (3, .int (nI n))] 5 rfl (nI_1 p) (by decide) rfl ?_
                  refine zv_goto C dL_build_297 210 (by decide) ?_
                  refine zv_sub [2, 3, 4, 5, 0] (lv' := [(0, .ref a), (1, .ref sc), (2, .ref (s 0)), (3, .int (nI n)), (4, .int (nI (p + 1)))]) rfl ?_
                  exact ih_L2 (p + 1) m0 w hR (by omega) (fun i h1 h2 => hun i (by omega) h2) (by omega)
                ·
                  have hfl : fl m0 (nI p) 16 (m0 t) = false := zb_eq0.mp cf
                  refine zv_aload_n C dL_build_250 251 rfl 2 rfl ?_
                  refine zv_iconst (v := 2) C dL_build_251 252 rfl (by decide) ?_
                  refine zv_iload C dL_build_252 254 rfl 5 rfl ?_
                  refine zv_iadd (v := (nI (2 + p))) C dL_build_254 255 rfl (nI_add 2 p) ?_
                  refine zn_callRS (rest := []) C xE_B (xE_E hAs hXE) (k_L_cell l D cI cZ cA sc L xs hL (2 + p) (by omega)) (va_cwS 2 C.1.2.2.2.2 gL_build_L_cell rfl rfl rfl (by decide +kernel) ⟨Nat.le_of_ble_eq_true rfl, Nat.le_of_ble_eq_true rfl⟩) dL_build_255 258 rfl rfl rfl (Nat.le_of_ble_eq_true rfl) ⟨(by show kc + 0 ≤ 40; omega), (by show ns + 0 ≤ 400; omega)⟩ [0, 1] rfl (List.nil_sublist _) (fun v hv => ?_)
                  obtain ⟨x2, rfl⟩ := hv
                  refine zv_go rfl rfl (st' := [.int x2]) rfl (kc' := kc) rfl (ns' := ns) rfl ?_
                  refine zv_bipush (v := 6) C dL_build_258 260 rfl (by decide) ?_
                  refine zv_go rfl rfl (st' := [.int (nI 6), .int x2]) (by rfl) rfl rfl ?_
                  refine zn_callRS (rest := []) C zn_TB zn_TE (zn_ofR (k_L_below l D cI cZ cA x2 6 (by omega) (by omega))) (va_cwS 2 C.1.2.2.2.2 gL_build_L_below rfl rfl rfl (by decide +kernel) ⟨Nat.le_of_ble_eq_true rfl, Nat.le_of_ble_eq_true rfl⟩) dL_build_260 263 rfl rfl rfl (Nat.le_of_ble_eq_true rfl) ⟨(by show kc + 0 ≤ 40; omega), (by show ns + 0 ≤ 400; omega)⟩ [0, 1] rfl (List.nil_sublist _) (fun v hv => ?_)
                  subst hv
                  refine zv_go rfl rfl (st' := [.int (nI (bl x2 6))]) rfl (kc' := kc) rfl (ns' := ns) rfl ?_
                  refine zv_if_ne C dL_build_263 266 269 rfl (by decide) (fun c6 => ?_) (fun c6 => ?_)
                  ·
                    refine zv_aload_n C dL_build_269 270 rfl 3 rfl ?_
                    refine zv_get (ci := 2) C inX2 rfl dL_build_270 273 rfl 0 2 rfl (by decide) lk9 rfl ?_
                    refine zv_iload C dL_build_273 275 rfl 5 rfl ?_
                    refine zn_aald (r := pa p) C dL_build_275 276 rfl 1 2 p rfl rfl rfl (by omega) (by omega) rfl ?_
                    refine zv_iconst (v := 0) C dL_build_276 277 rfl (by decide) ?_
                    refine zv_iload C dL_build_277 279 rfl 0 rfl ?_
                    refine zv_iast (x' := (nI t)) C dL_build_279 280 rfl (p + 3) 0 0 (zr_p0 (by omega)) rfl (by decide) (by omega) (by omega) rfl ((s 0, .inr (2, [.int 0, .int 0, .ref (s 1), .ref (s 2)])) :: (s 1, .inl (cA, n, aq pa)) :: (s 2, .inl (cA, 0, aq da)) :: (sR cI 6 pa (rP (upd m0 p (nI t)) m1 m2 m3 m4 m5) n ++ (sR cI 2 da (rB m6 m7) 0 ++ w))) (congrArg (List.cons _) (congrArg (List.cons _) (congrArg (List.cons _) (zr_set0 (G := rP (upd m0 p (nI t)) m1 m2 m3 m4 m5) (by omega) (by show r6 ((upd m0 p (nI t)) p) (m1 p) (m2 p) (m3 p) (m4 p) (m5 p) = _; rw [upd_at]; exact r6_u0 _ _ _ _ _ _ _) (fun j9 _ h9 => by show r6 ((upd m0 p (nI t)) j9) (m1 j9) (m2 j9) (m3 j9) (m4 j9) (m5 j9) = r6 (m0 j9) (m1 j9) (m2 j9) (m3 j9) (m4 j9) (m5 j9); rw [upd_ne _ _ _ h9]))))) ?_
                    refine zv_aload_n C dL_build_280 281 rfl 1 rfl ?_
                    refine zv_iload C dL_build_281 283 rfl 5 rfl ?_
                    refine zv_iload C dL_build_283 285 rfl 0 rfl ?_
                    refine zv_wd (ws' := ((s 0, .inr (2, [.int 0, .int 0, .ref (s 1), .ref (s 2)])) :: (s 1, .inl (cA, n, aq pa)) :: (s 2, .inl (cA, 0, aq da)) :: (sR cI 6 pa (rP (upd m0 p (nI t)) m1 m2 m3 m4 m5) n ++ sR cI 2 da (rB m6 m7) 0)) ++ (w ++ [])) (by simp only [List.append_assoc, List.cons_append, List.append_nil, List.nil_append] <;> rfl) ?_
                    refine zn_callMV (a := ((s 0, .inr (2, [.int 0, .int 0, .ref (s 1), .ref (s 2)])) :: (s 1, .inl (cA, n, aq pa)) :: (s 2, .inl (cA, 0, aq da)) :: (sR cI 6 pa (rP (upd m0 p (nI t)) m1 m2 m3 m4 m5) n ++ sR cI 2 da (rB m6 m7) 0))) (bb := []) (rest := []) C zn_TB zn_TE (zn_ofM (w_lead l D hR p t hp2 ht hne hfl)) (cwV 2 C.1.2.2.2.2 gL_build_X1_lead rfl rfl rfl (by decide +kernel) ⟨Nat.le_of_ble_eq_true rfl, Nat.le_of_ble_eq_true rfl⟩) dL_build_285 288 rfl (ci := 1) rfl 0 hrc rfl rfl (Nat.le_of_ble_eq_true rfl) ⟨(by show kc + 0 ≤ 40; omega), (by show ns + 0 ≤ 400; omega)⟩ [0, 1] rfl (fun v w' hv => ?_)
                    obtain ⟨rfl, hR2⟩ := hv
                    refine zv_wd (ws' := ((s 0, .inr (2, [.int 0, .int 0, .ref (s 1), .ref (s 2)])) :: (s 1, .inl (cA, n, aq pa)) :: (s 2, .inl (cA, 0, aq da)) :: (sR cI 6 pa (rP (upd m0 p (nI t)) m1 m2 m3 m4 m5) n ++ (sR cI 2 da (rB m6 m7) 0 ++ w')))) (by simp only [List.append_assoc, List.cons_append, List.append_nil, List.nil_append] <;> rfl) ?_
                    refine zv_go rfl rfl (st' := [.int (m0 p)]) rfl (kc' := kc) rfl (ns' := ns) rfl ?_
                    refine zv_iconst (v := (-1 : Int32)) C dL_build_288 289 rfl (by decide) ?_
                    refine zv_icmp_eq C dL_build_289 292 294 rfl (by decide) (fun _ => ?_) (fun c => absurd (hun p (Nat.le_refl p) hp2) c)
                    refine zv_iinc (v := (nI (p + 1))) C dL_build_294 297 rfl [(4, .int (nI (p + 1))), (5, .int (nI t)), (0, .ref a), (1, .ref sc), (2, .ref (s 0)), (3, .int (nI n))] 5 rfl (nI_1 p) (by decide) rfl ?_
                    refine zv_goto C dL_build_297 210 (by decide) ?_
                    refine zv_sub [2, 3, 4, 5, 0] (lv' := [(0, .ref a), (1, .ref sc), (2, .ref (s 0)), (3, .int (nI n)), (4, .int (nI (p + 1)))]) rfl ?_
                    exact ih_L2 (p + 1) (upd m0 p (nI t)) w' hR2 (by omega) (fun i h1 h2 => by rw [upd_ne _ _ _ (by omega)]; exact hun i (by omega) h2) (by omega)
                  ·
                    refine zv_goto C dL_build_266 294 (by decide) ?_
                    refine zv_iinc (v := (nI (p + 1))) C dL_build_294 297 rfl [(4, .int (nI (p + 1))), (5, .int (nI t)), (0, .ref a), (1, .ref sc), (2, .ref (s 0)), (3, .int (nI n))] 5 rfl (nI_1 p) (by decide) rfl ?_
                    refine zv_goto C dL_build_297 210 (by decide) ?_
                    refine zv_sub [2, 3, 4, 5, 0] (lv' := [(0, .ref a), (1, .ref sc), (2, .ref (s 0)), (3, .int (nI n)), (4, .int (nI (p + 1)))]) rfl ?_
                    exact ih_L2 (p + 1) m0 w hR (by omega) (fun i h1 h2 => hun i (by omega) h2) (by omega)
        refine zv_go rfl (lv' := [(4, .int (nI 0)), (0, .ref a), (1, .ref sc), (2, .ref (s 0)), (3, .int (nI n))]) rfl rfl rfl rfl ?_
        refine zv_sub [1, 2, 3, 4, 0] (lv' := [(0, .ref a), (1, .ref sc), (2, .ref (s 0)), (3, .int (nI n)), (4, .int (nI 0))]) rfl ?_
        exact L2 (n + 1) 0 m0 w hR (by omega) (fun i _ h2 => hm0 i h2) (by omega)
      ·
        have hn2 : n < nn := zn_le' (by omega) (by omega) ck
        have hV := hR.lv
        have hn16 : n ≤ 16 := hV.n16
        obtain ⟨fs, hrc⟩ := hR.recv
        have h5n : m5 n = 0 := zR_m5 hR
        have hn1 : n < 16 := by omega
        refine zv_aload_n C dL_build_30 31 rfl 1 rfl ?_
        refine zv_iconst (v := 1) C dL_build_31 32 rfl (by decide) ?_
        refine zv_iload C dL_build_32 34 rfl 4 rfl ?_
        refine zv_iadd (v := (nI (1 + n))) C dL_build_34 35 rfl (nI_add 1 n) ?_
        refine zn_callRS (rest := []) C xE_B (xE_E hAs hXE) (k_L_cell l D cI cZ cA sc L xs hL (1 + n) (by omega)) (va_cwS 2 C.1.2.2.2.2 gL_build_L_cell rfl rfl rfl (by decide +kernel) ⟨Nat.le_of_ble_eq_true rfl, Nat.le_of_ble_eq_true rfl⟩) dL_build_35 38 rfl rfl rfl (Nat.le_of_ble_eq_true rfl) ⟨(by show kc + 0 ≤ 40; omega), (by show ns + 0 ≤ 400; omega)⟩ [0, 1] rfl (List.nil_sublist _) (fun v hv => ?_)
        obtain ⟨x1, rfl⟩ := hv
        refine zv_go rfl rfl (st' := [.int x1]) rfl (kc' := kc) rfl (ns' := ns) rfl ?_
        refine zv_iconst (v := 1) C dL_build_38 39 rfl (by decide) ?_
        refine zn_ishr C dL_build_39 40 rfl ?_
        refine zv_istore C dL_build_40 42 rfl [(5, .int (x1 >>> (1 &&& 31))), (0, .ref a), (1, .ref sc), (2, .ref (s 0)), (3, .int (nI nn)), (4, .int (nI n))] (by decide) rfl ?_
        refine zv_iload C dL_build_42 44 rfl 0 rfl ?_
        refine zv_iconst (v := 5) C dL_build_44 45 rfl (by decide) ?_
        obtain ⟨x, hx⟩ : ∃ x : Int32, x1 >>> ((1 : Int32) &&& 31) = x := ⟨_, rfl⟩
        refine zv_go rfl (lv' := [(5, .int x), (0, .ref a), (1, .ref sc), (2, .ref (s 0)), (3, .int (nI nn)), (4, .int (nI n))]) (by rw [hx]) (st' := [.int 5, .int x]) (by rw [hx]) rfl rfl ?_
        refine zv_go rfl rfl (st' := [.int (nI 5), .int x]) (by rfl) rfl rfl ?_
        refine zn_callRS (rest := []) C zn_TB zn_TE (zn_ofR (k_L_below l D cI cZ cA x 5 (by omega) (by omega))) (va_cwS 2 C.1.2.2.2.2 gL_build_L_below rfl rfl rfl (by decide +kernel) ⟨Nat.le_of_ble_eq_true rfl, Nat.le_of_ble_eq_true rfl⟩) dL_build_45 48 rfl rfl rfl (Nat.le_of_ble_eq_true rfl) ⟨(by show kc + 0 ≤ 40; omega), (by show ns + 0 ≤ 400; omega)⟩ [0, 1] rfl (List.nil_sublist _) (fun v hv => ?_)
        subst hv
        refine zv_go rfl rfl (st' := [.int (nI (bl x 5))]) rfl (kc' := kc) rfl (ns' := ns) rfl ?_
        refine zv_iconst (v := 3) C dL_build_48 49 rfl (by decide) ?_
        refine zv_icmp_ge C dL_build_49 52 56 rfl (by decide) (fun c3 => ?_) (fun c3 => ?_)
        · -- a bare place
          refine zv_iconst (v := 0) C dL_build_56 57 rfl (by decide) ?_
          refine zv_istore C dL_build_57 59 rfl [(6, .int 0), (5, .int x), (0, .ref a), (1, .ref sc), (2, .ref (s 0)), (3, .int (nI nn)), (4, .int (nI n))] (by decide) rfl ?_
          refine zv_bipush (v := 6) C dL_build_59 61 rfl (by decide) ?_
          refine zn_newa (atype := .int) C C.2 arint rfl dL_build_61 63 rfl (N' := 6) (a0 := (6, .inl z0)) (fun cA => rfl) 0 rfl (fun h => h) (by decide) (by decide) (by decide) (by show kc + 1 ≤ 40; omega) (by show ns + 6 ≤ 400; omega) (fun nq1 fr_nq1 => ?_)
          refine zv_go rfl rfl (st' := [.ref nq1]) rfl (kc' := (kc + 1)) rfl (ns' := (ns + 6)) rfl ?_
          have fA_nq1 := C.2 nq1 fr_nq1
          refine zv_dup C dL_build_63 64 rfl rfl ?_
          refine zv_iconst (v := 0) C dL_build_64 65 rfl (by decide) ?_
          refine zv_iconst (v := (-1 : Int32)) C dL_build_65 66 rfl (by decide) ?_
          refine zn_iast (x' := (-1 : Int32)) C dL_build_66 67 rfl 0 0 0 rfl fA_nq1 rfl (by decide) (by omega) (by omega) rfl ((nq1, .inl (cI, 6, .inl (upd z0 0 (-1 : Int32)))) :: (s 0, .inr (2, [.int 0, .int 0, .ref (s 1), .ref (s 2)])) :: (s 1, .inl (cA, n, aq pa)) :: (s 2, .inl (cA, 0, aq da)) :: (sR cI 6 pa (rP m0 m1 m2 m3 m4 m5) n ++ (sR cI 2 da (rB m6 m7) 0 ++ w))) rfl ?_
          refine zv_dup C dL_build_67 68 rfl rfl ?_
          refine zv_iconst (v := 1) C dL_build_68 69 rfl (by decide) ?_
          refine zv_iload C dL_build_69 71 rfl 0 rfl ?_
          refine zv_if_eq C dL_build_71 74 78 rfl (by decide) (fun _ => ?_) (fun c => absurd rfl c)
          refine zv_iconst (v := 0) C dL_build_78 79 rfl (by decide) ?_
          refine zn_iast (x' := 0) C dL_build_79 80 rfl 0 0 1 rfl fA_nq1 rfl (by decide) (by omega) (by omega) rfl ((nq1, .inl (cI, 6, .inl (upd (upd z0 0 (-1 : Int32)) 1 0))) :: (s 0, .inr (2, [.int 0, .int 0, .ref (s 1), .ref (s 2)])) :: (s 1, .inl (cA, n, aq pa)) :: (s 2, .inl (cA, 0, aq da)) :: (sR cI 6 pa (rP m0 m1 m2 m3 m4 m5) n ++ (sR cI 2 da (rB m6 m7) 0 ++ w))) rfl ?_
          refine zv_dup C dL_build_80 81 rfl rfl ?_
          refine zv_iconst (v := 2) C dL_build_81 82 rfl (by decide) ?_
          refine zv_iload C dL_build_82 84 rfl 0 rfl ?_
          refine zv_if_eq C dL_build_84 87 99 rfl (by decide) (fun _ => ?_) (fun c => absurd rfl c)
          refine zv_iconst (v := (-1 : Int32)) C dL_build_99 100 rfl (by decide) ?_
          refine zn_iast (x' := (-1 : Int32)) C dL_build_100 101 rfl 0 0 2 rfl fA_nq1 rfl (by decide) (by omega) (by omega) rfl ((nq1, .inl (cI, 6, .inl (upd (upd (upd z0 0 (-1 : Int32)) 1 0) 2 (-1 : Int32)))) :: (s 0, .inr (2, [.int 0, .int 0, .ref (s 1), .ref (s 2)])) :: (s 1, .inl (cA, n, aq pa)) :: (s 2, .inl (cA, 0, aq da)) :: (sR cI 6 pa (rP m0 m1 m2 m3 m4 m5) n ++ (sR cI 2 da (rB m6 m7) 0 ++ w))) rfl ?_
          refine zv_dup C dL_build_101 102 rfl rfl ?_
          refine zv_iconst (v := 3) C dL_build_102 103 rfl (by decide) ?_
          refine zv_iload C dL_build_103 105 rfl 0 rfl ?_
          refine zv_if_eq C dL_build_105 108 120 rfl (by decide) (fun _ => ?_) (fun c => absurd rfl c)
          refine zv_iconst (v := 0) C dL_build_120 121 rfl (by decide) ?_
          refine zn_iast (x' := 0) C dL_build_121 122 rfl 0 0 3 rfl fA_nq1 rfl (by decide) (by omega) (by omega) rfl ((nq1, .inl (cI, 6, .inl (upd (upd (upd (upd z0 0 (-1 : Int32)) 1 0) 2 (-1 : Int32)) 3 0))) :: (s 0, .inr (2, [.int 0, .int 0, .ref (s 1), .ref (s 2)])) :: (s 1, .inl (cA, n, aq pa)) :: (s 2, .inl (cA, 0, aq da)) :: (sR cI 6 pa (rP m0 m1 m2 m3 m4 m5) n ++ (sR cI 2 da (rB m6 m7) 0 ++ w))) rfl ?_
          refine zv_dup C dL_build_122 123 rfl rfl ?_
          refine zv_iconst (v := 4) C dL_build_123 124 rfl (by decide) ?_
          refine zv_iload C dL_build_124 126 rfl 0 rfl ?_
          refine zv_if_eq C dL_build_126 129 145 rfl (by decide) (fun _ => ?_) (fun c => absurd rfl c)
          refine zv_iconst (v := 0) C dL_build_145 146 rfl (by decide) ?_
          refine zn_iast (x' := 0) C dL_build_146 147 rfl 0 0 4 rfl fA_nq1 rfl (by decide) (by omega) (by omega) rfl ((nq1, .inl (cI, 6, .inl (upd (upd (upd (upd (upd z0 0 (-1 : Int32)) 1 0) 2 (-1 : Int32)) 3 0) 4 0))) :: (s 0, .inr (2, [.int 0, .int 0, .ref (s 1), .ref (s 2)])) :: (s 1, .inl (cA, n, aq pa)) :: (s 2, .inl (cA, 0, aq da)) :: (sR cI 6 pa (rP m0 m1 m2 m3 m4 m5) n ++ (sR cI 2 da (rB m6 m7) 0 ++ w))) rfl ?_
          refine zv_dup C dL_build_147 148 rfl rfl ?_
          refine zv_iconst (v := 5) C dL_build_148 149 rfl (by decide) ?_
          refine zv_iconst (v := 0) C dL_build_149 150 rfl (by decide) ?_
          refine zn_iast (x' := 0) C dL_build_150 151 rfl 0 0 5 rfl fA_nq1 rfl (by decide) (by omega) (by omega) rfl ((nq1, .inl (cI, 6, .inl (upd (upd (upd (upd (upd (upd z0 0 (-1 : Int32)) 1 0) 2 (-1 : Int32)) 3 0) 4 0) 5 0))) :: (s 0, .inr (2, [.int 0, .int 0, .ref (s 1), .ref (s 2)])) :: (s 1, .inl (cA, n, aq pa)) :: (s 2, .inl (cA, 0, aq da)) :: (sR cI 6 pa (rP m0 m1 m2 m3 m4 m5) n ++ (sR cI 2 da (rB m6 m7) 0 ++ w))) rfl ?_
          refine zv_astore C dL_build_151 153 rfl [(7, .ref nq1), (6, .int 0), (5, .int x), (0, .ref a), (1, .ref sc), (2, .ref (s 0)), (3, .int (nI nn)), (4, .int (nI n))] (by decide) rfl ?_
          refine zv_aload_n C dL_build_153 154 rfl 5 rfl ?_
          refine zv_aload_n C dL_build_154 155 rfl 5 rfl ?_
          refine zv_get (ci := 2) C inX2 rfl dL_build_155 158 rfl 1 2 rfl (by decide) lk9 rfl ?_
          refine zv_aload C dL_build_158 160 rfl 0 rfl ?_
          refine zn_callNS (rest := [.ref (s 0)]) C zn_OB (zn_OE hO) (k_X2_with l D cI cZ cA n 6 nq1 (s 1) hn16 pa (rP m0 m1 m2 m3 m4 m5) (upd (upd (upd (upd (upd (upd z0 0 (-1 : Int32)) 1 0) 2 (-1 : Int32)) 3 0) 4 0) 5 0)) (va_cwS 2 C.1.2.2.2.2 gL_build_X2_with rfl rfl rfl (by decide +kernel) ⟨Nat.le_of_ble_eq_true rfl, Nat.le_of_ble_eq_true rfl⟩) dL_build_160 163 rfl rfl rfl (Nat.le_of_ble_eq_true rfl) ⟨(by show kc + 1 + 1 ≤ 40; omega), (by show ns + 6 + 17 ≤ 400; omega)⟩ [0, 1, 2] rfl (List.Sublist.cons_cons _ (List.Sublist.cons _ (List.Sublist.cons_cons _ (List.Sublist.cons _ (List.sublist_append_left _ _))))) C.2 (fun v w9 hv hw9 => ?_)
          obtain ⟨no, rfl, rfl⟩ := hv
          refine zv_wd (ws' := ((no, .inl (cA, (n + 1), aq (fun i => if i = n then nq1 else pa i))) :: (nq1, .inl (cI, 6, .inl (upd (upd (upd (upd (upd (upd z0 0 (-1 : Int32)) 1 0) 2 (-1 : Int32)) 3 0) 4 0) 5 0))) :: (s 0, .inr (2, [.int 0, .int 0, .ref (s 1), .ref (s 2)])) :: (s 1, .inl (cA, n, aq pa)) :: (s 2, .inl (cA, 0, aq da)) :: (sR cI 6 pa (rP m0 m1 m2 m3 m4 m5) n ++ (sR cI 2 da (rB m6 m7) 0 ++ w)))) rfl ?_
          refine zv_go rfl rfl (st' := [.ref no, .ref (s 0)]) rfl (kc' := (kc + 1 + 1)) rfl (ns' := (ns + 6 + 17)) rfl ?_
          refine zv_put (ci := 2) C inX2 rfl tyX2_ok nmX2 dL_build_163 166 rfl 2 2 rfl (by decide) lk9 rfl rfl rfl (Nat.le_of_ble_eq_true rfl) ((no, .inl (cA, (n + 1), aq (fun i => if i = n then nq1 else pa i))) :: (nq1, .inl (cI, 6, .inl (upd (upd (upd (upd (upd (upd z0 0 (-1 : Int32)) 1 0) 2 (-1 : Int32)) 3 0) 4 0) 5 0))) :: (s 0, .inr (2, [.int 0, .int 0, .ref no, .ref (s 2)])) :: (s 1, .inl (cA, n, aq pa)) :: (s 2, .inl (cA, 0, aq da)) :: (sR cI 6 pa (rP m0 m1 m2 m3 m4 m5) n ++ (sR cI 2 da (rB m6 m7) 0 ++ w))) rfl ?_
          refine zv_iload C dL_build_166 168 rfl 1 rfl ?_
          refine zv_if_eq C dL_build_168 171 190 rfl (by decide) (fun _ => ?_) (fun c => absurd rfl c)
          refine zv_aload_n C dL_build_190 191 rfl 3 rfl ?_
          refine zv_wd (ws' := ((no, .inl (cA, (n + 1), aq (fun i => if i = n then nq1 else pa i))) :: (nq1, .inl (cI, 6, .inl (upd (upd (upd (upd (upd (upd z0 0 (-1 : Int32)) 1 0) 2 (-1 : Int32)) 3 0) 4 0) 5 0))) :: (s 0, .inr (2, [.int 0, .int 0, .ref no, .ref (s 2)])) :: (s 1, .inl (cA, n, aq pa)) :: (s 2, .inl (cA, 0, aq da)) :: (sR cI 6 pa (rP m0 m1 m2 m3 m4 m5) n ++ sR cI 2 da (rB m6 m7) 0)) ++ (w ++ [])) (by simp only [List.append_assoc, List.cons_append, List.append_nil, List.nil_append] <;> rfl) ?_
          refine zn_callMV (a := ((no, .inl (cA, (n + 1), aq (fun i => if i = n then nq1 else pa i))) :: (nq1, .inl (cI, 6, .inl (upd (upd (upd (upd (upd (upd z0 0 (-1 : Int32)) 1 0) 2 (-1 : Int32)) 3 0) 4 0) 5 0))) :: (s 0, .inr (2, [.int 0, .int 0, .ref no, .ref (s 2)])) :: (s 1, .inl (cA, n, aq pa)) :: (s 2, .inl (cA, 0, aq da)) :: (sR cI 6 pa (rP m0 m1 m2 m3 m4 m5) n ++ sR cI 2 da (rB m6 m7) 0))) (bb := []) (rest := []) C zn_TB zn_TE (zn_ofM (w_addPlace l D hR hn1)) (cwV 0 C.1.2.2.2.2 gL_build_X1_addPlace rfl rfl rfl (by decide +kernel) ⟨Nat.le_of_ble_eq_true rfl, Nat.le_of_ble_eq_true rfl⟩) dL_build_191 194 rfl (ci := 1) rfl 0 hrc rfl rfl (Nat.le_of_ble_eq_true rfl) ⟨(by show kc + 1 + 1 + 0 ≤ 40; omega), (by show ns + 6 + 17 + 0 ≤ 400; omega)⟩ [0, 1] rfl (fun v w' hv => ?_)
          obtain ⟨rfl, hR2⟩ := hv
          refine zv_wd (ws' := ((no, .inl (cA, (n + 1), aq (fun i => if i = n then nq1 else pa i))) :: (nq1, .inl (cI, 6, .inl (upd (upd (upd (upd (upd (upd z0 0 (-1 : Int32)) 1 0) 2 (-1 : Int32)) 3 0) 4 0) 5 0))) :: (s 0, .inr (2, [.int 0, .int 0, .ref no, .ref (s 2)])) :: (s 1, .inl (cA, n, aq pa)) :: (s 2, .inl (cA, 0, aq da)) :: (sR cI 6 pa (rP m0 m1 m2 m3 m4 m5) n ++ (sR cI 2 da (rB m6 m7) 0 ++ w')))) (by simp only [List.append_assoc, List.cons_append, List.append_nil, List.nil_append] <;> rfl) ?_
          refine zv_go rfl rfl (st' := [.int (nI n)]) rfl (kc' := (kc + 1 + 1)) rfl (ns' := (ns + 6 + 17)) rfl ?_
          refine zv_iload C dL_build_194 196 rfl 7 rfl ?_
          refine zv_icmp_eq C dL_build_196 199 201 rfl (by decide) (fun _ => ?_) (fun c => absurd rfl c)
          refine zn_part (ws' := ((no, .inl (cA, (n + 1), aq (fun i => if i = n then nq1 else pa i))) :: (nq1, .inl (cI, 6, .inl (upd (upd (upd (upd (upd (upd z0 0 (-1 : Int32)) 1 0) 2 (-1 : Int32)) 3 0) 4 0) 5 0))) :: (s 0, .inr (2, [.int 0, .int 0, .ref no, .ref (s 2)])) :: (s 2, .inl (cA, 0, aq da)) :: (sR cI 6 pa (rP m0 m1 m2 m3 m4 m5) n ++ (sR cI 2 da (rB m6 m7) 0 ++ w')))) (List.Sublist.cons_cons _ (List.Sublist.cons_cons _ (List.Sublist.cons_cons _ (List.Sublist.cons _ (List.Sublist.cons_cons _ (List.Sublist.refl _)))))) ?_
          refine zn_perm zp_with ?_
          have hrow : sR cI 6 pa (rP m0 m1 m2 m3 m4 m5) n ++ [(nq1, .inl (cI, 6, .inl (upd (upd (upd (upd (upd (upd z0 0 (-1 : Int32)) 1 0) 2 (-1 : Int32)) 3 0) 4 0) 5 0)))] = sR cI 6 (fun i => if i = n then nq1 else pa i) (rP (upd m0 n (-1)) (upd m1 n 0) (upd m2 n (-1)) (upd m3 n 0) (upd m4 n 0) m5) (n + 1) := by
            rw [sR_succ, if_pos rfl]
            refine congr (congrArg _ (sR_congr (fun j hj => ⟨?_, ?_⟩)).symm) (congrArg (fun z => [z]) ?_)
            · rw [if_neg (by omega)]
            · show r6 (upd m0 n (-1) j) (upd m1 n 0 j) (upd m2 n (-1) j) (upd m3 n 0 j) (upd m4 n 0 j) (m5 j) = r6 (m0 j) (m1 j) (m2 j) (m3 j) (m4 j) (m5 j)
              simp only [upd_ne _ _ _ (show ¬ j = n by omega)]
            · show (nq1, _) = (nq1, _)
              rw [r6_new]
              simp only [rP, upd_at]
              try (rw [h5n])
          rw [hrow]
          refine zv_iinc (v := (nI (n + 1))) C dL_build_201 204 rfl [(4, .int (nI (n + 1))), (7, .ref nq1), (6, .int 0), (5, .int x), (0, .ref a), (1, .ref sc), (2, .ref (s 0)), (3, .int (nI nn))] 7 rfl (nI_1 n) (by decide) rfl ?_
          refine zv_goto C dL_build_204 24 (by decide) ?_
          refine zv_sub [4, 5, 6, 7, 0] (lv' := [(0, .ref a), (1, .ref sc), (2, .ref (s 0)), (3, .int (nI nn)), (4, .int (nI (n + 1)))]) rfl ?_
          exact ih_L1 (n + 1) (ad3 (s 0) no (s 2)) (fun i => if i = n then nq1 else pa i) da (upd m0 n (-1)) (upd m1 n 0) (upd m2 n (-1)) (upd m3 n 0) (upd m4 n 0) m5 m6 m7 w' _ _ hR2 (by omega) (fun i hi => by
            by_cases z : i = n
            · subst z; exact upd_at _ _ _
            · rw [upd_ne _ _ _ z]; exact hm0 i (by omega)) (by omega) (by omega) (by omega)
        · -- a spring
          refine zv_iconst (v := 1) C dL_build_52 53 rfl (by decide) ?_
          refine zv_goto C dL_build_53 57 (by decide) ?_
          refine zv_istore C dL_build_57 59 rfl [(6, .int 1), (5, .int x), (0, .ref a), (1, .ref sc), (2, .ref (s 0)), (3, .int (nI nn)), (4, .int (nI n))] (by decide) rfl ?_
          refine zv_bipush (v := 6) C dL_build_59 61 rfl (by decide) ?_
          refine zn_newa (atype := .int) C C.2 arint rfl dL_build_61 63 rfl (N' := 6) (a0 := (6, .inl z0)) (fun cA => rfl) 0 rfl (fun h => h) (by decide) (by decide) (by decide) (by show kc + 1 ≤ 40; omega) (by show ns + 6 ≤ 400; omega) (fun nq2 fr_nq2 => ?_)
          refine zv_go rfl rfl (st' := [.ref nq2]) rfl (kc' := (kc + 1)) rfl (ns' := (ns + 6)) rfl ?_
          have fA_nq2 := C.2 nq2 fr_nq2
          refine zv_dup C dL_build_63 64 rfl rfl ?_
          refine zv_iconst (v := 0) C dL_build_64 65 rfl (by decide) ?_
          refine zv_iconst (v := (-1 : Int32)) C dL_build_65 66 rfl (by decide) ?_
          refine zn_iast (x' := (-1 : Int32)) C dL_build_66 67 rfl 0 0 0 rfl fA_nq2 rfl (by decide) (by omega) (by omega) rfl ((nq2, .inl (cI, 6, .inl (upd z0 0 (-1 : Int32)))) :: (s 0, .inr (2, [.int 0, .int 0, .ref (s 1), .ref (s 2)])) :: (s 1, .inl (cA, n, aq pa)) :: (s 2, .inl (cA, 0, aq da)) :: (sR cI 6 pa (rP m0 m1 m2 m3 m4 m5) n ++ (sR cI 2 da (rB m6 m7) 0 ++ w))) rfl ?_
          refine zv_dup C dL_build_67 68 rfl rfl ?_
          refine zv_iconst (v := 1) C dL_build_68 69 rfl (by decide) ?_
          refine zv_iload C dL_build_69 71 rfl 0 rfl ?_
          refine zv_if_eq C dL_build_71 74 78 rfl (by decide) (fun c => absurd c (by decide)) (fun _ => ?_)
          refine zv_iconst (v := 1) C dL_build_74 75 rfl (by decide) ?_
          refine zv_goto C dL_build_75 79 (by decide) ?_
          refine zn_iast (x' := 1) C dL_build_79 80 rfl 0 0 1 rfl fA_nq2 rfl (by decide) (by omega) (by omega) rfl ((nq2, .inl (cI, 6, .inl (upd (upd z0 0 (-1 : Int32)) 1 1))) :: (s 0, .inr (2, [.int 0, .int 0, .ref (s 1), .ref (s 2)])) :: (s 1, .inl (cA, n, aq pa)) :: (s 2, .inl (cA, 0, aq da)) :: (sR cI 6 pa (rP m0 m1 m2 m3 m4 m5) n ++ (sR cI 2 da (rB m6 m7) 0 ++ w))) rfl ?_
          refine zv_dup C dL_build_80 81 rfl rfl ?_
          refine zv_iconst (v := 2) C dL_build_81 82 rfl (by decide) ?_
          refine zv_iload C dL_build_82 84 rfl 0 rfl ?_
          refine zv_if_eq C dL_build_84 87 99 rfl (by decide) (fun c => absurd c (by decide)) (fun _ => ?_)
          refine zv_iload C dL_build_87 89 rfl 1 rfl ?_
          refine zv_iconst (v := 3) C dL_build_89 90 rfl (by decide) ?_
          refine zn_ishr C dL_build_90 91 rfl ?_
          refine zv_bipush (v := 10) C dL_build_91 93 rfl (by decide) ?_
          refine zv_go rfl rfl (st' := [.int (nI 10), .int (x >>> (3 &&& 31)), .int 2, .ref nq2, .ref nq2]) (by rfl) rfl rfl ?_
          refine zn_callRS (rest := [.int 2, .ref nq2, .ref nq2]) C zn_TB zn_TE (zn_ofR (k_L_below l D cI cZ cA (x >>> ((3 : Int32) &&& 31)) 10 (by omega) (by omega))) (va_cwS 2 C.1.2.2.2.2 gL_build_L_below rfl rfl rfl (by decide +kernel) ⟨Nat.le_of_ble_eq_true rfl, Nat.le_of_ble_eq_true rfl⟩) dL_build_93 96 rfl rfl rfl (Nat.le_of_ble_eq_true rfl) ⟨(by show kc + 1 + 0 ≤ 40; omega), (by show ns + 6 + 0 ≤ 400; omega)⟩ [0, 1] rfl (List.nil_sublist _) (fun v hv => ?_)
          subst hv
          refine zv_go rfl rfl (st' := [.int (nI (bl (x >>> ((3 : Int32) &&& 31)) 10)), .int 2, .ref nq2, .ref nq2]) rfl (kc' := (kc + 1)) rfl (ns' := (ns + 6)) rfl ?_
          refine zv_goto C dL_build_96 100 (by decide) ?_
          refine zn_iast (x' := (nI (bl (x >>> ((3 : Int32) &&& 31)) 10))) C dL_build_100 101 rfl 0 0 2 rfl fA_nq2 rfl (by decide) (by omega) (by omega) rfl ((nq2, .inl (cI, 6, .inl (upd (upd (upd z0 0 (-1 : Int32)) 1 1) 2 (nI (bl (x >>> ((3 : Int32) &&& 31)) 10))))) :: (s 0, .inr (2, [.int 0, .int 0, .ref (s 1), .ref (s 2)])) :: (s 1, .inl (cA, n, aq pa)) :: (s 2, .inl (cA, 0, aq da)) :: (sR cI 6 pa (rP m0 m1 m2 m3 m4 m5) n ++ (sR cI 2 da (rB m6 m7) 0 ++ w))) rfl ?_
          refine zv_dup C dL_build_101 102 rfl rfl ?_
          refine zv_iconst (v := 3) C dL_build_102 103 rfl (by decide) ?_
          refine zv_iload C dL_build_103 105 rfl 0 rfl ?_
          refine zv_if_eq C dL_build_105 108 120 rfl (by decide) (fun c => absurd c (by decide)) (fun _ => ?_)
          refine zv_iload C dL_build_108 110 rfl 1 rfl ?_
          refine zv_iconst (v := 4) C dL_build_110 111 rfl (by decide) ?_
          refine zn_ishr C dL_build_111 112 rfl ?_
          refine zv_bipush (v := 100) C dL_build_112 114 rfl (by decide) ?_
          refine zv_go rfl rfl (st' := [.int (nI 100), .int (x >>> (4 &&& 31)), .int 3, .ref nq2, .ref nq2]) (by rfl) rfl rfl ?_
          refine zn_callRS (rest := [.int 3, .ref nq2, .ref nq2]) C zn_TB zn_TE (zn_ofR (k_L_below l D cI cZ cA (x >>> ((4 : Int32) &&& 31)) 100 (by omega) (by omega))) (va_cwS 2 C.1.2.2.2.2 gL_build_L_below rfl rfl rfl (by decide +kernel) ⟨Nat.le_of_ble_eq_true rfl, Nat.le_of_ble_eq_true rfl⟩) dL_build_114 117 rfl rfl rfl (Nat.le_of_ble_eq_true rfl) ⟨(by show kc + 1 + 0 ≤ 40; omega), (by show ns + 6 + 0 ≤ 400; omega)⟩ [0, 1] rfl (List.nil_sublist _) (fun v hv => ?_)
          subst hv
          refine zv_go rfl rfl (st' := [.int (nI (bl (x >>> ((4 : Int32) &&& 31)) 100)), .int 3, .ref nq2, .ref nq2]) rfl (kc' := (kc + 1)) rfl (ns' := (ns + 6)) rfl ?_
          refine zv_goto C dL_build_117 121 (by decide) ?_
          refine zn_iast (x' := (nI (bl (x >>> ((4 : Int32) &&& 31)) 100))) C dL_build_121 122 rfl 0 0 3 rfl fA_nq2 rfl (by decide) (by omega) (by omega) rfl ((nq2, .inl (cI, 6, .inl (upd (upd (upd (upd z0 0 (-1 : Int32)) 1 1) 2 (nI (bl (x >>> ((3 : Int32) &&& 31)) 10))) 3 (nI (bl (x >>> ((4 : Int32) &&& 31)) 100))))) :: (s 0, .inr (2, [.int 0, .int 0, .ref (s 1), .ref (s 2)])) :: (s 1, .inl (cA, n, aq pa)) :: (s 2, .inl (cA, 0, aq da)) :: (sR cI 6 pa (rP m0 m1 m2 m3 m4 m5) n ++ (sR cI 2 da (rB m6 m7) 0 ++ w))) rfl ?_
          refine zv_dup C dL_build_122 123 rfl rfl ?_
          refine zv_iconst (v := 4) C dL_build_123 124 rfl (by decide) ?_
          refine zv_iload C dL_build_124 126 rfl 0 rfl ?_
          refine zv_if_eq C dL_build_126 129 145 rfl (by decide) (fun c => absurd c (by decide)) (fun _ => ?_)
          refine zv_iload C dL_build_129 131 rfl 1 rfl ?_
          refine zv_bipush (v := 6) C dL_build_131 133 rfl (by decide) ?_
          refine zn_ishr C dL_build_133 134 rfl ?_
          refine zv_bipush (v := 19) C dL_build_134 136 rfl (by decide) ?_
          refine zv_go rfl rfl (st' := [.int (nI 19), .int (x >>> (6 &&& 31)), .int 4, .ref nq2, .ref nq2]) (by rfl) rfl rfl ?_
          refine zn_callRS (rest := [.int 4, .ref nq2, .ref nq2]) C zn_TB zn_TE (zn_ofR (k_L_below l D cI cZ cA (x >>> ((6 : Int32) &&& 31)) 19 (by omega) (by omega))) (va_cwS 2 C.1.2.2.2.2 gL_build_L_below rfl rfl rfl (by decide +kernel) ⟨Nat.le_of_ble_eq_true rfl, Nat.le_of_ble_eq_true rfl⟩) dL_build_136 139 rfl rfl rfl (Nat.le_of_ble_eq_true rfl) ⟨(by show kc + 1 + 0 ≤ 40; omega), (by show ns + 6 + 0 ≤ 400; omega)⟩ [0, 1] rfl (List.nil_sublist _) (fun v hv => ?_)
          subst hv
          refine zv_go rfl rfl (st' := [.int (nI (bl (x >>> ((6 : Int32) &&& 31)) 19)), .int 4, .ref nq2, .ref nq2]) rfl (kc' := (kc + 1)) rfl (ns' := (ns + 6)) rfl ?_
          refine zv_bipush (v := 9) C dL_build_139 141 rfl (by decide) ?_
          refine zv_isub (v := ((nI (bl (x >>> ((6 : Int32) &&& 31)) 19)) - 9)) C dL_build_141 142 rfl rfl ?_
          refine zv_goto C dL_build_142 146 (by decide) ?_
          refine zn_iast (x' := ((nI (bl (x >>> ((6 : Int32) &&& 31)) 19)) - 9)) C dL_build_146 147 rfl 0 0 4 rfl fA_nq2 rfl (by decide) (by omega) (by omega) rfl ((nq2, .inl (cI, 6, .inl (upd (upd (upd (upd (upd z0 0 (-1 : Int32)) 1 1) 2 (nI (bl (x >>> ((3 : Int32) &&& 31)) 10))) 3 (nI (bl (x >>> ((4 : Int32) &&& 31)) 100))) 4 ((nI (bl (x >>> ((6 : Int32) &&& 31)) 19)) - 9)))) :: (s 0, .inr (2, [.int 0, .int 0, .ref (s 1), .ref (s 2)])) :: (s 1, .inl (cA, n, aq pa)) :: (s 2, .inl (cA, 0, aq da)) :: (sR cI 6 pa (rP m0 m1 m2 m3 m4 m5) n ++ (sR cI 2 da (rB m6 m7) 0 ++ w))) rfl ?_
          refine zv_dup C dL_build_147 148 rfl rfl ?_
          refine zv_iconst (v := 5) C dL_build_148 149 rfl (by decide) ?_
          refine zv_iconst (v := 0) C dL_build_149 150 rfl (by decide) ?_
          refine zn_iast (x' := 0) C dL_build_150 151 rfl 0 0 5 rfl fA_nq2 rfl (by decide) (by omega) (by omega) rfl ((nq2, .inl (cI, 6, .inl (upd (upd (upd (upd (upd (upd z0 0 (-1 : Int32)) 1 1) 2 (nI (bl (x >>> ((3 : Int32) &&& 31)) 10))) 3 (nI (bl (x >>> ((4 : Int32) &&& 31)) 100))) 4 ((nI (bl (x >>> ((6 : Int32) &&& 31)) 19)) - 9)) 5 0))) :: (s 0, .inr (2, [.int 0, .int 0, .ref (s 1), .ref (s 2)])) :: (s 1, .inl (cA, n, aq pa)) :: (s 2, .inl (cA, 0, aq da)) :: (sR cI 6 pa (rP m0 m1 m2 m3 m4 m5) n ++ (sR cI 2 da (rB m6 m7) 0 ++ w))) rfl ?_
          refine zv_astore C dL_build_151 153 rfl [(7, .ref nq2), (6, .int 1), (5, .int x), (0, .ref a), (1, .ref sc), (2, .ref (s 0)), (3, .int (nI nn)), (4, .int (nI n))] (by decide) rfl ?_
          refine zv_aload_n C dL_build_153 154 rfl 5 rfl ?_
          refine zv_aload_n C dL_build_154 155 rfl 5 rfl ?_
          refine zv_get (ci := 2) C inX2 rfl dL_build_155 158 rfl 1 2 rfl (by decide) lk9 rfl ?_
          refine zv_aload C dL_build_158 160 rfl 0 rfl ?_
          refine zn_callNS (rest := [.ref (s 0)]) C zn_OB (zn_OE hO) (k_X2_with l D cI cZ cA n 6 nq2 (s 1) hn16 pa (rP m0 m1 m2 m3 m4 m5) (upd (upd (upd (upd (upd (upd z0 0 (-1 : Int32)) 1 1) 2 (nI (bl (x >>> ((3 : Int32) &&& 31)) 10))) 3 (nI (bl (x >>> ((4 : Int32) &&& 31)) 100))) 4 ((nI (bl (x >>> ((6 : Int32) &&& 31)) 19)) - 9)) 5 0)) (va_cwS 2 C.1.2.2.2.2 gL_build_X2_with rfl rfl rfl (by decide +kernel) ⟨Nat.le_of_ble_eq_true rfl, Nat.le_of_ble_eq_true rfl⟩) dL_build_160 163 rfl rfl rfl (Nat.le_of_ble_eq_true rfl) ⟨(by show kc + 1 + 1 ≤ 40; omega), (by show ns + 6 + 17 ≤ 400; omega)⟩ [0, 1, 2] rfl (List.Sublist.cons_cons _ (List.Sublist.cons _ (List.Sublist.cons_cons _ (List.Sublist.cons _ (List.sublist_append_left _ _))))) C.2 (fun v w9 hv hw9 => ?_)
          obtain ⟨no, rfl, rfl⟩ := hv
          refine zv_wd (ws' := ((no, .inl (cA, (n + 1), aq (fun i => if i = n then nq2 else pa i))) :: (nq2, .inl (cI, 6, .inl (upd (upd (upd (upd (upd (upd z0 0 (-1 : Int32)) 1 1) 2 (nI (bl (x >>> ((3 : Int32) &&& 31)) 10))) 3 (nI (bl (x >>> ((4 : Int32) &&& 31)) 100))) 4 ((nI (bl (x >>> ((6 : Int32) &&& 31)) 19)) - 9)) 5 0))) :: (s 0, .inr (2, [.int 0, .int 0, .ref (s 1), .ref (s 2)])) :: (s 1, .inl (cA, n, aq pa)) :: (s 2, .inl (cA, 0, aq da)) :: (sR cI 6 pa (rP m0 m1 m2 m3 m4 m5) n ++ (sR cI 2 da (rB m6 m7) 0 ++ w)))) rfl ?_
          refine zv_go rfl rfl (st' := [.ref no, .ref (s 0)]) rfl (kc' := (kc + 1 + 1)) rfl (ns' := (ns + 6 + 17)) rfl ?_
          refine zv_put (ci := 2) C inX2 rfl tyX2_ok nmX2 dL_build_163 166 rfl 2 2 rfl (by decide) lk9 rfl rfl rfl (Nat.le_of_ble_eq_true rfl) ((no, .inl (cA, (n + 1), aq (fun i => if i = n then nq2 else pa i))) :: (nq2, .inl (cI, 6, .inl (upd (upd (upd (upd (upd (upd z0 0 (-1 : Int32)) 1 1) 2 (nI (bl (x >>> ((3 : Int32) &&& 31)) 10))) 3 (nI (bl (x >>> ((4 : Int32) &&& 31)) 100))) 4 ((nI (bl (x >>> ((6 : Int32) &&& 31)) 19)) - 9)) 5 0))) :: (s 0, .inr (2, [.int 0, .int 0, .ref no, .ref (s 2)])) :: (s 1, .inl (cA, n, aq pa)) :: (s 2, .inl (cA, 0, aq da)) :: (sR cI 6 pa (rP m0 m1 m2 m3 m4 m5) n ++ (sR cI 2 da (rB m6 m7) 0 ++ w))) rfl ?_
          refine zv_iload C dL_build_166 168 rfl 1 rfl ?_
          refine zv_if_eq C dL_build_168 171 190 rfl (by decide) (fun c => absurd c (by decide)) (fun _ => ?_)
          refine zv_aload_n C dL_build_171 172 rfl 3 rfl ?_
          refine zv_aload C dL_build_172 174 rfl 0 rfl ?_
          refine zv_iconst (v := 2) C dL_build_174 175 rfl (by decide) ?_
          refine zv_iald (v := (nI (bl (x >>> ((3 : Int32) &&& 31)) 10))) C dL_build_175 176 rfl 1 0 2 rfl rfl (by decide) (by omega) (by omega) rfl ?_
          refine zv_aload C dL_build_176 178 rfl 0 rfl ?_
          refine zv_iconst (v := 3) C dL_build_178 179 rfl (by decide) ?_
          refine zv_iald (v := (nI (bl (x >>> ((4 : Int32) &&& 31)) 100))) C dL_build_179 180 rfl 1 0 3 rfl rfl (by decide) (by omega) (by omega) rfl ?_
          refine zv_aload C dL_build_180 182 rfl 0 rfl ?_
          refine zv_iconst (v := 4) C dL_build_182 183 rfl (by decide) ?_
          refine zv_iald (v := (nI (bl (x >>> ((6 : Int32) &&& 31)) 19) - 9)) C dL_build_183 184 rfl 1 0 4 rfl rfl (by decide) (by omega) (by omega) rfl ?_
          refine zv_wd (ws' := ((no, .inl (cA, (n + 1), aq (fun i => if i = n then nq2 else pa i))) :: (nq2, .inl (cI, 6, .inl (upd (upd (upd (upd (upd (upd z0 0 (-1 : Int32)) 1 1) 2 (nI (bl (x >>> ((3 : Int32) &&& 31)) 10))) 3 (nI (bl (x >>> ((4 : Int32) &&& 31)) 100))) 4 ((nI (bl (x >>> ((6 : Int32) &&& 31)) 19)) - 9)) 5 0))) :: (s 0, .inr (2, [.int 0, .int 0, .ref no, .ref (s 2)])) :: (s 1, .inl (cA, n, aq pa)) :: (s 2, .inl (cA, 0, aq da)) :: (sR cI 6 pa (rP m0 m1 m2 m3 m4 m5) n ++ sR cI 2 da (rB m6 m7) 0)) ++ (w ++ [])) (by simp only [List.append_assoc, List.cons_append, List.append_nil, List.nil_append] <;> rfl) ?_
          refine zn_callMV (a := ((no, .inl (cA, (n + 1), aq (fun i => if i = n then nq2 else pa i))) :: (nq2, .inl (cI, 6, .inl (upd (upd (upd (upd (upd (upd z0 0 (-1 : Int32)) 1 1) 2 (nI (bl (x >>> ((3 : Int32) &&& 31)) 10))) 3 (nI (bl (x >>> ((4 : Int32) &&& 31)) 100))) 4 ((nI (bl (x >>> ((6 : Int32) &&& 31)) 19)) - 9)) 5 0))) :: (s 0, .inr (2, [.int 0, .int 0, .ref no, .ref (s 2)])) :: (s 1, .inl (cA, n, aq pa)) :: (s 2, .inl (cA, 0, aq da)) :: (sR cI 6 pa (rP m0 m1 m2 m3 m4 m5) n ++ sR cI 2 da (rB m6 m7) 0))) (bb := []) (rest := []) C zn_TB zn_TE (zn_ofM (w_addSpring l D hR (nI (bl (x >>> ((3 : Int32) &&& 31)) 10)) (nI (bl (x >>> ((4 : Int32) &&& 31)) 100)) (nI (bl (x >>> ((6 : Int32) &&& 31)) 19) - 9) hn1 (isI_nI (lo := 0) (hi := 9) (Nat.zero_le _) (by have := bl_lt (x >>> ((3 : Int32) &&& 31)) (N := 10) (by omega); omega) (by omega)) (isI_nI (lo := 0) (hi := 99) (Nat.zero_le _) (by have := bl_lt (x >>> ((4 : Int32) &&& 31)) (N := 100) (by omega); omega) (by omega)) (isI_sw (bl_lt _ (by omega))))) (cwV 3 C.1.2.2.2.2 gL_build_X1_addSpring rfl rfl rfl (by decide +kernel) ⟨Nat.le_of_ble_eq_true rfl, Nat.le_of_ble_eq_true rfl⟩) dL_build_184 187 rfl (ci := 1) rfl 0 hrc rfl rfl (Nat.le_of_ble_eq_true rfl) ⟨(by show kc + 1 + 1 + 0 ≤ 40; omega), (by show ns + 6 + 17 + 0 ≤ 400; omega)⟩ [0, 1] rfl (fun v w' hv => ?_)
          obtain ⟨rfl, hR2⟩ := hv
          refine zv_wd (ws' := ((no, .inl (cA, (n + 1), aq (fun i => if i = n then nq2 else pa i))) :: (nq2, .inl (cI, 6, .inl (upd (upd (upd (upd (upd (upd z0 0 (-1 : Int32)) 1 1) 2 (nI (bl (x >>> ((3 : Int32) &&& 31)) 10))) 3 (nI (bl (x >>> ((4 : Int32) &&& 31)) 100))) 4 ((nI (bl (x >>> ((6 : Int32) &&& 31)) 19)) - 9)) 5 0))) :: (s 0, .inr (2, [.int 0, .int 0, .ref no, .ref (s 2)])) :: (s 1, .inl (cA, n, aq pa)) :: (s 2, .inl (cA, 0, aq da)) :: (sR cI 6 pa (rP m0 m1 m2 m3 m4 m5) n ++ (sR cI 2 da (rB m6 m7) 0 ++ w')))) (by simp only [List.append_assoc, List.cons_append, List.append_nil, List.nil_append] <;> rfl) ?_
          refine zv_go rfl rfl (st' := [.int (nI n)]) rfl (kc' := (kc + 1 + 1)) rfl (ns' := (ns + 6 + 17)) rfl ?_
          refine zv_goto C dL_build_187 194 (by decide) ?_
          refine zv_iload C dL_build_194 196 rfl 7 rfl ?_
          refine zv_icmp_eq C dL_build_196 199 201 rfl (by decide) (fun _ => ?_) (fun c => absurd rfl c)
          refine zn_part (ws' := ((no, .inl (cA, (n + 1), aq (fun i => if i = n then nq2 else pa i))) :: (nq2, .inl (cI, 6, .inl (upd (upd (upd (upd (upd (upd z0 0 (-1 : Int32)) 1 1) 2 (nI (bl (x >>> ((3 : Int32) &&& 31)) 10))) 3 (nI (bl (x >>> ((4 : Int32) &&& 31)) 100))) 4 ((nI (bl (x >>> ((6 : Int32) &&& 31)) 19)) - 9)) 5 0))) :: (s 0, .inr (2, [.int 0, .int 0, .ref no, .ref (s 2)])) :: (s 2, .inl (cA, 0, aq da)) :: (sR cI 6 pa (rP m0 m1 m2 m3 m4 m5) n ++ (sR cI 2 da (rB m6 m7) 0 ++ w')))) (List.Sublist.cons_cons _ (List.Sublist.cons_cons _ (List.Sublist.cons_cons _ (List.Sublist.cons _ (List.Sublist.cons_cons _ (List.Sublist.refl _)))))) ?_
          refine zn_perm zp_with ?_
          have hrow : sR cI 6 pa (rP m0 m1 m2 m3 m4 m5) n ++ [(nq2, .inl (cI, 6, .inl (upd (upd (upd (upd (upd (upd z0 0 (-1 : Int32)) 1 1) 2 (nI (bl (x >>> ((3 : Int32) &&& 31)) 10))) 3 (nI (bl (x >>> ((4 : Int32) &&& 31)) 100))) 4 ((nI (bl (x >>> ((6 : Int32) &&& 31)) 19)) - 9)) 5 0)))] = sR cI 6 (fun i => if i = n then nq2 else pa i) (rP (upd m0 n (-1)) (upd m1 n 1) (upd m2 n (nI (bl (x >>> ((3 : Int32) &&& 31)) 10))) (upd m3 n (nI (bl (x >>> ((4 : Int32) &&& 31)) 100))) (upd m4 n (nI (bl (x >>> ((6 : Int32) &&& 31)) 19) - 9)) m5) (n + 1) := by
            rw [sR_succ, if_pos rfl]
            refine congr (congrArg _ (sR_congr (fun j hj => ⟨?_, ?_⟩)).symm) (congrArg (fun z => [z]) ?_)
            · rw [if_neg (by omega)]
            · show r6 (upd m0 n (-1) j) (upd m1 n 1 j) (upd m2 n (nI (bl (x >>> ((3 : Int32) &&& 31)) 10)) j) (upd m3 n (nI (bl (x >>> ((4 : Int32) &&& 31)) 100)) j) (upd m4 n (nI (bl (x >>> ((6 : Int32) &&& 31)) 19) - 9) j) (m5 j) = r6 (m0 j) (m1 j) (m2 j) (m3 j) (m4 j) (m5 j)
              simp only [upd_ne _ _ _ (show ¬ j = n by omega)]
            · show (nq2, _) = (nq2, _)
              rw [r6_new]
              simp only [rP, upd_at]
              try (rw [h5n])
          rw [hrow]
          refine zv_iinc (v := (nI (n + 1))) C dL_build_201 204 rfl [(4, .int (nI (n + 1))), (7, .ref nq2), (6, .int 1), (5, .int x), (0, .ref a), (1, .ref sc), (2, .ref (s 0)), (3, .int (nI nn))] 7 rfl (nI_1 n) (by decide) rfl ?_
          refine zv_goto C dL_build_204 24 (by decide) ?_
          refine zv_sub [4, 5, 6, 7, 0] (lv' := [(0, .ref a), (1, .ref sc), (2, .ref (s 0)), (3, .int (nI nn)), (4, .int (nI (n + 1)))]) rfl ?_
          exact ih_L1 (n + 1) (ad3 (s 0) no (s 2)) (fun i => if i = n then nq2 else pa i) da (upd m0 n (-1)) (upd m1 n 1) (upd m2 n (nI (bl (x >>> ((3 : Int32) &&& 31)) 10))) (upd m3 n (nI (bl (x >>> ((4 : Int32) &&& 31)) 100))) (upd m4 n (nI (bl (x >>> ((6 : Int32) &&& 31)) 19) - 9)) m5 m6 m7 w' _ _ hR2 (by omega) (fun i hi => by
            by_cases z : i = n
            · subst z; exact upd_at _ _ _
            · rw [upd_ne _ _ _ z]; exact hm0 i (by omega)) (by omega) (by omega) (by omega)
  refine zv_wd (ws' := ((s 0, .inr (2, [.int 0, .int 0, .ref (s 1), .ref (s 2)])) :: (s 1, .inl (cA, 0, aq (fun _ => 0))) :: (s 2, .inl (cA, 0, aq (fun _ => 0))) :: (sR cI 6 (fun _ => 0) (rP z0 z0 z0 z0 z0 z0) 0 ++ (sR cI 2 (fun _ => 0) (rB z0 z0) 0 ++ w)))) (by simp only [List.append_assoc, List.cons_append, List.append_nil, List.nil_append] <;> rfl) ?_
  refine zv_go rfl (lv' := [(4, .int (nI 0)), (3, .int (nI nn)), (2, .ref (s 0)), (0, .ref a), (1, .ref sc)]) rfl rfl rfl rfl ?_
  refine zv_sub [3, 4, 2, 1, 0] (lv' := [(0, .ref a), (1, .ref sc), (2, .ref (s 0)), (3, .int (nI nn)), (4, .int (nI 0))]) rfl ?_
  exact L1 (nn + 1) 0 s (fun _ => 0) (fun _ => 0) z0 z0 z0 z0 z0 z0 z0 z0 w 3 4 hR (by omega) (fun i hi => absurd hi (Nat.not_lt_zero i)) (by omega) (by omega) (by omega)
