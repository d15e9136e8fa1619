/-! ===== act: where it goes well, and where something throws ===== -/
theorem zw_ME.of {E : State → Prop} {l : Launch} {y : MethodName} {wy ws' : List Cond} {rm : Room} {D : va_G} {cl : List vw_C} {tys : List (ClassId × FieldType)} {av : List Value} {ws : va_W} {post : Option Value → va_W → Prop} (cc : ByteArray) (nL : Nat) (ret : Option FieldType) (hh : List (Nat × Nat × Nat × Nat)) (hy : plainName y.cls = true) (hw : wy = Cond.codeWith y cc nL ret hh :: ws') (hl : (lg_sl av).length ≤ nL)
    (body : ∀ (p : Program) (e : Env) (s : State) (m : MethodId) (args : Array Value) (below : List Frame) (meth : Method) (c : Code) (A : Nat → Prop), zv_C p m c cc nL s args wy y.cls A → meth.sig.returnType = ret → meth.locks = false → E s → ∀ (Q : State → Prop), Q = MQ below (zv_q D cl A post) args s rm.cells rm.slots A → zv_V p l e rm s m args below meth c Q nL D cl A A tys ws 0 0 0 (lv_args 0 av) []) : zv_ME E l y wy rm D cl tys av ws post := by
  intro sz
  refine zw_ofH (cc := cc) (maxL := nL) (ret := ret) (hh := hh) hy hw ?_
  intro p e s m args below meth c s₁ B hml hv
  obtain ⟨rfl, ⟨hsz, hP, hK, hD0⟩, hE⟩ := hv
  subst hsz
  have hts := atoms_spec (ws := wy) B.pre
  have hown : s.vm.findClass y.cls = some m.cls := findClass_of_methodNamed B.named
  have hA : ∀ q : Nat, s.heap.size ≤ q → va_A ws s.heap.size q := fun q h => Or.inr h
  have hb := body p e s m av.toArray below meth c (va_A ws s.heap.size) ⟨⟨B.exec, B.bytes, hml, hown, hts⟩, hA⟩ B.returns B.notSynchronized hE _ rfl
  have hl1 := lv_entry av (n := nL) hl
  rw [lg_entry_eq]
  exact hb s.heap [] _ hK hP hD0.self va_S.rf hl1
theorem zn_EB : zn_B zx_E := fun _ g mk a h => h.calling g mk a
section ZNT
variable {p : Program} {l : Launch} {e : Env} {R : Room} {s : State} {m : MethodId} {args : Array Value} {below : List Frame} {meth : Method} {c : Code} {Q : State → Prop} {cc : ByteArray} {nL : Nat} {own : String} {Ts : List Cond} {A B : Nat → Prop} {D : va_G} {cl : List vw_C} {tys : List (ClassId × FieldType)} {ws : va_W} {kc ns pc n : Nat} {lv : List (Nat × Value)} {st : List Value}
theorem zn_EE (hA : A = fun q => s.heap.size ≤ q) (h : zx_E s) : zn_E A s zx_E := fun H locs U hS hU hW => h.step hW (by rw [hU]; exact hS.1) (fun q hq => by rw [hU]; exact hS.2.1 q hq (by rw [hA]; exact Nat.not_le.mpr hq))
theorem zn_tV (C : zv_C p m c cc nL s args Ts own A) (hA : A = fun q => s.heap.size ≤ q) (hE : zx_E s) {y : MethodName} {wy : List Cond} {rm : Room} {index maxL nA : Nat} {bytes : ByteArray} {ret : Option FieldType} {C0 E : String} {b : Addr} {As rest : List Value} {wc : va_W} {tyc : List (ClassId × FieldType)} (hM : zv_T l y wy rm E D cl tyc (.ref b :: As) wc) (cw : CallW R s args own C0 index y bytes maxL ret wy rm rm.cells rm.slots nA) (hdg : decode cc pc = .ok (.invokevirtual index, 3)) {ci : Nat} {TN : u_T × Nat} {fs : List Value} (q0 : Nat) (hci : cl[ci]? = some (C0, TN)) (hq0 : wc[q0]? = some (b, .inr (ci, fs))) (hst : st = As.reverse ++ .ref b :: rest) (hnA : As.length = nA) (hroom : (rest.map fun v => v.category).sum ≤ 8) (hcs : kc + rm.cells ≤ R.cells ∧ ns + rm.slots ≤ R.slots) (isT : List Nat) (hT : isT.filterMap (fun i => tys[i]?) = tyc) (hsub : wc.Sublist ws)
    (kk : zx_K p l e R s m args below meth c Q nL D cl A B tys ws (kc + rm.cells) (ns + rm.slots) pc lv rest E) : zv_V p l e R s m args below meth c Q nL D cl A B tys ws kc ns pc lv st := by
  subst hst
  intro H locs ls hK hP hD hS h
  have hPc := zn_Psub hP hsub
  have hDc := zn_Dsub hD hsub
  have hKc := hK.sub isT hT
  have hold : ∀ q, q < s.heap.size → H[q]? = s.heap[q]? := fun q hq => hS.2.1 q hq (by rw [hA]; exact Nat.not_le.mpr hq)
  have hr := vx_runV (l := l) (e := e) (below := below) (meth := meth) (locs := locs) (g := F0 m pc ls (As.reverse ++ .ref b :: rest)) (As := As) (rest := rest) (b := b) C.1 (hM H.size) cw ⟨zx_blind D cl tyc wc H.size _, va_recv hKc hPc hci hq0, fun U hU hW => ⟨rfl, ⟨by rw [hU], by rw [hU]; exact hPc, va_K.moved hW.alike hKc, hDc.weaken (fun _ _ _ _ => trivial)⟩, hE.step hW (by rw [hU]; exact hS.1) (fun q hq => by rw [hU]; exact hold q hq)⟩⟩ rfl hnA h.1 rfl (lv_room hroom) hdg hcs
  intro T hT X
  rcases hr T hT X with ⟨_, _, _, _, _, _, _, _, _, _, hF, _⟩ | ⟨q, st₀, t, T', L, E', ce, h0, X', hL, e1, e2, ⟨hEq, hF⟩, hce, hcv, hcl, stp⟩
  · exact hF.elim
  subst hEq
  have hz1 : H.size ≤ T'.heap.size := by rw [e1, ← h0]; exact hF.1
  have hk1 : ∀ z, z < H.size → T'.heap[z]? = H[z]? := fun z hz => by rw [e1, ← h0]; exact hF.2 z (by rw [h0]; exact hz) (by rw [h0]; exact Nat.not_le.mpr hz)
  obtain ⟨t2, a1, b1⟩ := kk T'.heap (locs ++ L) ls ce q hK (hP.kept (fun k z hz => hk1 z.1 (hP k z hz).lt)) hD ⟨Nat.le_trans hS.1 hz1, fun z h1 h2 => (hk1 z (Nat.lt_of_lt_of_le h1 hS.1)).trans (hS.2.1 z h1 h2), fun z hz => by
    rcases List.mem_append.mp hz with h | h
    · exact hS.2.2 z h
    · exact C.2 _ (Nat.le_trans hS.1 (hL z h))⟩ h (by rw [e1]; exact hce) hcv hcl T' rfl X'
  exact ⟨t2, stp.trans a1, b1⟩
end ZNT
theorem wt_addPlace_t (l : Launch) (D : va_G) {cI cZ : ClassId} {a n b : Nat} {r y : Int32} {m0 m1 m2 m3 m4 m5 m6 m7 : Nat → Int32} {w : va_W} (hR : zR cI cZ a n b r y m0 m1 m2 m3 m4 m5 m6 m7 w) (hl : l.stackTraces = false) (hn : n = 16) : zv_T l yX1_addPlace wsX1_addPlace rtX1_addPlace xIS D vwCl (tyL cI cZ) [.ref a] w := by
  obtain ⟨⟨q, h, k, d, f0, f1, f2, f3, f4, f5, f6, f7, f8, f9, f10, f11, f12, f13, n1, r1, g0, g1, g2, g3, g4, g5, g6, g7, g8, g9, g10, g11, g12, g13, bp, bn, rfl, rfl, hI⟩, hb, hk⟩ := hR
  exact k_X1_addPlace_t l D cI cZ q h k b y n r f0 f1 f2 f3 f4 f5 f6 f7 f8 f9 f10 f11 f12 f13 n1 r1 g0 g1 g2 g3 g4 g5 g6 g7 g8 g9 g10 g11 g12 g13 bp bn hn hl
theorem wt_addSpring_t4 (l : Launch) (D : va_G) {cI cZ : ClassId} {a n b : Nat} {r y : Int32} {m0 m1 m2 m3 m4 m5 m6 m7 : Nat → Int32} {w : va_W} (hR : zR cI cZ a n b r y m0 m1 m2 m3 m4 m5 m6 m7 w) (hl : l.stackTraces = false) (nm wa sw : Int32) (h1 : isI nm 0 9 = true) (h2 : isI wa 0 99 = true) (h3 : isI sw (-9) 9 = true) (hn : n = 16) : zv_T l yX1_addSpring wsX1_addSpring rtX1_addSpring xIS D vwCl (tyL cI cZ) [.ref a, .int nm, .int wa, .int sw] w := by
  obtain ⟨⟨q, h, k, d, f0, f1, f2, f3, f4, f5, f6, f7, f8, f9, f10, f11, f12, f13, n1, r1, g0, g1, g2, g3, g4, g5, g6, g7, g8, g9, g10, g11, g12, g13, bp, bn, rfl, rfl, hI⟩, hb, hk⟩ := hR
  exact k_X1_addSpring_t4 l D cI cZ q h k b y n r f0 f1 f2 f3 f4 f5 f6 f7 f8 f9 f10 f11 f12 f13 n1 r1 g0 g1 g2 g3 g4 g5 g6 g7 g8 g9 g10 g11 g12 g13 bp bn nm wa sw h1 h2 h3 hn hl
theorem wt_lead_t3 (l : Launch) (D : va_G) {cI cZ : ClassId} {a n b : Nat} {r y : Int32} {m0 m1 m2 m3 m4 m5 m6 m7 : Nat → Int32} {w : va_W} (hR : zR cI cZ a n b r y m0 m1 m2 m3 m4 m5 m6 m7 w) (hl : l.stackTraces = false) (p o : Nat) (hp : p < n) (ho : o < n) (he : p = o) : zv_T l yX1_lead wsX1_lead rtX1_lead xIS D vwCl (tyL cI cZ) [.ref a, .int (nI p), .int (nI o)] w := by
  obtain ⟨⟨q, h, k, d, f0, f1, f2, f3, f4, f5, f6, f7, f8, f9, f10, f11, f12, f13, n1, r1, g0, g1, g2, g3, g4, g5, g6, g7, g8, g9, g10, g11, g12, g13, bp, bn, rfl, rfl, hI⟩, hb, hk⟩ := hR
  exact k_X1_lead_t3 l D cI cZ q h k b y n r f0 f1 f2 f3 f4 f5 f6 f7 f8 f9 f10 f11 f12 f13 n1 r1 g0 g1 g2 g3 g4 g5 g6 g7 g8 g9 g10 g11 g12 g13 bp bn p o hI.n16 hp ho he hl
theorem wt_lead_t4 (l : Launch) (D : va_G) {cI cZ : ClassId} {a n b : Nat} {r y : Int32} {m0 m1 m2 m3 m4 m5 m6 m7 : Nat → Int32} {w : va_W} (hR : zR cI cZ a n b r y m0 m1 m2 m3 m4 m5 m6 m7 w) (hl : l.stackTraces = false) (p o : Nat) (hp : p < n) (ho : o < n) (hne : ¬ p = o) (hfl : fl m0 (nI p) 16 (m0 o) = true) : zv_T l yX1_lead wsX1_lead rtX1_lead xIS D vwCl (tyL cI cZ) [.ref a, .int (nI p), .int (nI o)] w := by
  obtain ⟨⟨q, h, k, d, f0, f1, f2, f3, f4, f5, f6, f7, f8, f9, f10, f11, f12, f13, n1, r1, g0, g1, g2, g3, g4, g5, g6, g7, g8, g9, g10, g11, g12, g13, bp, bn, rfl, rfl, hI⟩, hb, hk⟩ := hR
  exact k_X1_lead_t4 l D cI cZ q h k b y n r f0 f1 f2 f3 f4 f5 f6 f7 f8 f9 f10 f11 f12 f13 n1 r1 g0 g1 g2 g3 g4 g5 g6 g7 g8 g9 g10 g11 g12 g13 bp bn p o hI.n16 hp ho hI.vw hne ((hI.vAbove ho).trans hfl) hl
theorem wt_build_t2 (l : Launch) (D : va_G) {cI cZ : ClassId} {a n b : Nat} {r y : Int32} {m0 m1 m2 m3 m4 m5 m6 m7 : Nat → Int32} {w : va_W} (hR : zR cI cZ a n b r y m0 m1 m2 m3 m4 m5 m6 m7 w) (hl : l.stackTraces = false) (p : Nat) (hp : p < n) (hbb : b = 16) : zv_T l yX1_build wsX1_build rtX1_build xIS D vwCl (tyL cI cZ) [.ref a, .int (nI p)] w := by
  obtain ⟨⟨q, h, k, d, f0, f1, f2, f3, f4, f5, f6, f7, f8, f9, f10, f11, f12, f13, n1, r1, g0, g1, g2, g3, g4, g5, g6, g7, g8, g9, g10, g11, g12, g13, bp, bn, rfl, rfl, hI⟩, hb, hk⟩ := hR
  exact k_X1_build_t2 l D cI cZ q h k b y n r f0 f1 f2 f3 f4 f5 f6 f7 f8 f9 f10 f11 f12 f13 n1 r1 g0 g1 g2 g3 g4 g5 g6 g7 g8 g9 g10 g11 g12 g13 bp bn p hI.n16 hp hbb hl
set_option maxHeartbeats 4000000 in
set_option maxRecDepth 100000 in
theorem k_L_act (l : Launch) (D : va_G) (cI cZ cA : ClassId) {a n b : Nat} {r y : Int32} {m0 m1 m2 m3 m4 m5 m6 m7 : Nat → Int32} {w : va_W} (hR : zR cI cZ a n b r y m0 m1 m2 m3 m4 m5 m6 m7 w) (s pa da : Nat → Nat) (x : Int32) (hn0 : 0 < n) (hT : ¬ acT x n b m0) : zv_ME (va_AOA .int) l yL_act wsL_act rmL_act D vwCl (tyS cI cZ cA) [.ref a, .ref (s 0), .int x] (cS cI cA s r y n b pa da m0 m1 m2 m3 m4 m5 m6 m7 ++ w) (fun v u => v = some (.int 1) ∧ ∃ (n' b' : Nat) (r' y' : Int32) (m0' m1' m2' m3' m4' m5' m6' m7' : Nat → Int32), n ≤ n' ∧ zB cI cZ cA a (s 0) n' b' r' y' m0' m1' m2' m3' m4' m5' m6' m7' u) := by
  refine zw_ME.of cL_act 9 (some .boolean) [(36, 158, 602, 74), (159, 264, 602, 74), (265, 270, 602, 74), (271, 356, 602, 74), (357, 362, 602, 74), (363, 418, 602, 74), (419, 457, 602, 74), (458, 463, 602, 74), (464, 541, 602, 74), (542, 601, 602, 74)] (by decide) rfl (Nat.le_of_ble_eq_true rfl) ?_
  intro pP eE sS mM aA bB mT cD A C hr hlk hO Q hQ
  have inX2 : ∀ w ∈ u_ws RX2 TX2 4, w ∈ wsL_act := by decide +kernel
  have lk9 : Cond.fieldLink RL 9 "RiverNamesLaw$Sim" "places" "[[I" ∈ wsL_act := by decide +kernel
  refine zv_go (pc' := 0) rfl (lv' := [(0, .ref a), (1, .ref (s 0)), (2, .int x)]) rfl rfl rfl rfl ?_
  refine zv_wd (ws' := ((s 0, .inr (2, [.int r, .int y, .ref (s 1), .ref (s 2)])) :: (s 1, .inl (cA, n, aq pa)) :: (s 2, .inl (cA, b, aq da)) :: (sR cI 6 pa (rP m0 m1 m2 m3 m4 m5) n ++ (sR cI 2 da (rB m6 m7) b ++ w)))) (by simp only [List.append_assoc, List.cons_append, List.append_nil, List.nil_append] <;> rfl) ?_
  have hV := hR.lv
  have hn16 : n ≤ 16 := hV.n16
  have hb16 : b ≤ 16 := hV.b16
  obtain ⟨fs, hrc⟩ := hR.recv
  refine zv_aload_n C dL_act_0 1 rfl 1 rfl ?_
  refine zv_get (ci := 2) C inX2 rfl dL_act_1 4 rfl 0 2 rfl (by decide) lk9 rfl ?_
  refine zv_alen (v := (nI n)) C dL_act_4 5 rfl 1 2 rfl rfl rfl ?_
  refine zv_istore_n C dL_act_5 6 rfl [(3, .int (nI n)), (0, .ref a), (1, .ref (s 0)), (2, .int x)] (by decide) rfl ?_
  refine zv_iload_n C dL_act_6 7 rfl 0 rfl ?_
  refine zv_if_ne C dL_act_7 10 14 rfl (by decide) (fun _ => ?_) (fun c => absurd c (bl_0 hn0 (by omega)))
  refine zv_iload_n C dL_act_14 15 rfl 3 rfl ?_
  refine zv_iconst (v := 3) C dL_act_15 16 rfl (by decide) ?_
  refine zn_ishr C dL_act_16 17 rfl ?_
  refine zv_iload_n C dL_act_17 18 rfl 0 rfl ?_
  refine zn_callRS (rest := []) C zn_TB zn_TE (zn_ofR (k_L_below l D cI cZ cA (x >>> ((3 : Int32) &&& 31)) n (by omega) (by omega))) (va_cwS 2 C.1.2.2.2.2 gL_act_L_below rfl rfl rfl (by decide +kernel) ⟨Nat.le_of_ble_eq_true rfl, Nat.le_of_ble_eq_true rfl⟩) dL_act_18 21 rfl rfl rfl (Nat.le_of_ble_eq_true rfl) ⟨(by show 0 + 0 ≤ 4500; omega), (by show 0 + 0 ≤ 71000; omega)⟩ [0, 1] rfl (List.nil_sublist _) (fun v hv => ?_)
  subst hv
  refine zv_go rfl rfl (st' := [.int (nI (bl (x >>> ((3 : Int32) &&& 31)) n))]) rfl (kc' := 0) rfl (ns' := 0) rfl ?_
  have hp : bl (x >>> ((3 : Int32) &&& 31)) n < n := bl_lt _ hn0
  refine zv_istore C dL_act_21 23 rfl [(4, .int (nI (bl (x >>> ((3 : Int32) &&& 31)) n))), (3, .int (nI n)), (0, .ref a), (1, .ref (s 0)), (2, .int x)] (by decide) rfl ?_
  refine zv_iload_n C dL_act_23 24 rfl 1 rfl ?_
  refine zv_bipush (v := 16) C dL_act_24 26 rfl (by decide) ?_
  have hx14 := bl_lt x (N := 14) (by omega)
  have K : ∀ cn : Int32, (n < 16 → cn = 1) → zv_V pP l eE rmL_act sS mM aA bB mT cD Q 9 D vwCl A A (tyS cI cZ cA) ((s 0, .inr (2, [.int r, .int y, .ref (s 1), .ref (s 2)])) :: (s 1, .inl (cA, n, aq pa)) :: (s 2, .inl (cA, b, aq da)) :: (sR cI 6 pa (rP m0 m1 m2 m3 m4 m5) n ++ (sR cI 2 da (rB m6 m7) b ++ w))) 0 0 36 [(0, .ref a), (1, .ref (s 0)), (2, .int x), (3, .int (nI n)), (4, .int (nI (bl (x >>> ((3 : Int32) &&& 31)) n))), (5, .int cn)] [] := by
    intro cn hcn
    refine zv_iload_n C dL_act_36 37 rfl 2 rfl ?_
    refine zv_bipush (v := 14) C dL_act_37 39 rfl (by decide) ?_
    refine zn_callRS (rest := []) C zn_TB zn_TE (zn_ofR (k_L_below l D cI cZ cA x 14 (by omega) (by omega))) (va_cwS 2 C.1.2.2.2.2 gL_act_L_below rfl rfl rfl (by decide +kernel) ⟨Nat.le_of_ble_eq_true rfl, Nat.le_of_ble_eq_true rfl⟩) dL_act_39 42 rfl rfl rfl (Nat.le_of_ble_eq_true rfl) ⟨(by show 0 + 0 ≤ 4500; omega), (by show 0 + 0 ≤ 71000; omega)⟩ [0, 1] rfl (List.nil_sublist _) (fun v hv => ?_)
    subst hv
    refine zv_go rfl rfl (st' := [.int (nI (bl x 14))]) rfl (kc' := 0) rfl (ns' := 0) rfl ?_
    have hk1 : bl x 14 = 0 ∨ bl x 14 = 1 ∨ bl x 14 = 2 ∨ bl x 14 = 3 ∨ bl x 14 = 4 ∨ bl x 14 = 5 ∨ bl x 14 = 6 ∨ bl x 14 = 7 ∨ bl x 14 = 8 ∨ bl x 14 = 9 ∨ 10 ≤ bl x 14 := by omega
    have hti : ∀ j : Nat, bl x 14 = j → j < 14 → (nI (bl x 14)).toInt = (j : Int) := fun j e hj => by rw [e]; exact nI_toInt (by omega)
    rcases hk1 with e | e | e | e | e | e | e | e | e | e | e
    ·
      have hn1 : n < 16 := by
        refine Nat.lt_of_le_of_ne hn16 (fun z => hT (Or.inl ⟨by omega, z⟩))
      have hc1 := hcn hn1
      subst hc1
      exact zv_tabIn C dL_act_42 (by rw [hti 0 e (by omega)]; decide) (by rw [hti 0 e (by omega)]; decide) (off := 54) (tgt := 96) (by rw [hti 0 e (by omega)]; rfl) (by decide) (ac_add hR hn0 C hr hlk hO hQ hn1) 
    ·
      have hn1 : n < 16 := by
        refine Nat.lt_of_le_of_ne hn16 (fun z => hT (Or.inl ⟨by omega, z⟩))
      have hc1 := hcn hn1
      subst hc1
      exact zv_tabIn C dL_act_42 (by rw [hti 1 e (by omega)]; decide) (by rw [hti 1 e (by omega)]; decide) (off := 117) (tgt := 159) (by rw [hti 1 e (by omega)]; rfl) (by decide) (ac_spring hR hn0 C hr hlk hO hQ hn1) 
    ·
      have hn1 : n < 16 := by
        refine Nat.lt_of_le_of_ne hn16 (fun z => hT (Or.inl ⟨by omega, z⟩))
      have hc1 := hcn hn1
      subst hc1
      exact zv_tabIn C dL_act_42 (by rw [hti 2 e (by omega)]; decide) (by rw [hti 2 e (by omega)]; decide) (off := 117) (tgt := 159) (by rw [hti 2 e (by omega)]; rfl) (by decide) (ac_spring hR hn0 C hr hlk hO hQ hn1) 
    ·
      have hne : ¬ bl (x >>> ((3 : Int32) &&& 31)) n = bl (x >>> ((6 : Int32) &&& 31)) n := fun z => hT (Or.inr (Or.inl ⟨by omega, by omega, Or.inl z⟩))
      have hfl : fl m0 (nI (bl (x >>> ((3 : Int32) &&& 31)) n)) 16 (m0 (bl (x >>> ((6 : Int32) &&& 31)) n)) = false := by
        cases z : fl m0 (nI (bl (x >>> ((3 : Int32) &&& 31)) n)) 16 (m0 (bl (x >>> ((6 : Int32) &&& 31)) n)) with
        | false => rfl
        | true => exact absurd (Or.inr (Or.inl ⟨by omega, by omega, Or.inr z⟩)) hT
      exact zv_tabIn C dL_act_42 (by rw [hti 3 e (by omega)]; decide) (by rw [hti 3 e (by omega)]; decide) (off := 223) (tgt := 265) (by rw [hti 3 e (by omega)]; rfl) (by decide) (ac_lead hR hn0 C hr hlk hO hQ hne hfl) 
    ·
      have hne : ¬ bl (x >>> ((3 : Int32) &&& 31)) n = bl (x >>> ((6 : Int32) &&& 31)) n := fun z => hT (Or.inr (Or.inl ⟨by omega, by omega, Or.inl z⟩))
      have hfl : fl m0 (nI (bl (x >>> ((3 : Int32) &&& 31)) n)) 16 (m0 (bl (x >>> ((6 : Int32) &&& 31)) n)) = false := by
        cases z : fl m0 (nI (bl (x >>> ((3 : Int32) &&& 31)) n)) 16 (m0 (bl (x >>> ((6 : Int32) &&& 31)) n)) with
        | false => rfl
        | true => exact absurd (Or.inr (Or.inl ⟨by omega, by omega, Or.inr z⟩)) hT
      exact zv_tabIn C dL_act_42 (by rw [hti 4 e (by omega)]; decide) (by rw [hti 4 e (by omega)]; decide) (off := 223) (tgt := 265) (by rw [hti 4 e (by omega)]; rfl) (by decide) (ac_lead hR hn0 C hr hlk hO hQ hne hfl) 
    ·
      have hne : ¬ bl (x >>> ((3 : Int32) &&& 31)) n = bl (x >>> ((6 : Int32) &&& 31)) n := fun z => hT (Or.inr (Or.inl ⟨by omega, by omega, Or.inl z⟩))
      have hfl : fl m0 (nI (bl (x >>> ((3 : Int32) &&& 31)) n)) 16 (m0 (bl (x >>> ((6 : Int32) &&& 31)) n)) = false := by
        cases z : fl m0 (nI (bl (x >>> ((3 : Int32) &&& 31)) n)) 16 (m0 (bl (x >>> ((6 : Int32) &&& 31)) n)) with
        | false => rfl
        | true => exact absurd (Or.inr (Or.inl ⟨by omega, by omega, Or.inr z⟩)) hT
      exact zv_tabIn C dL_act_42 (by rw [hti 5 e (by omega)]; decide) (by rw [hti 5 e (by omega)]; decide) (off := 223) (tgt := 265) (by rw [hti 5 e (by omega)]; rfl) (by decide) (ac_lead hR hn0 C hr hlk hO hQ hne hfl) 
    ·
      exact zv_tabIn C dL_act_42 (by rw [hti 6 e (by omega)]; decide) (by rw [hti 6 e (by omega)]; decide) (off := 315) (tgt := 357) (by rw [hti 6 e (by omega)]; rfl) (by decide) (ac_turn hR hn0 C hr hlk hO hQ ) 
    ·
      exact zv_tabIn C dL_act_42 (by rw [hti 7 e (by omega)]; decide) (by rw [hti 7 e (by omega)]; decide) (off := 377) (tgt := 419) (by rw [hti 7 e (by omega)]; rfl) (by decide) (ac_rule hR hn0 C hr hlk hO hQ ) 
    ·
      have hbb : b < 16 := Nat.lt_of_le_of_ne hb16 (fun z => hT (Or.inr (Or.inr ⟨by omega, by omega, z⟩)))
      exact zv_tabIn C dL_act_42 (by rw [hti 8 e (by omega)]; decide) (by rw [hti 8 e (by omega)]; decide) (off := 416) (tgt := 458) (by rw [hti 8 e (by omega)]; rfl) (by decide) (ac_build hR hn0 C hr hlk hO hQ hbb) 
    ·
      have hbb : b < 16 := Nat.lt_of_le_of_ne hb16 (fun z => hT (Or.inr (Or.inr ⟨by omega, by omega, z⟩)))
      exact zv_tabIn C dL_act_42 (by rw [hti 9 e (by omega)]; decide) (by rw [hti 9 e (by omega)]; decide) (off := 416) (tgt := 458) (by rw [hti 9 e (by omega)]; rfl) (by decide) (ac_build hR hn0 C hr hlk hO hQ hbb) 
    ·
      exact zv_tabOut C dL_act_42 (Or.inr (by rw [nI_toInt (by omega)]; omega)) (tgt := 542) (by decide) (ac_years hR hn0 C hr hlk hO hQ)
  refine zv_icmp_ge C dL_act_26 29 33 rfl (by decide) (fun c16 => ?_) (fun c16 => ?_)
  ·
    refine zv_iconst (v := 0) C dL_act_33 34 rfl (by decide) ?_
    refine zv_istore C dL_act_34 36 rfl [(5, .int 0), (4, .int (nI (bl (x >>> ((3 : Int32) &&& 31)) n))), (3, .int (nI n)), (0, .ref a), (1, .ref (s 0)), (2, .int x)] (by decide) rfl ?_
    refine zv_sub [3, 4, 5, 2, 1, 0] (lv' := [(0, .ref a), (1, .ref (s 0)), (2, .int x), (3, .int (nI n)), (4, .int (nI (bl (x >>> ((3 : Int32) &&& 31)) n))), (5, .int 0)]) rfl ?_
    exact K 0 (fun h => absurd (zn_le (a := 16) (by omega) (by omega) c16) (by omega))
  ·
    refine zv_iconst (v := 1) C dL_act_29 30 rfl (by decide) ?_
    refine zv_goto C dL_act_30 34 (by decide) ?_
    refine zv_istore C dL_act_34 36 rfl [(5, .int 1), (4, .int (nI (bl (x >>> ((3 : Int32) &&& 31)) n))), (3, .int (nI n)), (0, .ref a), (1, .ref (s 0)), (2, .int x)] (by decide) rfl ?_
    refine zv_sub [3, 4, 5, 2, 1, 0] (lv' := [(0, .ref a), (1, .ref (s 0)), (2, .int x), (3, .int (nI n)), (4, .int (nI (bl (x >>> ((3 : Int32) &&& 31)) n))), (5, .int 1)]) rfl ?_
    exact K 1 (fun _ => rfl)
abbrev rtL_act : Room := { frames := 8, cells := 1, slots := 6, locals := 190 }
set_option maxHeartbeats 4000000 in
set_option maxRecDepth 100000 in
theorem k_L_act_t (l : Launch) (D : va_G) (cI cZ cA : ClassId) {a n b : Nat} {r y : Int32} {m0 m1 m2 m3 m4 m5 m6 m7 : Nat → Int32} {w : va_W} (hR : zR cI cZ a n b r y m0 m1 m2 m3 m4 m5 m6 m7 w) (s pa da : Nat → Nat) (x : Int32) (hn0 : 0 < n) (hl : l.stackTraces = false) (hT : acT x n b m0) : zv_RX zx_E l yL_act wsL_act rtL_act D vwCl (tyS cI cZ cA) [.ref a, .ref (s 0), .int x] (cS cI cA s r y n b pa da m0 m1 m2 m3 m4 m5 m6 m7 ++ w) (fun v => v = some (.int 1)) := by
  refine zw_RE.of cL_act 9 (some .boolean) [(36, 158, 602, 74), (159, 264, 602, 74), (265, 270, 602, 74), (271, 356, 602, 74), (357, 362, 602, 74), (363, 418, 602, 74), (419, 457, 602, 74), (458, 463, 602, 74), (464, 541, 602, 74), (542, 601, 602, 74)] (by decide) rfl (Nat.le_of_ble_eq_true rfl) ?_
  intro pP eE sS mM aA bB mT cD A C htab hr hlk hA hO Q hQ
  have inX2 : ∀ w ∈ u_ws RX2 TX2 4, w ∈ wsL_act := by decide +kernel
  have lk9 : Cond.fieldLink RL 9 "RiverNamesLaw$Sim" "places" "[[I" ∈ wsL_act := by decide +kernel
  have lk54 : Cond.fieldLink RL 54 "RiverNamesLaw$Sim" "bridges" "[[I" ∈ wsL_act := by decide +kernel
  refine zv_go (pc' := 0) rfl (lv' := [(0, .ref a), (1, .ref (s 0)), (2, .int x)]) rfl rfl rfl rfl ?_
  refine zv_wd (ws' := ((s 0, .inr (2, [.int r, .int y, .ref (s 1), .ref (s 2)])) :: (s 1, .inl (cA, n, aq pa)) :: (s 2, .inl (cA, b, aq da)) :: (sR cI 6 pa (rP m0 m1 m2 m3 m4 m5) n ++ (sR cI 2 da (rB m6 m7) b ++ w)))) (by simp only [List.append_assoc, List.cons_append, List.append_nil, List.nil_append] <;> rfl) ?_
  have hV := hR.lv
  have hn16 : n ≤ 16 := hV.n16
  have hb16 : b ≤ 16 := hV.b16
  obtain ⟨fs, hrc⟩ := hR.recv
  refine zv_aload_n C dL_act_0 1 rfl 1 rfl ?_
  refine zv_get (ci := 2) C inX2 rfl dL_act_1 4 rfl 0 2 rfl (by decide) lk9 rfl ?_
  refine zv_alen (v := (nI n)) C dL_act_4 5 rfl 1 2 rfl rfl rfl ?_
  refine zv_istore_n C dL_act_5 6 rfl [(3, .int (nI n)), (0, .ref a), (1, .ref (s 0)), (2, .int x)] (by decide) rfl ?_
  refine zv_iload_n C dL_act_6 7 rfl 0 rfl ?_
  refine zv_if_ne C dL_act_7 10 14 rfl (by decide) (fun _ => ?_) (fun c => absurd c (bl_0 hn0 (by omega)))
  refine zv_iload_n C dL_act_14 15 rfl 3 rfl ?_
  refine zv_iconst (v := 3) C dL_act_15 16 rfl (by decide) ?_
  refine zn_ishr C dL_act_16 17 rfl ?_
  refine zv_iload_n C dL_act_17 18 rfl 0 rfl ?_
  refine zn_callRS (rest := []) C zn_TB zn_TE (zn_ofR (k_L_below l D cI cZ cA (x >>> ((3 : Int32) &&& 31)) n (by omega) (by omega))) (va_cwS 2 C.1.2.2.2.2 gL_act_L_below rfl rfl rfl (by decide +kernel) ⟨Nat.le_of_ble_eq_true rfl, Nat.le_of_ble_eq_true rfl⟩) dL_act_18 21 rfl rfl rfl (Nat.le_of_ble_eq_true rfl) ⟨(by show 0 + 0 ≤ 1; omega), (by show 0 + 0 ≤ 6; omega)⟩ [0, 1] rfl (List.nil_sublist _) (fun v hv => ?_)
  subst hv
  refine zv_go rfl rfl (st' := [.int (nI (bl (x >>> ((3 : Int32) &&& 31)) n))]) rfl (kc' := 0) rfl (ns' := 0) rfl ?_
  have hp : bl (x >>> ((3 : Int32) &&& 31)) n < n := bl_lt _ hn0
  refine zv_istore C dL_act_21 23 rfl [(4, .int (nI (bl (x >>> ((3 : Int32) &&& 31)) n))), (3, .int (nI n)), (0, .ref a), (1, .ref (s 0)), (2, .int x)] (by decide) rfl ?_
  refine zv_iload_n C dL_act_23 24 rfl 1 rfl ?_
  refine zv_bipush (v := 16) C dL_act_24 26 rfl (by decide) ?_
  have hx14 := bl_lt x (N := 14) (by omega)
  have hti : ∀ j : Nat, bl x 14 = j → j < 14 → (nI (bl x 14)).toInt = (j : Int) := fun j e hj => by rw [e]; exact nI_toInt (by omega)
  have K : ∀ cn : Int32, (n = 16 → cn = 0) → zv_V pP l eE rtL_act sS mM aA bB mT cD Q 9 D vwCl A (fun _ => True) (tyS cI cZ cA) ((s 0, .inr (2, [.int r, .int y, .ref (s 1), .ref (s 2)])) :: (s 1, .inl (cA, n, aq pa)) :: (s 2, .inl (cA, b, aq da)) :: (sR cI 6 pa (rP m0 m1 m2 m3 m4 m5) n ++ (sR cI 2 da (rB m6 m7) b ++ w))) 0 0 36 [(0, .ref a), (1, .ref (s 0)), (2, .int x), (3, .int (nI n)), (4, .int (nI (bl (x >>> ((3 : Int32) &&& 31)) n))), (5, .int cn)] [] := by
    intro cn hcn
    refine zv_iload_n C dL_act_36 37 rfl 2 rfl ?_
    refine zv_bipush (v := 14) C dL_act_37 39 rfl (by decide) ?_
    refine zn_callRS (rest := []) C zn_TB zn_TE (zn_ofR (k_L_below l D cI cZ cA x 14 (by omega) (by omega))) (va_cwS 2 C.1.2.2.2.2 gL_act_L_below rfl rfl rfl (by decide +kernel) ⟨Nat.le_of_ble_eq_true rfl, Nat.le_of_ble_eq_true rfl⟩) dL_act_39 42 rfl rfl rfl (Nat.le_of_ble_eq_true rfl) ⟨(by show 0 + 0 ≤ 1; omega), (by show 0 + 0 ≤ 6; omega)⟩ [0, 1] rfl (List.nil_sublist _) (fun v hv => ?_)
    subst hv
    refine zv_go rfl rfl (st' := [.int (nI (bl x 14))]) rfl (kc' := 0) rfl (ns' := 0) rfl ?_
    rcases hT with ⟨hj, hn⟩ | ⟨hj1, hj2, hl2⟩ | ⟨hj1, hj2, hbb⟩
    · -- no room for a place
      have hc0 := hcn hn
      subst hc0
      have hk1 : bl x 14 = 0 ∨ bl x 14 = 1 ∨ bl x 14 = 2 := by omega
      rcases hk1 with e | e | e
      ·
        refine zv_tabIn C dL_act_42 (by rw [hti 0 e (by omega)]; decide) (by rw [hti 0 e (by omega)]; decide) (off := 54) (tgt := 96) (by rw [hti 0 e (by omega)]; rfl) (by decide) ?_
        refine zv_iload C dL_act_96 98 rfl 5 rfl ?_
        refine zv_if_eq C dL_act_98 101 140 rfl (by decide) (fun _ => ?_) (fun c => absurd rfl c)
        refine zv_aload_n C dL_act_140 141 rfl 0 rfl ?_
        refine zn_tV (rest := []) C hA hO (wt_addPlace_t l D hR hl hn) (cwV 0 C.1.2.2.2.2 gL_act_X1_addPlace rfl rfl rfl (by decide +kernel) ⟨Nat.le_of_ble_eq_true rfl, Nat.le_of_ble_eq_true rfl⟩) dL_act_141 (ci := 1) 0 rfl hrc rfl rfl (Nat.le_of_ble_eq_true rfl) ⟨(by show 0 + 1 ≤ 1; omega), (by show 0 + 6 ≤ 6; omega)⟩ [0, 1] rfl (List.Sublist.cons _ (List.Sublist.cons _ (List.Sublist.cons _ ((List.sublist_append_right _ _).trans (List.sublist_append_right _ _))))) (zx_catch C hO (by decide) [] ⟨36, 158, 602, 74⟩ [⟨159, 264, 602, 74⟩, ⟨265, 270, 602, 74⟩, ⟨271, 356, 602, 74⟩, ⟨357, 362, 602, 74⟩, ⟨363, 418, 602, 74⟩, ⟨419, 457, 602, 74⟩, ⟨458, 463, 602, 74⟩, ⟨464, 541, 602, 74⟩, ⟨542, 601, 602, 74⟩] (htab.trans rfl) (fun _ h => absurd h List.not_mem_nil) (by decide) (by decide) (by decide +kernel) 602 rfl (fun qx => ?_))
        refine zv_go rfl rfl rfl (kc' := 1) rfl (ns' := 6) rfl ?_
        refine zv_astore C dL_act_602 604 rfl [(6, .ref qx), (0, .ref a), (1, .ref (s 0)), (2, .int x), (3, .int (nI n)), (4, .int (nI (bl (x >>> ((3 : Int32) &&& 31)) n))), (5, .int 0)] (by decide) rfl ?_
        refine zv_iload C dL_act_604 606 rfl 6 rfl ?_
        refine zv_if_ne C dL_act_606 609 613 rfl (by decide) (fun c => absurd c (by decide)) (fun _ => ?_)
        refine zv_iconst (v := 1) C dL_act_609 610 rfl (by decide) ?_
        refine zv_goto C dL_act_610 614 (by decide) ?_
        refine zv_widen (k' := 1) (n' := 6) (by omega) (by omega) ?_
        exact zv_zretR C (by decide) hr hlk hA hQ dL_act_614 rfl
      ·
        refine zv_tabIn C dL_act_42 (by rw [hti 1 e (by omega)]; decide) (by rw [hti 1 e (by omega)]; decide) (off := 117) (tgt := 159) (by rw [hti 1 e (by omega)]; rfl) (by decide) ?_
        refine zv_iload_n C dL_act_159 160 rfl 2 rfl ?_
        refine zv_iconst (v := 4) C dL_act_160 161 rfl (by decide) ?_
        refine zn_ishr C dL_act_161 162 rfl ?_
        refine zv_bipush (v := 10) C dL_act_162 164 rfl (by decide) ?_
        refine zv_go rfl rfl (st' := [.int (nI 10), .int (x >>> (4 &&& 31))]) (by rfl) rfl rfl ?_
        refine zn_callRS (rest := []) C zn_TB zn_TE (zn_ofR (k_L_below l D cI cZ cA (x >>> ((4 : Int32) &&& 31)) 10 (by omega) (by omega))) (va_cwS 2 C.1.2.2.2.2 gL_act_L_below rfl rfl rfl (by decide +kernel) ⟨Nat.le_of_ble_eq_true rfl, Nat.le_of_ble_eq_true rfl⟩) dL_act_164 167 rfl rfl rfl (Nat.le_of_ble_eq_true rfl) ⟨(by show 0 + 0 ≤ 1; omega), (by show 0 + 0 ≤ 6; omega)⟩ [0, 1] rfl (List.nil_sublist _) (fun v hv => ?_)
        subst hv
        refine zv_go rfl rfl (st' := [.int (nI (bl (x >>> ((4 : Int32) &&& 31)) 10))]) rfl (kc' := 0) rfl (ns' := 0) rfl ?_
        refine zv_istore C dL_act_167 169 rfl [(6, .int (nI (bl (x >>> ((4 : Int32) &&& 31)) 10))), (0, .ref a), (1, .ref (s 0)), (2, .int x), (3, .int (nI n)), (4, .int (nI (bl (x >>> ((3 : Int32) &&& 31)) n))), (5, .int 0)] (by decide) rfl ?_
        refine zv_iload_n C dL_act_169 170 rfl 3 rfl ?_
        refine zv_bipush (v := 6) C dL_act_170 172 rfl (by decide) ?_
        refine zn_ishr C dL_act_172 173 rfl ?_
        refine zv_bipush (v := 100) C dL_act_173 175 rfl (by decide) ?_
        refine zv_go rfl rfl (st' := [.int (nI 100), .int (x >>> (6 &&& 31))]) (by rfl) rfl rfl ?_
        refine zn_callRS (rest := []) C zn_TB zn_TE (zn_ofR (k_L_below l D cI cZ cA (x >>> ((6 : Int32) &&& 31)) 100 (by omega) (by omega))) (va_cwS 2 C.1.2.2.2.2 gL_act_L_below rfl rfl rfl (by decide +kernel) ⟨Nat.le_of_ble_eq_true rfl, Nat.le_of_ble_eq_true rfl⟩) dL_act_175 178 rfl rfl rfl (Nat.le_of_ble_eq_true rfl) ⟨(by show 0 + 0 ≤ 1; omega), (by show 0 + 0 ≤ 6; omega)⟩ [0, 1] rfl (List.nil_sublist _) (fun v hv => ?_)
        subst hv
        refine zv_go rfl rfl (st' := [.int (nI (bl (x >>> ((6 : Int32) &&& 31)) 100))]) rfl (kc' := 0) rfl (ns' := 0) rfl ?_
        refine zv_istore C dL_act_178 180 rfl [(7, .int (nI (bl (x >>> ((6 : Int32) &&& 31)) 100))), (6, .int (nI (bl (x >>> ((4 : Int32) &&& 31)) 10))), (0, .ref a), (1, .ref (s 0)), (2, .int x), (3, .int (nI n)), (4, .int (nI (bl (x >>> ((3 : Int32) &&& 31)) n))), (5, .int 0)] (by decide) rfl ?_
        refine zv_iload_n C dL_act_180 181 rfl 4 rfl ?_
        refine zv_iconst (v := 5) C dL_act_181 182 rfl (by decide) ?_
        refine zn_ishr C dL_act_182 183 rfl ?_
        refine zv_bipush (v := 19) C dL_act_183 185 rfl (by decide) ?_
        refine zv_go rfl rfl (st' := [.int (nI 19), .int (x >>> (5 &&& 31))]) (by rfl) rfl rfl ?_
        refine zn_callRS (rest := []) C zn_TB zn_TE (zn_ofR (k_L_below l D cI cZ cA (x >>> ((5 : Int32) &&& 31)) 19 (by omega) (by omega))) (va_cwS 2 C.1.2.2.2.2 gL_act_L_below rfl rfl rfl (by decide +kernel) ⟨Nat.le_of_ble_eq_true rfl, Nat.le_of_ble_eq_true rfl⟩) dL_act_185 188 rfl rfl rfl (Nat.le_of_ble_eq_true rfl) ⟨(by show 0 + 0 ≤ 1; omega), (by show 0 + 0 ≤ 6; omega)⟩ [0, 1] rfl (List.nil_sublist _) (fun v hv => ?_)
        subst hv
        refine zv_go rfl rfl (st' := [.int (nI (bl (x >>> ((5 : Int32) &&& 31)) 19))]) rfl (kc' := 0) rfl (ns' := 0) rfl ?_
        refine zv_bipush (v := 9) C dL_act_188 190 rfl (by decide) ?_
        refine zv_isub (v := ((nI (bl (x >>> ((5 : Int32) &&& 31)) 19)) - 9)) C dL_act_190 191 rfl rfl ?_
        refine zv_istore C dL_act_191 193 rfl [(8, .int ((nI (bl (x >>> ((5 : Int32) &&& 31)) 19)) - 9)), (7, .int (nI (bl (x >>> ((6 : Int32) &&& 31)) 100))), (6, .int (nI (bl (x >>> ((4 : Int32) &&& 31)) 10))), (0, .ref a), (1, .ref (s 0)), (2, .int x), (3, .int (nI n)), (4, .int (nI (bl (x >>> ((3 : Int32) &&& 31)) n))), (5, .int 0)] (by decide) rfl ?_
        refine zv_iload C dL_act_193 195 rfl 8 rfl ?_
        refine zv_if_eq C dL_act_195 198 240 rfl (by decide) (fun _ => ?_) (fun c => absurd rfl c)
        refine zv_aload_n C dL_act_240 241 rfl 3 rfl ?_
        refine zv_iload C dL_act_241 243 rfl 2 rfl ?_
        refine zv_iload C dL_act_243 245 rfl 1 rfl ?_
        refine zv_iload C dL_act_245 247 rfl 0 rfl ?_
        refine zn_tV (rest := []) C hA hO (wt_addSpring_t4 l D hR hl (nI (bl (x >>> ((4 : Int32) &&& 31)) 10)) (nI (bl (x >>> ((6 : Int32) &&& 31)) 100)) (nI (bl (x >>> ((5 : Int32) &&& 31)) 19) - 9) (isI_nI (lo := 0) (hi := 9) (Nat.zero_le _) (by have := bl_lt (x >>> ((4 : Int32) &&& 31)) (N := 10) (by omega); omega) (by omega)) (isI_nI (lo := 0) (hi := 99) (Nat.zero_le _) (by have := bl_lt (x >>> ((6 : Int32) &&& 31)) (N := 100) (by omega); omega) (by omega)) (isI_sw (bl_lt _ (by omega))) hn) (cwV 3 C.1.2.2.2.2 gL_act_X1_addSpring rfl rfl rfl (by decide +kernel) ⟨Nat.le_of_ble_eq_true rfl, Nat.le_of_ble_eq_true rfl⟩) dL_act_247 (ci := 1) 0 rfl hrc rfl rfl (Nat.le_of_ble_eq_true rfl) ⟨(by show 0 + 1 ≤ 1; omega), (by show 0 + 6 ≤ 6; omega)⟩ [0, 1] rfl (List.Sublist.cons _ (List.Sublist.cons _ (List.Sublist.cons _ ((List.sublist_append_right _ _).trans (List.sublist_append_right _ _))))) (zx_catch C hO (by decide) [⟨36, 158, 602, 74⟩] ⟨159, 264, 602, 74⟩ [⟨265, 270, 602, 74⟩, ⟨271, 356, 602, 74⟩, ⟨357, 362, 602, 74⟩, ⟨363, 418, 602, 74⟩, ⟨419, 457, 602, 74⟩, ⟨458, 463, 602, 74⟩, ⟨464, 541, 602, 74⟩, ⟨542, 601, 602, 74⟩] (htab.trans rfl) (List.forall_mem_cons.mpr ⟨Or.inl (by decide), (fun _ h => absurd h List.not_mem_nil)⟩) (by decide) (by decide) (by decide +kernel) 602 rfl (fun qx => ?_))
        refine zv_go rfl rfl rfl (kc' := 1) rfl (ns' := 6) rfl ?_
        refine zv_astore C dL_act_602 604 rfl [(6, .ref qx), (8, .int ((nI (bl (x >>> ((5 : Int32) &&& 31)) 19)) - 9)), (7, .int (nI (bl (x >>> ((6 : Int32) &&& 31)) 100))), (0, .ref a), (1, .ref (s 0)), (2, .int x), (3, .int (nI n)), (4, .int (nI (bl (x >>> ((3 : Int32) &&& 31)) n))), (5, .int 0)] (by decide) rfl ?_
        refine zv_iload C dL_act_604 606 rfl 8 rfl ?_
        refine zv_if_ne C dL_act_606 609 613 rfl (by decide) (fun c => absurd c (by decide)) (fun _ => ?_)
        refine zv_iconst (v := 1) C dL_act_609 610 rfl (by decide) ?_
        refine zv_goto C dL_act_610 614 (by decide) ?_
        refine zv_widen (k' := 1) (n' := 6) (by omega) (by omega) ?_
        exact zv_zretR C (by decide) hr hlk hA hQ dL_act_614 rfl
      ·
        refine zv_tabIn C dL_act_42 (by rw [hti 2 e (by omega)]; decide) (by rw [hti 2 e (by omega)]; decide) (off := 117) (tgt := 159) (by rw [hti 2 e (by omega)]; rfl) (by decide) ?_
        refine zv_iload_n C dL_act_159 160 rfl 2 rfl ?_
        refine zv_iconst (v := 4) C dL_act_160 161 rfl (by decide) ?_
        refine zn_ishr C dL_act_161 162 rfl ?_
        refine zv_bipush (v := 10) C dL_act_162 164 rfl (by decide) ?_
        refine zv_go rfl rfl (st' := [.int (nI 10), .int (x >>> (4 &&& 31))]) (by rfl) rfl rfl ?_
        refine zn_callRS (rest := []) C zn_TB zn_TE (zn_ofR (k_L_below l D cI cZ cA (x >>> ((4 : Int32) &&& 31)) 10 (by omega) (by omega))) (va_cwS 2 C.1.2.2.2.2 gL_act_L_below rfl rfl rfl (by decide +kernel) ⟨Nat.le_of_ble_eq_true rfl, Nat.le_of_ble_eq_true rfl⟩) dL_act_164 167 rfl rfl rfl (Nat.le_of_ble_eq_true rfl) ⟨(by show 0 + 0 ≤ 1; omega), (by show 0 + 0 ≤ 6; omega)⟩ [0, 1] rfl (List.nil_sublist _) (fun v hv => ?_)
        subst hv
        refine zv_go rfl rfl (st' := [.int (nI (bl (x >>> ((4 : Int32) &&& 31)) 10))]) rfl (kc' := 0) rfl (ns' := 0) rfl ?_
        refine zv_istore C dL_act_167 169 rfl [(6, .int (nI (bl (x >>> ((4 : Int32) &&& 31)) 10))), (0, .ref a), (1, .ref (s 0)), (2, .int x), (3, .int (nI n)), (4, .int (nI (bl (x >>> ((3 : Int32) &&& 31)) n))), (5, .int 0)] (by decide) rfl ?_
        refine zv_iload_n C dL_act_169 170 rfl 3 rfl ?_
        refine zv_bipush (v := 6) C dL_act_170 172 rfl (by decide) ?_
        refine zn_ishr C dL_act_172 173 rfl ?_
        refine zv_bipush (v := 100) C dL_act_173 175 rfl (by decide) ?_
        refine zv_go rfl rfl (st' := [.int (nI 100), .int (x >>> (6 &&& 31))]) (by rfl) rfl rfl ?_
        refine zn_callRS (rest := []) C zn_TB zn_TE (zn_ofR (k_L_below l D cI cZ cA (x >>> ((6 : Int32) &&& 31)) 100 (by omega) (by omega))) (va_cwS 2 C.1.2.2.2.2 gL_act_L_below rfl rfl rfl (by decide +kernel) ⟨Nat.le_of_ble_eq_true rfl, Nat.le_of_ble_eq_true rfl⟩) dL_act_175 178 rfl rfl rfl (Nat.le_of_ble_eq_true rfl) ⟨(by show 0 + 0 ≤ 1; omega), (by show 0 + 0 ≤ 6; omega)⟩ [0, 1] rfl (List.nil_sublist _) (fun v hv => ?_)
        subst hv
        refine zv_go rfl rfl (st' := [.int (nI (bl (x >>> ((6 : Int32) &&& 31)) 100))]) rfl (kc' := 0) rfl (ns' := 0) rfl ?_
        refine zv_istore C dL_act_178 180 rfl [(7, .int (nI (bl (x >>> ((6 : Int32) &&& 31)) 100))), (6, .int (nI (bl (x >>> ((4 : Int32) &&& 31)) 10))), (0, .ref a), (1, .ref (s 0)), (2, .int x), (3, .int (nI n)), (4, .int (nI (bl (x >>> ((3 : Int32) &&& 31)) n))), (5, .int 0)] (by decide) rfl ?_
        refine zv_iload_n C dL_act_180 181 rfl 4 rfl ?_
        refine zv_iconst (v := 5) C dL_act_181 182 rfl (by decide) ?_
        refine zn_ishr C dL_act_182 183 rfl ?_
        refine zv_bipush (v := 19) C dL_act_183 185 rfl (by decide) ?_
        refine zv_go rfl rfl (st' := [.int (nI 19), .int (x >>> (5 &&& 31))]) (by rfl) rfl rfl ?_
        refine zn_callRS (rest := []) C zn_TB zn_TE (zn_ofR (k_L_below l D cI cZ cA (x >>> ((5 : Int32) &&& 31)) 19 (by omega) (by omega))) (va_cwS 2 C.1.2.2.2.2 gL_act_L_below rfl rfl rfl (by decide +kernel) ⟨Nat.le_of_ble_eq_true rfl, Nat.le_of_ble_eq_true rfl⟩) dL_act_185 188 rfl rfl rfl (Nat.le_of_ble_eq_true rfl) ⟨(by show 0 + 0 ≤ 1; omega), (by show 0 + 0 ≤ 6; omega)⟩ [0, 1] rfl (List.nil_sublist _) (fun v hv => ?_)
        subst hv
        refine zv_go rfl rfl (st' := [.int (nI (bl (x >>> ((5 : Int32) &&& 31)) 19))]) rfl (kc' := 0) rfl (ns' := 0) rfl ?_
        refine zv_bipush (v := 9) C dL_act_188 190 rfl (by decide) ?_
        refine zv_isub (v := ((nI (bl (x >>> ((5 : Int32) &&& 31)) 19)) - 9)) C dL_act_190 191 rfl rfl ?_
        refine zv_istore C dL_act_191 193 rfl [(8, .int ((nI (bl (x >>> ((5 : Int32) &&& 31)) 19)) - 9)), (7, .int (nI (bl (x >>> ((6 : Int32) &&& 31)) 100))), (6, .int (nI (bl (x >>> ((4 : Int32) &&& 31)) 10))), (0, .ref a), (1, .ref (s 0)), (2, .int x), (3, .int (nI n)), (4, .int (nI (bl (x >>> ((3 : Int32) &&& 31)) n))), (5, .int 0)] (by decide) rfl ?_
        refine zv_iload C dL_act_193 195 rfl 8 rfl ?_
        refine zv_if_eq C dL_act_195 198 240 rfl (by decide) (fun _ => ?_) (fun c => absurd rfl c)
        refine zv_aload_n C dL_act_240 241 rfl 3 rfl ?_
        refine zv_iload C dL_act_241 243 rfl 2 rfl ?_
        refine zv_iload C dL_act_243 245 rfl 1 rfl ?_
        refine zv_iload C dL_act_245 247 rfl 0 rfl ?_
        refine zn_tV (rest := []) C hA hO (wt_addSpring_t4 l D hR hl (nI (bl (x >>> ((4 : Int32) &&& 31)) 10)) (nI (bl (x >>> ((6 : Int32) &&& 31)) 100)) (nI (bl (x >>> ((5 : Int32) &&& 31)) 19) - 9) (isI_nI (lo := 0) (hi := 9) (Nat.zero_le _) (by have := bl_lt (x >>> ((4 : Int32) &&& 31)) (N := 10) (by omega); omega) (by omega)) (isI_nI (lo := 0) (hi := 99) (Nat.zero_le _) (by have := bl_lt (x >>> ((6 : Int32) &&& 31)) (N := 100) (by omega); omega) (by omega)) (isI_sw (bl_lt _ (by omega))) hn) (cwV 3 C.1.2.2.2.2 gL_act_X1_addSpring rfl rfl rfl (by decide +kernel) ⟨Nat.le_of_ble_eq_true rfl, Nat.le_of_ble_eq_true rfl⟩) dL_act_247 (ci := 1) 0 rfl hrc rfl rfl (Nat.le_of_ble_eq_true rfl) ⟨(by show 0 + 1 ≤ 1; omega), (by show 0 + 6 ≤ 6; omega)⟩ [0, 1] rfl (List.Sublist.cons _ (List.Sublist.cons _ (List.Sublist.cons _ ((List.sublist_append_right _ _).trans (List.sublist_append_right _ _))))) (zx_catch C hO (by decide) [⟨36, 158, 602, 74⟩] ⟨159, 264, 602, 74⟩ [⟨265, 270, 602, 74⟩, ⟨271, 356, 602, 74⟩, ⟨357, 362, 602, 74⟩, ⟨363, 418, 602, 74⟩, ⟨419, 457, 602, 74⟩, ⟨458, 463, 602, 74⟩, ⟨464, 541, 602, 74⟩, ⟨542, 601, 602, 74⟩] (htab.trans rfl) (List.forall_mem_cons.mpr ⟨Or.inl (by decide), (fun _ h => absurd h List.not_mem_nil)⟩) (by decide) (by decide) (by decide +kernel) 602 rfl (fun qx => ?_))
        refine zv_go rfl rfl rfl (kc' := 1) rfl (ns' := 6) rfl ?_
        refine zv_astore C dL_act_602 604 rfl [(6, .ref qx), (8, .int ((nI (bl (x >>> ((5 : Int32) &&& 31)) 19)) - 9)), (7, .int (nI (bl (x >>> ((6 : Int32) &&& 31)) 100))), (0, .ref a), (1, .ref (s 0)), (2, .int x), (3, .int (nI n)), (4, .int (nI (bl (x >>> ((3 : Int32) &&& 31)) n))), (5, .int 0)] (by decide) rfl ?_
        refine zv_iload C dL_act_604 606 rfl 8 rfl ?_
        refine zv_if_ne C dL_act_606 609 613 rfl (by decide) (fun c => absurd c (by decide)) (fun _ => ?_)
        refine zv_iconst (v := 1) C dL_act_609 610 rfl (by decide) ?_
        refine zv_goto C dL_act_610 614 (by decide) ?_
        refine zv_widen (k' := 1) (n' := 6) (by omega) (by omega) ?_
        exact zv_zretR C (by decide) hr hlk hA hQ dL_act_614 rfl
    · -- a way that may not be
      have hk1 : bl x 14 = 3 ∨ bl x 14 = 4 ∨ bl x 14 = 5 := by omega
      have KL : zv_V pP l eE rtL_act sS mM aA bB mT cD Q 9 D vwCl A (fun _ => True) (tyS cI cZ cA) ((s 0, .inr (2, [.int r, .int y, .ref (s 1), .ref (s 2)])) :: (s 1, .inl (cA, n, aq pa)) :: (s 2, .inl (cA, b, aq da)) :: (sR cI 6 pa (rP m0 m1 m2 m3 m4 m5) n ++ (sR cI 2 da (rB m6 m7) b ++ w))) 0 0 265 [(0, .ref a), (1, .ref (s 0)), (2, .int x), (3, .int (nI n)), (4, .int (nI (bl (x >>> ((3 : Int32) &&& 31)) n))), (5, .int cn)] [] := by
        refine zv_iload_n C dL_act_265 266 rfl 3 rfl ?_
        refine zv_if_ne C dL_act_266 269 271 rfl (by decide) (fun _ => ?_) (fun c => absurd c (bl_0 hn0 (by omega)))
        refine zv_iload_n C dL_act_271 272 rfl 2 rfl ?_
        refine zv_bipush (v := 6) C dL_act_272 274 rfl (by decide) ?_
        refine zn_ishr C dL_act_274 275 rfl ?_
        refine zv_iload_n C dL_act_275 276 rfl 3 rfl ?_
        refine zn_callRS (rest := []) C zn_TB zn_TE (zn_ofR (k_L_below l D cI cZ cA (x >>> ((6 : Int32) &&& 31)) n (by omega) (by omega))) (va_cwS 2 C.1.2.2.2.2 gL_act_L_below rfl rfl rfl (by decide +kernel) ⟨Nat.le_of_ble_eq_true rfl, Nat.le_of_ble_eq_true rfl⟩) dL_act_276 279 rfl rfl rfl (Nat.le_of_ble_eq_true rfl) ⟨(by show 0 + 0 ≤ 1; omega), (by show 0 + 0 ≤ 6; omega)⟩ [0, 1] rfl (List.nil_sublist _) (fun v hv => ?_)
        subst hv
        refine zv_go rfl rfl (st' := [.int (nI (bl (x >>> ((6 : Int32) &&& 31)) n))]) rfl (kc' := 0) rfl (ns' := 0) rfl ?_
        have ht : bl (x >>> ((6 : Int32) &&& 31)) n < n := bl_lt _ hn0
        refine zv_istore C dL_act_279 281 rfl [(6, .int (nI (bl (x >>> ((6 : Int32) &&& 31)) n))), (0, .ref a), (1, .ref (s 0)), (2, .int x), (3, .int (nI n)), (4, .int (nI (bl (x >>> ((3 : Int32) &&& 31)) n))), (5, .int cn)] (by decide) rfl ?_
        refine zv_iload C dL_act_281 283 rfl 5 rfl ?_
        refine zv_iload C dL_act_283 285 rfl 0 rfl ?_
        refine zv_icmp_eq C dL_act_285 288 303 rfl (by decide) (fun ce => ?_) (fun ce => ?_)
        ·
          refine zv_iconst (v := 0) C dL_act_303 304 rfl (by decide) ?_
          refine zv_istore C dL_act_304 306 rfl [(5, .int 0), (6, .int (nI (bl (x >>> ((6 : Int32) &&& 31)) n))), (0, .ref a), (1, .ref (s 0)), (2, .int x), (3, .int (nI n)), (4, .int (nI (bl (x >>> ((3 : Int32) &&& 31)) n)))] (by decide) rfl ?_
          refine zv_aload_n C dL_act_306 307 rfl 3 rfl ?_
          refine zv_get (ci := 2) C inX2 rfl dL_act_307 310 rfl 0 2 rfl (by decide) lk9 rfl ?_
          refine zv_iload C dL_act_310 312 rfl 6 rfl ?_
          refine zn_aald (r := pa (bl (x >>> ((3 : Int32) &&& 31)) n)) C dL_act_312 313 rfl 1 2 (bl (x >>> ((3 : Int32) &&& 31)) n) rfl rfl rfl (by omega) (by omega) rfl ?_
          refine zv_iconst (v := 0) C dL_act_313 314 rfl (by decide) ?_
          refine zv_iald (v := (m0 (bl (x >>> ((3 : Int32) &&& 31)) n))) C dL_act_314 315 rfl ((bl (x >>> ((3 : Int32) &&& 31)) n) + 3) 0 0 (zr_p0 (by omega)) rfl (by decide) (by omega) (by omega) rfl ?_
          refine zv_istore C dL_act_315 317 rfl [(7, .int (m0 (bl (x >>> ((3 : Int32) &&& 31)) n))), (5, .int 0), (6, .int (nI (bl (x >>> ((6 : Int32) &&& 31)) n))), (0, .ref a), (1, .ref (s 0)), (2, .int x), (3, .int (nI n)), (4, .int (nI (bl (x >>> ((3 : Int32) &&& 31)) n)))] (by decide) rfl ?_
          refine zv_iload C dL_act_317 319 rfl 1 rfl ?_
          refine zv_if_eq C dL_act_319 322 333 rfl (by decide) (fun _ => ?_) (fun c => absurd rfl c)
          refine zv_aload_n C dL_act_333 334 rfl 3 rfl ?_
          refine zv_iload C dL_act_334 336 rfl 7 rfl ?_
          refine zv_iload C dL_act_336 338 rfl 2 rfl ?_
          refine zn_tV (rest := []) C hA hO (wt_lead_t3 l D hR hl (bl (x >>> ((3 : Int32) &&& 31)) n) (bl (x >>> ((6 : Int32) &&& 31)) n) hp ht (zn_eq (by omega) (by omega) ce)) (cwV 2 C.1.2.2.2.2 gL_act_X1_lead rfl rfl rfl (by decide +kernel) ⟨Nat.le_of_ble_eq_true rfl, Nat.le_of_ble_eq_true rfl⟩) dL_act_338 (ci := 1) 0 rfl hrc rfl rfl (Nat.le_of_ble_eq_true rfl) ⟨(by show 0 + 1 ≤ 1; omega), (by show 0 + 6 ≤ 6; omega)⟩ [0, 1] rfl (List.Sublist.cons _ (List.Sublist.cons _ (List.Sublist.cons _ ((List.sublist_append_right _ _).trans (List.sublist_append_right _ _))))) (zx_catch C hO (by decide) [⟨36, 158, 602, 74⟩, ⟨159, 264, 602, 74⟩, ⟨265, 270, 602, 74⟩] ⟨271, 356, 602, 74⟩ [⟨357, 362, 602, 74⟩, ⟨363, 418, 602, 74⟩, ⟨419, 457, 602, 74⟩, ⟨458, 463, 602, 74⟩, ⟨464, 541, 602, 74⟩, ⟨542, 601, 602, 74⟩] (htab.trans rfl) (List.forall_mem_cons.mpr ⟨Or.inl (by decide), (List.forall_mem_cons.mpr ⟨Or.inl (by decide), (List.forall_mem_cons.mpr ⟨Or.inl (by decide), (fun _ h => absurd h List.not_mem_nil)⟩)⟩)⟩) (by decide) (by decide) (by decide +kernel) 602 rfl (fun qx => ?_))
          refine zv_go rfl rfl rfl (kc' := 1) rfl (ns' := 6) rfl ?_
          refine zv_astore C dL_act_602 604 rfl [(6, .ref qx), (7, .int (m0 (bl (x >>> ((3 : Int32) &&& 31)) n))), (5, .int 0), (0, .ref a), (1, .ref (s 0)), (2, .int x), (3, .int (nI n)), (4, .int (nI (bl (x >>> ((3 : Int32) &&& 31)) n)))] (by decide) rfl ?_
          refine zv_iload C dL_act_604 606 rfl 2 rfl ?_
          refine zv_if_ne C dL_act_606 609 613 rfl (by decide) (fun c => absurd c (by decide)) (fun _ => ?_)
          refine zv_iconst (v := 1) C dL_act_609 610 rfl (by decide) ?_
          refine zv_goto C dL_act_610 614 (by decide) ?_
          refine zv_widen (k' := 1) (n' := 6) (by omega) (by omega) ?_
          exact zv_zretR C (by decide) hr hlk hA hQ dL_act_614 rfl
        ·
          have hne : ¬ bl (x >>> ((3 : Int32) &&& 31)) n = bl (x >>> ((6 : Int32) &&& 31)) n := fun z => ce (by rw [z])
          have hfl := hl2.resolve_left hne
          refine zv_aload_n C dL_act_288 289 rfl 2 rfl ?_
          refine zv_iload C dL_act_289 291 rfl 0 rfl ?_
          refine zv_iload C dL_act_291 293 rfl 5 rfl ?_
          refine zn_callRV (rest := []) C zn_TB zn_TE (zn_ofR (k_X2_isAbove l D cI cZ cA y hV s pa da (bl (x >>> ((6 : Int32) &&& 31)) n) (bl (x >>> ((3 : Int32) &&& 31)) n) ht hp)) (cwV 2 C.1.2.2.2.2 gL_act_X2_isAbove rfl rfl rfl (by decide +kernel) ⟨Nat.le_of_ble_eq_true rfl, Nat.le_of_ble_eq_true rfl⟩) dL_act_293 296 rfl (ci := 2) rfl 0 rfl rfl rfl (Nat.le_of_ble_eq_true rfl) ⟨(by show 0 + 0 ≤ 1; omega), (by show 0 + 0 ≤ 6; omega)⟩ [0, 1, 2] rfl (List.Sublist.cons_cons _ (List.Sublist.cons_cons _ (List.Sublist.cons_cons _ (List.Sublist.append (List.Sublist.refl _) (List.sublist_append_left _ _))))) (fun v hv => ?_)
          subst hv
          rw [hfl]
          refine zv_go rfl rfl (st' := [.int (zb true)]) rfl (kc' := 0) rfl (ns' := 0) rfl ?_
          refine zv_if_ne C dL_act_296 299 303 rfl (by decide) (fun _ => ?_) (fun c => absurd c (by decide))
          refine zv_iconst (v := 0) C dL_act_303 304 rfl (by decide) ?_
          refine zv_istore C dL_act_304 306 rfl [(5, .int 0), (6, .int (nI (bl (x >>> ((6 : Int32) &&& 31)) n))), (0, .ref a), (1, .ref (s 0)), (2, .int x), (3, .int (nI n)), (4, .int (nI (bl (x >>> ((3 : Int32) &&& 31)) n)))] (by decide) rfl ?_
          refine zv_aload_n C dL_act_306 307 rfl 3 rfl ?_
          refine zv_get (ci := 2) C inX2 rfl dL_act_307 310 rfl 0 2 rfl (by decide) lk9 rfl ?_
          refine zv_iload C dL_act_310 312 rfl 6 rfl ?_
          refine zn_aald (r := pa (bl (x >>> ((3 : Int32) &&& 31)) n)) C dL_act_312 313 rfl 1 2 (bl (x >>> ((3 : Int32) &&& 31)) n) rfl rfl rfl (by omega) (by omega) rfl ?_
          refine zv_iconst (v := 0) C dL_act_313 314 rfl (by decide) ?_
          refine zv_iald (v := (m0 (bl (x >>> ((3 : Int32) &&& 31)) n))) C dL_act_314 315 rfl ((bl (x >>> ((3 : Int32) &&& 31)) n) + 3) 0 0 (zr_p0 (by omega)) rfl (by decide) (by omega) (by omega) rfl ?_
          refine zv_istore C dL_act_315 317 rfl [(7, .int (m0 (bl (x >>> ((3 : Int32) &&& 31)) n))), (5, .int 0), (6, .int (nI (bl (x >>> ((6 : Int32) &&& 31)) n))), (0, .ref a), (1, .ref (s 0)), (2, .int x), (3, .int (nI n)), (4, .int (nI (bl (x >>> ((3 : Int32) &&& 31)) n)))] (by decide) rfl ?_
          refine zv_iload C dL_act_317 319 rfl 1 rfl ?_
          refine zv_if_eq C dL_act_319 322 333 rfl (by decide) (fun _ => ?_) (fun c => absurd rfl c)
          refine zv_aload_n C dL_act_333 334 rfl 3 rfl ?_
          refine zv_iload C dL_act_334 336 rfl 7 rfl ?_
          refine zv_iload C dL_act_336 338 rfl 2 rfl ?_
          refine zn_tV (rest := []) C hA hO (wt_lead_t4 l D hR hl (bl (x >>> ((3 : Int32) &&& 31)) n) (bl (x >>> ((6 : Int32) &&& 31)) n) hp ht hne hfl) (cwV 2 C.1.2.2.2.2 gL_act_X1_lead rfl rfl rfl (by decide +kernel) ⟨Nat.le_of_ble_eq_true rfl, Nat.le_of_ble_eq_true rfl⟩) dL_act_338 (ci := 1) 0 rfl hrc rfl rfl (Nat.le_of_ble_eq_true rfl) ⟨(by show 0 + 1 ≤ 1; omega), (by show 0 + 6 ≤ 6; omega)⟩ [0, 1] rfl (List.Sublist.cons _ (List.Sublist.cons _ (List.Sublist.cons _ ((List.sublist_append_right _ _).trans (List.sublist_append_right _ _))))) (zx_catch C hO (by decide) [⟨36, 158, 602, 74⟩, ⟨159, 264, 602, 74⟩, ⟨265, 270, 602, 74⟩] ⟨271, 356, 602, 74⟩ [⟨357, 362, 602, 74⟩, ⟨363, 418, 602, 74⟩, ⟨419, 457, 602, 74⟩, ⟨458, 463, 602, 74⟩, ⟨464, 541, 602, 74⟩, ⟨542, 601, 602, 74⟩] (htab.trans rfl) (List.forall_mem_cons.mpr ⟨Or.inl (by decide), (List.forall_mem_cons.mpr ⟨Or.inl (by decide), (List.forall_mem_cons.mpr ⟨Or.inl (by decide), (fun _ h => absurd h List.not_mem_nil)⟩)⟩)⟩) (by decide) (by decide) (by decide +kernel) 602 rfl (fun qx => ?_))
          refine zv_go rfl rfl rfl (kc' := 1) rfl (ns' := 6) rfl ?_
          refine zv_astore C dL_act_602 604 rfl [(6, .ref qx), (7, .int (m0 (bl (x >>> ((3 : Int32) &&& 31)) n))), (5, .int 0), (0, .ref a), (1, .ref (s 0)), (2, .int x), (3, .int (nI n)), (4, .int (nI (bl (x >>> ((3 : Int32) &&& 31)) n)))] (by decide) rfl ?_
          refine zv_iload C dL_act_604 606 rfl 2 rfl ?_
          refine zv_if_ne C dL_act_606 609 613 rfl (by decide) (fun c => absurd c (by decide)) (fun _ => ?_)
          refine zv_iconst (v := 1) C dL_act_609 610 rfl (by decide) ?_
          refine zv_goto C dL_act_610 614 (by decide) ?_
          refine zv_widen (k' := 1) (n' := 6) (by omega) (by omega) ?_
          exact zv_zretR C (by decide) hr hlk hA hQ dL_act_614 rfl
      rcases hk1 with e | e | e
      ·
        refine zv_tabIn C dL_act_42 (by rw [hti 3 e (by omega)]; decide) (by rw [hti 3 e (by omega)]; decide) (off := 223) (tgt := 265) (by rw [hti 3 e (by omega)]; rfl) (by decide) ?_
        exact KL
      ·
        refine zv_tabIn C dL_act_42 (by rw [hti 4 e (by omega)]; decide) (by rw [hti 4 e (by omega)]; decide) (off := 223) (tgt := 265) (by rw [hti 4 e (by omega)]; rfl) (by decide) ?_
        exact KL
      ·
        refine zv_tabIn C dL_act_42 (by rw [hti 5 e (by omega)]; decide) (by rw [hti 5 e (by omega)]; decide) (off := 223) (tgt := 265) (by rw [hti 5 e (by omega)]; rfl) (by decide) ?_
        exact KL
    · -- no room for a bridge
      have hk1 : bl x 14 = 8 ∨ bl x 14 = 9 := by omega
      have KB : zv_V pP l eE rtL_act sS mM aA bB mT cD Q 9 D vwCl A (fun _ => True) (tyS cI cZ cA) ((s 0, .inr (2, [.int r, .int y, .ref (s 1), .ref (s 2)])) :: (s 1, .inl (cA, n, aq pa)) :: (s 2, .inl (cA, b, aq da)) :: (sR cI 6 pa (rP m0 m1 m2 m3 m4 m5) n ++ (sR cI 2 da (rB m6 m7) b ++ w))) 0 0 458 [(0, .ref a), (1, .ref (s 0)), (2, .int x), (3, .int (nI n)), (4, .int (nI (bl (x >>> ((3 : Int32) &&& 31)) n))), (5, .int cn)] [] := by
        refine zv_iload_n C dL_act_458 459 rfl 3 rfl ?_
        refine zv_if_ne C dL_act_459 462 464 rfl (by decide) (fun _ => ?_) (fun c => absurd c (bl_0 hn0 (by omega)))
        refine zv_aload_n C dL_act_464 465 rfl 1 rfl ?_
        refine zv_get (ci := 2) C inX2 rfl dL_act_465 468 rfl 0 3 rfl (by decide) lk54 rfl ?_
        refine zv_alen (v := (nI b)) C dL_act_468 469 rfl 2 2 rfl rfl rfl ?_
        refine zv_bipush (v := 16) C dL_act_469 471 rfl (by decide) ?_
        refine zv_icmp_ge C dL_act_471 474 478 rfl (by decide) (fun _ => ?_) (fun c => absurd (by rw [hbb]; decide) c)
        refine zv_iconst (v := 0) C dL_act_478 479 rfl (by decide) ?_
        refine zv_istore C dL_act_479 481 rfl [(5, .int 0), (0, .ref a), (1, .ref (s 0)), (2, .int x), (3, .int (nI n)), (4, .int (nI (bl (x >>> ((3 : Int32) &&& 31)) n)))] (by decide) rfl ?_
        refine zv_iload C dL_act_481 483 rfl 0 rfl ?_
        refine zv_if_eq C dL_act_483 486 515 rfl (by decide) (fun _ => ?_) (fun c => absurd rfl c)
        refine zv_aload_n C dL_act_515 516 rfl 1 rfl ?_
        refine zv_iload C dL_act_516 518 rfl 5 rfl ?_
        refine zn_tV (rest := []) C hA hO (wt_build_t2 l D hR hl (bl (x >>> ((3 : Int32) &&& 31)) n) hp hbb) (cwV 1 C.1.2.2.2.2 gL_act_X1_build rfl rfl rfl (by decide +kernel) ⟨Nat.le_of_ble_eq_true rfl, Nat.le_of_ble_eq_true rfl⟩) dL_act_518 (ci := 1) 0 rfl hrc rfl rfl (Nat.le_of_ble_eq_true rfl) ⟨(by show 0 + 1 ≤ 1; omega), (by show 0 + 6 ≤ 6; omega)⟩ [0, 1] rfl (List.Sublist.cons _ (List.Sublist.cons _ (List.Sublist.cons _ ((List.sublist_append_right _ _).trans (List.sublist_append_right _ _))))) (zx_catch C hO (by decide) [⟨36, 158, 602, 74⟩, ⟨159, 264, 602, 74⟩, ⟨265, 270, 602, 74⟩, ⟨271, 356, 602, 74⟩, ⟨357, 362, 602, 74⟩, ⟨363, 418, 602, 74⟩, ⟨419, 457, 602, 74⟩, ⟨458, 463, 602, 74⟩] ⟨464, 541, 602, 74⟩ [⟨542, 601, 602, 74⟩] (htab.trans rfl) (List.forall_mem_cons.mpr ⟨Or.inl (by decide), (List.forall_mem_cons.mpr ⟨Or.inl (by decide), (List.forall_mem_cons.mpr ⟨Or.inl (by decide), (List.forall_mem_cons.mpr ⟨Or.inl (by decide), (List.forall_mem_cons.mpr ⟨Or.inl (by decide), (List.forall_mem_cons.mpr ⟨Or.inl (by decide), (List.forall_mem_cons.mpr ⟨Or.inl (by decide), (List.forall_mem_cons.mpr ⟨Or.inl (by decide), (fun _ h => absurd h List.not_mem_nil)⟩)⟩)⟩)⟩)⟩)⟩)⟩)⟩) (by decide) (by decide) (by decide +kernel) 602 rfl (fun qx => ?_))
        refine zv_go rfl rfl rfl (kc' := 1) rfl (ns' := 6) rfl ?_
        refine zv_astore C dL_act_602 604 rfl [(6, .ref qx), (5, .int 0), (0, .ref a), (1, .ref (s 0)), (2, .int x), (3, .int (nI n)), (4, .int (nI (bl (x >>> ((3 : Int32) &&& 31)) n)))] (by decide) rfl ?_
        refine zv_iload C dL_act_604 606 rfl 1 rfl ?_
        refine zv_if_ne C dL_act_606 609 613 rfl (by decide) (fun c => absurd c (by decide)) (fun _ => ?_)
        refine zv_iconst (v := 1) C dL_act_609 610 rfl (by decide) ?_
        refine zv_goto C dL_act_610 614 (by decide) ?_
        refine zv_widen (k' := 1) (n' := 6) (by omega) (by omega) ?_
        exact zv_zretR C (by decide) hr hlk hA hQ dL_act_614 rfl
      rcases hk1 with e | e
      ·
        refine zv_tabIn C dL_act_42 (by rw [hti 8 e (by omega)]; decide) (by rw [hti 8 e (by omega)]; decide) (off := 416) (tgt := 458) (by rw [hti 8 e (by omega)]; rfl) (by decide) ?_
        exact KB
      ·
        refine zv_tabIn C dL_act_42 (by rw [hti 9 e (by omega)]; decide) (by rw [hti 9 e (by omega)]; decide) (off := 416) (tgt := 458) (by rw [hti 9 e (by omega)]; rfl) (by decide) ?_
        exact KB
  refine zv_icmp_ge C dL_act_26 29 33 rfl (by decide) (fun c16 => ?_) (fun c16 => ?_)
  ·
    refine zv_iconst (v := 0) C dL_act_33 34 rfl (by decide) ?_
    refine zv_istore C dL_act_34 36 rfl [(5, .int 0), (4, .int (nI (bl (x >>> ((3 : Int32) &&& 31)) n))), (3, .int (nI n)), (0, .ref a), (1, .ref (s 0)), (2, .int x)] (by decide) rfl ?_
    refine zv_sub [3, 4, 5, 2, 1, 0] (lv' := [(0, .ref a), (1, .ref (s 0)), (2, .int x), (3, .int (nI n)), (4, .int (nI (bl (x >>> ((3 : Int32) &&& 31)) n))), (5, .int 0)]) rfl ?_
    exact K 0 (fun _ => rfl)
  ·
    refine zv_iconst (v := 1) C dL_act_29 30 rfl (by decide) ?_
    refine zv_goto C dL_act_30 34 (by decide) ?_
    refine zv_istore C dL_act_34 36 rfl [(5, .int 1), (4, .int (nI (bl (x >>> ((3 : Int32) &&& 31)) n))), (3, .int (nI n)), (0, .ref a), (1, .ref (s 0)), (2, .int x)] (by decide) rfl ?_
    refine zv_sub [3, 4, 5, 2, 1, 0] (lv' := [(0, .ref a), (1, .ref (s 0)), (2, .int x), (3, .int (nI n)), (4, .int (nI (bl (x >>> ((3 : Int32) &&& 31)) n))), (5, .int 1)]) rfl ?_
    exact K 1 (fun h => absurd (zn_le' (a := 16) (by omega) (by omega) c16) (by omega))
