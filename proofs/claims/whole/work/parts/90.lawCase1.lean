theorem bitL_y {x : Int32} (h : x = 0) : bitL x = 0 := if_pos h
theorem bitL_n {x : Int32} (h : ¬ x = 0) : bitL x = 1 := if_neg h
def LK (pP : Program) (l : Launch) (eE : Env) (sS : State) (mM : MethodId) (aA : Array Value) (bB : List Frame) (mT : Method) (cD : Code) (Q : State → Prop) (D : va_G) (cI cZ cJ : ClassId) (A : Nat → Prop) (sc : Nat) (q h k mh : Nat → Nat) (o i kc ns : Nat) : Prop := ∀ (n b : Nat) (y r t : Int32) (d : Nat → Nat) (f0 f1 f2 f3 f4 f5 f6 f7 f8 f9 f10 f11 f12 f13 : Nat → Int32) (n1 : Nat) (r1 : Int32) (g0 g1 g2 g3 g4 g5 g6 g7 g8 g9 g10 g11 g12 g13 bp bn : Nat → Int32) (u : Nat → Int64) (m0 m1 m2 m3 m4 m5 m6 m7 m8 m9 m10 m11 m12 m13 : Nat → Int32), LI n b r d f0 f1 f2 f3 f4 f5 f6 f7 f8 f9 f10 f11 f12 f13 bp bn m0 m1 m2 m3 m4 m5 m6 m7 → zv_V pP l eE room_1 sS mM aA bB mT cD Q 9 D vwCl A A (tyJ cI cZ cJ) ((cR cI cZ q h k (nI b) y (nI n) r f0 f1 f2 f3 f4 f5 f6 f7 f8 f9 f10 f11 f12 f13 (nI n1) r1 g0 g1 g2 g3 g4 g5 g6 g7 g8 g9 g10 g11 g12 g13 bp bn) ++ ((cM cI cZ mh t (nI n) r y (nI b) m0 m1 m2 m3 m4 m5 m6 m7 m8 m9 m10 m11 m12 m13) ++ [(o, .inl (cJ, 1, .inr (.inl u)))])) (kc + 17) (ns + 168) 1966 [(0, .ref sc), (1, .ref (q 0)), (2, .ref (mh 0)), (3, .ref o), (4, .int (nI i))] []
set_option maxHeartbeats 4000000 in
set_option maxRecDepth 100000 in
theorem lc_leadsTo_no {pP : Program} {l : Launch} {eE : Env} {sS : State} {mM : MethodId} {aA : Array Value} {bB : List Frame} {mT : Method} {cD : Code} {Q : State → Prop} {D : va_G} {cI cZ cJ : ClassId} {A : Nat → Prop} {sc L : Nat} {xs : Nat → Int32} {q h k mh : Nat → Nat} {o i kc ns : Nat} {n b : Nat} {y r t : Int32} {d : Nat → Nat} {f0 f1 f2 f3 f4 f5 f6 f7 f8 f9 f10 f11 f12 f13 : Nat → Int32} {n1 : Nat} {r1 : Int32} {g0 g1 g2 g3 g4 g5 g6 g7 g8 g9 g10 g11 g12 g13 bp bn : Nat → Int32} {u : Nat → Int64} {m0 m1 m2 m3 m4 m5 m6 m7 m8 m9 m10 m11 m12 m13 : Nat → Int32} (hl : l.stackTraces = false) (C : zv_C pP mM cD cL_law 9 sS aA wsL_law "RiverNamesLaw" A) (hA : A = fun q => sS.heap.size ≤ q) (hE : zx_E sS) (hX : va_X sc L xs sS sS.heap) (hsc : sc < sS.heap.size) (hi : i + 4 ≤ L) (hL : L ≤ 2048) (hkc : kc + 17 ≤ 601024) (hns : ns + 168 ≤ 7293034) (hI : LI n b r d f0 f1 f2 f3 f4 f5 f6 f7 f8 f9 f10 f11 f12 f13 bp bn m0 m1 m2 m3 m4 m5 m6 m7) (K : LK pP l eE sS mM aA bB mT cD Q D cI cZ cJ A sc q h k mh o i kc ns) (hf : isP n (xs (i + 1)) = false) : zv_V pP l eE room_1 sS mM aA bB mT cD Q 9 D vwCl A A (tyJ cI cZ cJ) ((cR cI cZ q h k (nI b) y (nI n) r f0 f1 f2 f3 f4 f5 f6 f7 f8 f9 f10 f11 f12 f13 (nI n1) r1 g0 g1 g2 g3 g4 g5 g6 g7 g8 g9 g10 g11 g12 g13 bp bn) ++ ((cM cI cZ mh t (nI n) r y (nI b) m0 m1 m2 m3 m4 m5 m6 m7 m8 m9 m10 m11 m12 m13) ++ [(o, .inl (cJ, 1, .inr (.inl u)))])) kc ns 649 [(0, .ref sc), (1, .ref (q 0)), (2, .ref (mh 0)), (3, .ref o), (4, .int (nI i))] [] := by
  refine zv_aload_n C dL_law_649 650 rfl 1 rfl ?_
  refine zv_aload_n C dL_law_650 651 rfl 0 rfl ?_
  refine zv_iload C dL_law_651 653 rfl 4 rfl ?_
  refine zv_iconst (v := 1) C dL_law_653 654 rfl (by decide) ?_
  refine zv_iadd (v := (nI (i + 1))) C dL_law_654 655 rfl (nI_1 i) ?_
  refine zv_sld C hA hX hsc dL_law_655 656 rfl (i + 1) rfl (by omega) hL (v := (xs (i + 1))) rfl ?_
  refine zv_aload_n C dL_law_656 657 rfl 3 rfl ?_
  refine zv_callWE (rest := []) C hA hE (k_L_leadsTo_t l D cI cZ cJ q h k b y n r f0 f1 f2 f3 f4 f5 f6 f7 f8 f9 f10 f11 f12 f13 n1 r1 g0 g1 g2 g3 g4 g5 g6 g7 g8 g9 g10 g11 g12 g13 bp bn o u (xs (i + 1)) hI.n16 (by first | assumption | omega) hl) (vx_cwSW 3 C.1.2.2.2.2 gL_law_L_leadsTo rfl rfl rfl (by decide +kernel) ⟨Nat.le_of_ble_eq_true rfl, Nat.le_of_ble_eq_true rfl⟩) dL_law_657 660 rfl rfl rfl (Nat.le_of_ble_eq_true rfl) ⟨(by show kc + 1 ≤ 601024; omega), (by show ns + 6 ≤ 7293034; omega)⟩ [0, 1, 2] rfl [0, 1, 2, 3, 4, 5, 6, 7, 8, 9, 10, 11, 12, 13, 14, 15, 16, 17, 18, 19, 20, 21, 22, 23, 24, 25, 26, 27, 28, 29, 30, 31, 32, 48] rfl (by decide) (fun v hv => ?_)
  subst hv
  refine zv_go rfl rfl (st' := [.int 1]) rfl (kc' := kc + 1) rfl (ns' := ns + 6) rfl ?_
  refine zv_istore C dL_law_660 662 rfl [(5, .int 1), (0, .ref sc), (1, .ref (q 0)), (2, .ref (mh 0)), (3, .ref o), (4, .int (nI i))] (by decide) rfl ?_
  refine zv_aload_n C dL_law_662 663 rfl 3 rfl ?_
  refine zv_aload_n C dL_law_663 664 rfl 1 rfl ?_
  refine zv_iload C dL_law_664 666 rfl 5 rfl ?_
  refine zv_iconst (v := 1) C dL_law_666 667 rfl (by decide) ?_
  refine zv_iadd (v := (nI (i + 1))) C dL_law_667 668 rfl (nI_1 i) ?_
  refine zv_sld C hA hX hsc dL_law_668 669 rfl (i + 1) rfl (by omega) hL (v := (xs (i + 1))) rfl ?_
  refine zv_callV (rest := []) (wr := ((cR cI cZ q h k (nI b) y (nI n) r f0 f1 f2 f3 f4 f5 f6 f7 f8 f9 f10 f11 f12 f13 (nI n1) r1 g0 g1 g2 g3 g4 g5 g6 g7 g8 g9 g10 g11 g12 g13 bp bn) ++ [(o, .inl (cJ, 1, .inr (.inl u)))])) C (k_X2_leadsTo_no l D cI cZ mh t n r y b m0 m1 m2 m3 m4 m5 m6 m7 m8 m9 m10 m11 m12 m13 (xs (i + 1)) hI.n16 (by first | assumption | omega)) (cwV 1 C.1.2.2.2.2 gL_law_X2_leadsTo rfl rfl rfl (by decide +kernel) ⟨Nat.le_of_ble_eq_true rfl, Nat.le_of_ble_eq_true rfl⟩) dL_law_669 672 rfl (ci := 2) 0 rfl rfl rfl rfl (Nat.le_of_ble_eq_true rfl) ⟨(by show kc + 1 + 0 ≤ 601024; omega), (by show ns + 6 + 0 ≤ 7293034; omega)⟩ [0, 1] rfl [33, 34, 35, 36, 37, 38, 39, 40, 41, 42, 43, 44, 45, 46, 47] rfl (by decide) [0, 1, 2, 3, 4, 5, 6, 7, 8, 9, 10, 11, 12, 13, 14, 15, 16, 17, 18, 19, 20, 21, 22, 23, 24, 25, 26, 27, 28, 29, 30, 31, 32, 48] rfl (by decide) (by decide +kernel) (fun v w hv => ?_)
  obtain ⟨rfl, rfl⟩ := hv
  refine zv_go rfl rfl (st' := [.int 0]) rfl (kc' := kc + 1) rfl (ns' := ns + 6) rfl ?_
  refine zv_perm [0, 1, 2, 3, 4, 5, 6, 7, 8, 9, 10, 11, 12, 13, 14, 15, 16, 17, 18, 19, 20, 21, 22, 23, 24, 25, 26, 27, 28, 29, 30, 31, 32, 34, 35, 36, 37, 38, 39, 40, 41, 42, 43, 44, 45, 46, 47, 48, 33] (ws' := ((cR cI cZ q h k (nI b) y (nI n) r f0 f1 f2 f3 f4 f5 f6 f7 f8 f9 f10 f11 f12 f13 (nI n1) r1 g0 g1 g2 g3 g4 g5 g6 g7 g8 g9 g10 g11 g12 g13 bp bn) ++ ((cM cI cZ mh 1 (nI n) r y (nI b) m0 m1 m2 m3 m4 m5 m6 m7 m8 m9 m10 m11 m12 m13) ++ [(o, .inl (cJ, 1, .inr (.inl u)))]))) (by decide) rfl ?_
  refine zv_istore C dL_law_672 674 rfl [(6, .int 0), (5, .int 1), (0, .ref sc), (1, .ref (q 0)), (2, .ref (mh 0)), (3, .ref o), (4, .int (nI i))] (by decide) rfl ?_
  refine zv_aload_n C dL_law_674 675 rfl 4 rfl ?_
  refine zv_callVR (rest := []) C (k_X2_thrown l D cI cZ mh 1 n r y b m0 m1 m2 m3 m4 m5 m6 m7 m8 m9 m10 m11 m12 m13 ) (cwV 0 C.1.2.2.2.2 gL_law_X2_thrown rfl rfl rfl (by decide +kernel) ⟨Nat.le_of_ble_eq_true rfl, Nat.le_of_ble_eq_true rfl⟩) dL_law_675 678 rfl (ci := 2) 0 rfl rfl rfl rfl (Nat.le_of_ble_eq_true rfl) ⟨(by show kc + 1 + 0 ≤ 601024; omega), (by show ns + 6 + 0 ≤ 7293034; omega)⟩ [0, 1] rfl [33, 34, 35, 36, 37, 38, 39, 40, 41, 42, 43, 44, 45, 46, 47] rfl (by decide) (fun v hv => ?_)
  subst hv
  refine zv_go rfl rfl (st' := [.int 1]) rfl (kc' := kc + 1) rfl (ns' := ns + 6) rfl ?_
  refine zv_iload C dL_law_678 680 rfl 1 rfl ?_
  refine zv_icmp_eq C dL_law_680 683 685 rfl (by decide) (fun _ => ?_) (fun q => absurd (by decide) q)
  refine zv_iload C dL_law_685 687 rfl 1 rfl ?_
  refine zv_if_ne C dL_law_687 690 702 rfl (by decide) (fun _ => ?_) (fun q => absurd q (by decide))
  refine zv_goto C dL_law_702 1966 (by decide) ?_
  refine zv_widen (k' := kc + 17) (n' := ns + 168) (by omega) (by omega) ?_
  refine zv_sub [2, 3, 4, 5, 6] (lv' := [(0, .ref sc), (1, .ref (q 0)), (2, .ref (mh 0)), (3, .ref o), (4, .int (nI i))]) rfl ?_
  exact K n b y r 1 d f0 f1 f2 f3 f4 f5 f6 f7 f8 f9 f10 f11 f12 f13 n1 r1 g0 g1 g2 g3 g4 g5 g6 g7 g8 g9 g10 g11 g12 g13 bp bn u m0 m1 m2 m3 m4 m5 m6 m7 m8 m9 m10 m11 m12 m13 hI
set_option maxHeartbeats 4000000 in
set_option maxRecDepth 100000 in
theorem lc_leadsTo_ok {pP : Program} {l : Launch} {eE : Env} {sS : State} {mM : MethodId} {aA : Array Value} {bB : List Frame} {mT : Method} {cD : Code} {Q : State → Prop} {D : va_G} {cI cZ cJ : ClassId} {A : Nat → Prop} {sc L : Nat} {xs : Nat → Int32} {q h k mh : Nat → Nat} {o i kc ns : Nat} {n b : Nat} {y r t : Int32} {d : Nat → Nat} {f0 f1 f2 f3 f4 f5 f6 f7 f8 f9 f10 f11 f12 f13 : Nat → Int32} {n1 : Nat} {r1 : Int32} {g0 g1 g2 g3 g4 g5 g6 g7 g8 g9 g10 g11 g12 g13 bp bn : Nat → Int32} {u : Nat → Int64} {m0 m1 m2 m3 m4 m5 m6 m7 m8 m9 m10 m11 m12 m13 : Nat → Int32} (hl : l.stackTraces = false) (C : zv_C pP mM cD cL_law 9 sS aA wsL_law "RiverNamesLaw" A) (hA : A = fun q => sS.heap.size ≤ q) (hE : zx_E sS) (hX : va_X sc L xs sS sS.heap) (hsc : sc < sS.heap.size) (hi : i + 4 ≤ L) (hL : L ≤ 2048) (hkc : kc + 17 ≤ 601024) (hns : ns + 168 ≤ 7293034) (hI : LI n b r d f0 f1 f2 f3 f4 f5 f6 f7 f8 f9 f10 f11 f12 f13 bp bn m0 m1 m2 m3 m4 m5 m6 m7) (K : LK pP l eE sS mM aA bB mT cD Q D cI cZ cJ A sc q h k mh o i kc ns) (p : Nat) (hp : p < n) (e1 : xs (i + 1) = nI p) : zv_V pP l eE room_1 sS mM aA bB mT cD Q 9 D vwCl A A (tyJ cI cZ cJ) ((cR cI cZ q h k (nI b) y (nI n) r f0 f1 f2 f3 f4 f5 f6 f7 f8 f9 f10 f11 f12 f13 (nI n1) r1 g0 g1 g2 g3 g4 g5 g6 g7 g8 g9 g10 g11 g12 g13 bp bn) ++ ((cM cI cZ mh t (nI n) r y (nI b) m0 m1 m2 m3 m4 m5 m6 m7 m8 m9 m10 m11 m12 m13) ++ [(o, .inl (cJ, 1, .inr (.inl u)))])) kc ns 649 [(0, .ref sc), (1, .ref (q 0)), (2, .ref (mh 0)), (3, .ref o), (4, .int (nI i))] [] := by
  refine zv_aload_n C dL_law_649 650 rfl 1 rfl ?_
  refine zv_aload_n C dL_law_650 651 rfl 0 rfl ?_
  refine zv_iload C dL_law_651 653 rfl 4 rfl ?_
  refine zv_iconst (v := 1) C dL_law_653 654 rfl (by decide) ?_
  refine zv_iadd (v := (nI (i + 1))) C dL_law_654 655 rfl (nI_1 i) ?_
  refine zv_sld C hA hX hsc dL_law_655 656 rfl (i + 1) rfl (by omega) hL (v := (nI p)) e1 ?_
  refine zv_aload_n C dL_law_656 657 rfl 3 rfl ?_
  refine zv_callW (rest := []) (wr := (cM cI cZ mh t (nI n) r y (nI b) m0 m1 m2 m3 m4 m5 m6 m7 m8 m9 m10 m11 m12 m13)) C (k_L_leadsTo_ok l D cI cZ cJ q h k b y n r f0 f1 f2 f3 f4 f5 f6 f7 f8 f9 f10 f11 f12 f13 n1 r1 g0 g1 g2 g3 g4 g5 g6 g7 g8 g9 g10 g11 g12 g13 bp bn o u p hI.n16 (by first | assumption | omega)) (vx_cwSW 3 C.1.2.2.2.2 gL_law_L_leadsTo rfl rfl rfl (by decide +kernel) ⟨Nat.le_of_ble_eq_true rfl, Nat.le_of_ble_eq_true rfl⟩) dL_law_657 660 rfl rfl rfl (Nat.le_of_ble_eq_true rfl) ⟨(by show kc + 0 ≤ 601024; omega), (by show ns + 0 ≤ 7293034; omega)⟩ [0, 1, 2] rfl [0, 1, 2, 3, 4, 5, 6, 7, 8, 9, 10, 11, 12, 13, 14, 15, 16, 17, 18, 19, 20, 21, 22, 23, 24, 25, 26, 27, 28, 29, 30, 31, 32, 48] rfl (by decide) [33, 34, 35, 36, 37, 38, 39, 40, 41, 42, 43, 44, 45, 46, 47] rfl (by decide) (by decide +kernel) (fun v w hv => ?_)
  obtain ⟨uo_1, rfl, rfl, hu⟩ := hv
  refine zv_go rfl rfl (st' := [.int 0]) rfl (kc' := kc) rfl (ns' := ns) rfl ?_
  refine zv_perm [15, 16, 17, 18, 19, 20, 21, 22, 23, 24, 25, 26, 27, 28, 29, 30, 31, 32, 33, 34, 35, 36, 37, 38, 39, 40, 41, 42, 43, 44, 45, 46, 47, 0, 1, 2, 3, 4, 5, 6, 7, 8, 9, 10, 11, 12, 13, 14, 48] (ws' := ((cR cI cZ q h k (nI b) y (nI n) r f0 f1 f2 f3 f4 f5 f6 f7 f8 f9 f10 f11 f12 f13 (nI n1) r1 g0 g1 g2 g3 g4 g5 g6 g7 g8 g9 g10 g11 g12 g13 bp bn) ++ ((cM cI cZ mh t (nI n) r y (nI b) m0 m1 m2 m3 m4 m5 m6 m7 m8 m9 m10 m11 m12 m13) ++ [(o, .inl (cJ, 1, .inr (.inl uo_1)))]))) (by decide) rfl ?_
  refine zv_istore C dL_law_660 662 rfl [(5, .int 0), (0, .ref sc), (1, .ref (q 0)), (2, .ref (mh 0)), (3, .ref o), (4, .int (nI i))] (by decide) rfl ?_
  refine zv_aload_n C dL_law_662 663 rfl 3 rfl ?_
  refine zv_aload_n C dL_law_663 664 rfl 1 rfl ?_
  refine zv_iload C dL_law_664 666 rfl 5 rfl ?_
  refine zv_iconst (v := 1) C dL_law_666 667 rfl (by decide) ?_
  refine zv_iadd (v := (nI (i + 1))) C dL_law_667 668 rfl (nI_1 i) ?_
  refine zv_sld C hA hX hsc dL_law_668 669 rfl (i + 1) rfl (by omega) hL (v := (nI p)) e1 ?_
  refine zv_callV (rest := []) (wr := ((cR cI cZ q h k (nI b) y (nI n) r f0 f1 f2 f3 f4 f5 f6 f7 f8 f9 f10 f11 f12 f13 (nI n1) r1 g0 g1 g2 g3 g4 g5 g6 g7 g8 g9 g10 g11 g12 g13 bp bn) ++ [(o, .inl (cJ, 1, .inr (.inl uo_1)))])) C (k_X2_leadsTo_ok l D cI cZ mh t n r y b m0 m1 m2 m3 m4 m5 m6 m7 m8 m9 m10 m11 m12 m13 p hI.n16 (by first | assumption | omega)) (cwV 1 C.1.2.2.2.2 gL_law_X2_leadsTo rfl rfl rfl (by decide +kernel) ⟨Nat.le_of_ble_eq_true rfl, Nat.le_of_ble_eq_true rfl⟩) dL_law_669 672 rfl (ci := 2) 0 rfl rfl rfl rfl (Nat.le_of_ble_eq_true rfl) ⟨(by show kc + 0 ≤ 601024; omega), (by show ns + 0 ≤ 7293034; omega)⟩ [0, 1] rfl [33, 34, 35, 36, 37, 38, 39, 40, 41, 42, 43, 44, 45, 46, 47] rfl (by decide) [0, 1, 2, 3, 4, 5, 6, 7, 8, 9, 10, 11, 12, 13, 14, 15, 16, 17, 18, 19, 20, 21, 22, 23, 24, 25, 26, 27, 28, 29, 30, 31, 32, 48] rfl (by decide) (by decide +kernel) (fun v w hv => ?_)
  obtain ⟨rfl, rfl⟩ := hv
  refine zv_go rfl rfl (st' := [.int (m0 p)]) rfl (kc' := kc) rfl (ns' := ns) rfl ?_
  refine zv_perm [0, 1, 2, 3, 4, 5, 6, 7, 8, 9, 10, 11, 12, 13, 14, 15, 16, 17, 18, 19, 20, 21, 22, 23, 24, 25, 26, 27, 28, 29, 30, 31, 32, 34, 35, 36, 37, 38, 39, 40, 41, 42, 43, 44, 45, 46, 47, 48, 33] (ws' := ((cR cI cZ q h k (nI b) y (nI n) r f0 f1 f2 f3 f4 f5 f6 f7 f8 f9 f10 f11 f12 f13 (nI n1) r1 g0 g1 g2 g3 g4 g5 g6 g7 g8 g9 g10 g11 g12 g13 bp bn) ++ ((cM cI cZ mh 0 (nI n) r y (nI b) m0 m1 m2 m3 m4 m5 m6 m7 m8 m9 m10 m11 m12 m13) ++ [(o, .inl (cJ, 1, .inr (.inl uo_1)))]))) (by decide) rfl ?_
  refine zv_istore C dL_law_672 674 rfl [(6, .int (m0 p)), (5, .int 0), (0, .ref sc), (1, .ref (q 0)), (2, .ref (mh 0)), (3, .ref o), (4, .int (nI i))] (by decide) rfl ?_
  refine zv_aload_n C dL_law_674 675 rfl 4 rfl ?_
  refine zv_callVR (rest := []) C (k_X2_thrown l D cI cZ mh 0 n r y b m0 m1 m2 m3 m4 m5 m6 m7 m8 m9 m10 m11 m12 m13 ) (cwV 0 C.1.2.2.2.2 gL_law_X2_thrown rfl rfl rfl (by decide +kernel) ⟨Nat.le_of_ble_eq_true rfl, Nat.le_of_ble_eq_true rfl⟩) dL_law_675 678 rfl (ci := 2) 0 rfl rfl rfl rfl (Nat.le_of_ble_eq_true rfl) ⟨(by show kc + 0 ≤ 601024; omega), (by show ns + 0 ≤ 7293034; omega)⟩ [0, 1] rfl [33, 34, 35, 36, 37, 38, 39, 40, 41, 42, 43, 44, 45, 46, 47] rfl (by decide) (fun v hv => ?_)
  subst hv
  refine zv_go rfl rfl (st' := [.int 0]) rfl (kc' := kc) rfl (ns' := ns) rfl ?_
  refine zv_iload C dL_law_678 680 rfl 1 rfl ?_
  refine zv_icmp_eq C dL_law_680 683 685 rfl (by decide) (fun _ => ?_) (fun q => absurd (by decide) q)
  refine zv_iload C dL_law_685 687 rfl 1 rfl ?_
  refine zv_if_ne C dL_law_687 690 702 rfl (by decide) (fun q => absurd (by decide) q) (fun _ => ?_)
  refine zv_aload_n C dL_law_690 691 rfl 5 rfl ?_
  refine zv_iconst (v := 0) C dL_law_691 692 rfl (by decide) ?_
  refine zv_lald (v := (uo_1 0)) C dL_law_692 693 rfl 48 2 0 rfl rfl (by decide) (by decide) (by decide) rfl ?_
  refine zv_iload C dL_law_693 695 rfl 0 rfl ?_
  refine zv_i2l C dL_law_695 696 rfl ?_
  refine zv_lcmpE C dL_law_696 697 rfl (hu.trans (congrArg Int32.toInt64 (hI.e0 p hp))) ?_
  refine zv_if_eq C dL_law_697 700 702 rfl (by decide) (fun _ => ?_) (fun q => absurd (by decide) q)
  refine zv_goto C dL_law_702 1966 (by decide) ?_
  refine zv_widen (k' := kc + 17) (n' := ns + 168) (by omega) (by omega) ?_
  refine zv_sub [2, 3, 4, 5, 6] (lv' := [(0, .ref sc), (1, .ref (q 0)), (2, .ref (mh 0)), (3, .ref o), (4, .int (nI i))]) rfl ?_
  exact K n b y r 0 d f0 f1 f2 f3 f4 f5 f6 f7 f8 f9 f10 f11 f12 f13 n1 r1 g0 g1 g2 g3 g4 g5 g6 g7 g8 g9 g10 g11 g12 g13 bp bn uo_1 m0 m1 m2 m3 m4 m5 m6 m7 m8 m9 m10 m11 m12 m13 hI
set_option maxHeartbeats 4000000 in
set_option maxRecDepth 100000 in
theorem lc_hasSpring_no {pP : Program} {l : Launch} {eE : Env} {sS : State} {mM : MethodId} {aA : Array Value} {bB : List Frame} {mT : Method} {cD : Code} {Q : State → Prop} {D : va_G} {cI cZ cJ : ClassId} {A : Nat → Prop} {sc L : Nat} {xs : Nat → Int32} {q h k mh : Nat → Nat} {o i kc ns : Nat} {n b : Nat} {y r t : Int32} {d : Nat → Nat} {f0 f1 f2 f3 f4 f5 f6 f7 f8 f9 f10 f11 f12 f13 : Nat → Int32} {n1 : Nat} {r1 : Int32} {g0 g1 g2 g3 g4 g5 g6 g7 g8 g9 g10 g11 g12 g13 bp bn : Nat → Int32} {u : Nat → Int64} {m0 m1 m2 m3 m4 m5 m6 m7 m8 m9 m10 m11 m12 m13 : Nat → Int32} (hl : l.stackTraces = false) (C : zv_C pP mM cD cL_law 9 sS aA wsL_law "RiverNamesLaw" A) (hA : A = fun q => sS.heap.size ≤ q) (hE : zx_E sS) (hX : va_X sc L xs sS sS.heap) (hsc : sc < sS.heap.size) (hi : i + 4 ≤ L) (hL : L ≤ 2048) (hkc : kc + 17 ≤ 601024) (hns : ns + 168 ≤ 7293034) (hI : LI n b r d f0 f1 f2 f3 f4 f5 f6 f7 f8 f9 f10 f11 f12 f13 bp bn m0 m1 m2 m3 m4 m5 m6 m7) (K : LK pP l eE sS mM aA bB mT cD Q D cI cZ cJ A sc q h k mh o i kc ns) (hf : isP n (xs (i + 1)) = false) : zv_V pP l eE room_1 sS mM aA bB mT cD Q 9 D vwCl A A (tyJ cI cZ cJ) ((cR cI cZ q h k (nI b) y (nI n) r f0 f1 f2 f3 f4 f5 f6 f7 f8 f9 f10 f11 f12 f13 (nI n1) r1 g0 g1 g2 g3 g4 g5 g6 g7 g8 g9 g10 g11 g12 g13 bp bn) ++ ((cM cI cZ mh t (nI n) r y (nI b) m0 m1 m2 m3 m4 m5 m6 m7 m8 m9 m10 m11 m12 m13) ++ [(o, .inl (cJ, 1, .inr (.inl u)))])) kc ns 705 [(0, .ref sc), (1, .ref (q 0)), (2, .ref (mh 0)), (3, .ref o), (4, .int (nI i))] [] := by
  refine zv_aload_n C dL_law_705 706 rfl 1 rfl ?_
  refine zv_aload_n C dL_law_706 707 rfl 0 rfl ?_
  refine zv_iload C dL_law_707 709 rfl 4 rfl ?_
  refine zv_iconst (v := 1) C dL_law_709 710 rfl (by decide) ?_
  refine zv_iadd (v := (nI (i + 1))) C dL_law_710 711 rfl (nI_1 i) ?_
  refine zv_sld C hA hX hsc dL_law_711 712 rfl (i + 1) rfl (by omega) hL (v := (xs (i + 1))) rfl ?_
  refine zv_aload_n C dL_law_712 713 rfl 3 rfl ?_
  refine zv_callWE (rest := []) C hA hE (k_L_hasSpring_t l D cI cZ cJ q h k b y n r f0 f1 f2 f3 f4 f5 f6 f7 f8 f9 f10 f11 f12 f13 n1 r1 g0 g1 g2 g3 g4 g5 g6 g7 g8 g9 g10 g11 g12 g13 bp bn o u (xs (i + 1)) hI.n16 (by first | assumption | omega) hl) (vx_cwSW 3 C.1.2.2.2.2 gL_law_L_hasSpring rfl rfl rfl (by decide +kernel) ⟨Nat.le_of_ble_eq_true rfl, Nat.le_of_ble_eq_true rfl⟩) dL_law_713 716 rfl rfl rfl (Nat.le_of_ble_eq_true rfl) ⟨(by show kc + 1 ≤ 601024; omega), (by show ns + 6 ≤ 7293034; omega)⟩ [0, 1, 2] rfl [0, 1, 2, 3, 4, 5, 6, 7, 8, 9, 10, 11, 12, 13, 14, 15, 16, 17, 18, 19, 20, 21, 22, 23, 24, 25, 26, 27, 28, 29, 30, 31, 32, 48] rfl (by decide) (fun v hv => ?_)
  subst hv
  refine zv_go rfl rfl (st' := [.int 1]) rfl (kc' := kc + 1) rfl (ns' := ns + 6) rfl ?_
  refine zv_istore C dL_law_716 718 rfl [(5, .int 1), (0, .ref sc), (1, .ref (q 0)), (2, .ref (mh 0)), (3, .ref o), (4, .int (nI i))] (by decide) rfl ?_
  refine zv_aload_n C dL_law_718 719 rfl 3 rfl ?_
  refine zv_aload_n C dL_law_719 720 rfl 1 rfl ?_
  refine zv_iload C dL_law_720 722 rfl 5 rfl ?_
  refine zv_iconst (v := 1) C dL_law_722 723 rfl (by decide) ?_
  refine zv_iadd (v := (nI (i + 1))) C dL_law_723 724 rfl (nI_1 i) ?_
  refine zv_sld C hA hX hsc dL_law_724 725 rfl (i + 1) rfl (by omega) hL (v := (xs (i + 1))) rfl ?_
  refine zv_callV (rest := []) (wr := ((cR cI cZ q h k (nI b) y (nI n) r f0 f1 f2 f3 f4 f5 f6 f7 f8 f9 f10 f11 f12 f13 (nI n1) r1 g0 g1 g2 g3 g4 g5 g6 g7 g8 g9 g10 g11 g12 g13 bp bn) ++ [(o, .inl (cJ, 1, .inr (.inl u)))])) C (k_X2_hasSpring_no l D cI cZ mh t n r y b m0 m1 m2 m3 m4 m5 m6 m7 m8 m9 m10 m11 m12 m13 (xs (i + 1)) hI.n16 (by first | assumption | omega)) (cwV 1 C.1.2.2.2.2 gL_law_X2_hasSpring rfl rfl rfl (by decide +kernel) ⟨Nat.le_of_ble_eq_true rfl, Nat.le_of_ble_eq_true rfl⟩) dL_law_725 728 rfl (ci := 2) 0 rfl rfl rfl rfl (Nat.le_of_ble_eq_true rfl) ⟨(by show kc + 1 + 0 ≤ 601024; omega), (by show ns + 6 + 0 ≤ 7293034; omega)⟩ [0, 1] rfl [33, 34, 35, 36, 37, 38, 39, 40, 41, 42, 43, 44, 45, 46, 47] rfl (by decide) [0, 1, 2, 3, 4, 5, 6, 7, 8, 9, 10, 11, 12, 13, 14, 15, 16, 17, 18, 19, 20, 21, 22, 23, 24, 25, 26, 27, 28, 29, 30, 31, 32, 48] rfl (by decide) (by decide +kernel) (fun v w hv => ?_)
  obtain ⟨rfl, rfl⟩ := hv
  refine zv_go rfl rfl (st' := [.int 0]) rfl (kc' := kc + 1) rfl (ns' := ns + 6) rfl ?_
  refine zv_perm [0, 1, 2, 3, 4, 5, 6, 7, 8, 9, 10, 11, 12, 13, 14, 15, 16, 17, 18, 19, 20, 21, 22, 23, 24, 25, 26, 27, 28, 29, 30, 31, 32, 34, 35, 36, 37, 38, 39, 40, 41, 42, 43, 44, 45, 46, 47, 48, 33] (ws' := ((cR cI cZ q h k (nI b) y (nI n) r f0 f1 f2 f3 f4 f5 f6 f7 f8 f9 f10 f11 f12 f13 (nI n1) r1 g0 g1 g2 g3 g4 g5 g6 g7 g8 g9 g10 g11 g12 g13 bp bn) ++ ((cM cI cZ mh 1 (nI n) r y (nI b) m0 m1 m2 m3 m4 m5 m6 m7 m8 m9 m10 m11 m12 m13) ++ [(o, .inl (cJ, 1, .inr (.inl u)))]))) (by decide) rfl ?_
  refine zv_istore C dL_law_728 730 rfl [(6, .int 0), (5, .int 1), (0, .ref sc), (1, .ref (q 0)), (2, .ref (mh 0)), (3, .ref o), (4, .int (nI i))] (by decide) rfl ?_
  refine zv_aload_n C dL_law_730 731 rfl 4 rfl ?_
  refine zv_callVR (rest := []) C (k_X2_thrown l D cI cZ mh 1 n r y b m0 m1 m2 m3 m4 m5 m6 m7 m8 m9 m10 m11 m12 m13 ) (cwV 0 C.1.2.2.2.2 gL_law_X2_thrown rfl rfl rfl (by decide +kernel) ⟨Nat.le_of_ble_eq_true rfl, Nat.le_of_ble_eq_true rfl⟩) dL_law_731 734 rfl (ci := 2) 0 rfl rfl rfl rfl (Nat.le_of_ble_eq_true rfl) ⟨(by show kc + 1 + 0 ≤ 601024; omega), (by show ns + 6 + 0 ≤ 7293034; omega)⟩ [0, 1] rfl [33, 34, 35, 36, 37, 38, 39, 40, 41, 42, 43, 44, 45, 46, 47] rfl (by decide) (fun v hv => ?_)
  subst hv
  refine zv_go rfl rfl (st' := [.int 1]) rfl (kc' := kc + 1) rfl (ns' := ns + 6) rfl ?_
  refine zv_iload C dL_law_734 736 rfl 1 rfl ?_
  refine zv_icmp_eq C dL_law_736 739 741 rfl (by decide) (fun _ => ?_) (fun q => absurd (by decide) q)
  refine zv_iload C dL_law_741 743 rfl 1 rfl ?_
  refine zv_if_ne C dL_law_743 746 765 rfl (by decide) (fun _ => ?_) (fun q => absurd q (by decide))
  refine zv_goto C dL_law_765 1966 (by decide) ?_
  refine zv_widen (k' := kc + 17) (n' := ns + 168) (by omega) (by omega) ?_
  refine zv_sub [2, 3, 4, 5, 6] (lv' := [(0, .ref sc), (1, .ref (q 0)), (2, .ref (mh 0)), (3, .ref o), (4, .int (nI i))]) rfl ?_
  exact K n b y r 1 d f0 f1 f2 f3 f4 f5 f6 f7 f8 f9 f10 f11 f12 f13 n1 r1 g0 g1 g2 g3 g4 g5 g6 g7 g8 g9 g10 g11 g12 g13 bp bn u m0 m1 m2 m3 m4 m5 m6 m7 m8 m9 m10 m11 m12 m13 hI
set_option maxHeartbeats 4000000 in
set_option maxRecDepth 100000 in
theorem lc_hasSpring_ok {pP : Program} {l : Launch} {eE : Env} {sS : State} {mM : MethodId} {aA : Array Value} {bB : List Frame} {mT : Method} {cD : Code} {Q : State → Prop} {D : va_G} {cI cZ cJ : ClassId} {A : Nat → Prop} {sc L : Nat} {xs : Nat → Int32} {q h k mh : Nat → Nat} {o i kc ns : Nat} {n b : Nat} {y r t : Int32} {d : Nat → Nat} {f0 f1 f2 f3 f4 f5 f6 f7 f8 f9 f10 f11 f12 f13 : Nat → Int32} {n1 : Nat} {r1 : Int32} {g0 g1 g2 g3 g4 g5 g6 g7 g8 g9 g10 g11 g12 g13 bp bn : Nat → Int32} {u : Nat → Int64} {m0 m1 m2 m3 m4 m5 m6 m7 m8 m9 m10 m11 m12 m13 : Nat → Int32} (hl : l.stackTraces = false) (C : zv_C pP mM cD cL_law 9 sS aA wsL_law "RiverNamesLaw" A) (hA : A = fun q => sS.heap.size ≤ q) (hE : zx_E sS) (hX : va_X sc L xs sS sS.heap) (hsc : sc < sS.heap.size) (hi : i + 4 ≤ L) (hL : L ≤ 2048) (hkc : kc + 17 ≤ 601024) (hns : ns + 168 ≤ 7293034) (hI : LI n b r d f0 f1 f2 f3 f4 f5 f6 f7 f8 f9 f10 f11 f12 f13 bp bn m0 m1 m2 m3 m4 m5 m6 m7) (K : LK pP l eE sS mM aA bB mT cD Q D cI cZ cJ A sc q h k mh o i kc ns) (p : Nat) (hp : p < n) (e1 : xs (i + 1) = nI p) : zv_V pP l eE room_1 sS mM aA bB mT cD Q 9 D vwCl A A (tyJ cI cZ cJ) ((cR cI cZ q h k (nI b) y (nI n) r f0 f1 f2 f3 f4 f5 f6 f7 f8 f9 f10 f11 f12 f13 (nI n1) r1 g0 g1 g2 g3 g4 g5 g6 g7 g8 g9 g10 g11 g12 g13 bp bn) ++ ((cM cI cZ mh t (nI n) r y (nI b) m0 m1 m2 m3 m4 m5 m6 m7 m8 m9 m10 m11 m12 m13) ++ [(o, .inl (cJ, 1, .inr (.inl u)))])) kc ns 705 [(0, .ref sc), (1, .ref (q 0)), (2, .ref (mh 0)), (3, .ref o), (4, .int (nI i))] [] := by
  refine zv_aload_n C dL_law_705 706 rfl 1 rfl ?_
  refine zv_aload_n C dL_law_706 707 rfl 0 rfl ?_
  refine zv_iload C dL_law_707 709 rfl 4 rfl ?_
  refine zv_iconst (v := 1) C dL_law_709 710 rfl (by decide) ?_
  refine zv_iadd (v := (nI (i + 1))) C dL_law_710 711 rfl (nI_1 i) ?_
  refine zv_sld C hA hX hsc dL_law_711 712 rfl (i + 1) rfl (by omega) hL (v := (nI p)) e1 ?_
  refine zv_aload_n C dL_law_712 713 rfl 3 rfl ?_
  refine zv_callW (rest := []) (wr := (cM cI cZ mh t (nI n) r y (nI b) m0 m1 m2 m3 m4 m5 m6 m7 m8 m9 m10 m11 m12 m13)) C (k_L_hasSpring_ok l D cI cZ cJ q h k b y n r f0 f1 f2 f3 f4 f5 f6 f7 f8 f9 f10 f11 f12 f13 n1 r1 g0 g1 g2 g3 g4 g5 g6 g7 g8 g9 g10 g11 g12 g13 bp bn o u p hI.n16 (by first | assumption | omega) (hI.z2 p)) (vx_cwSW 3 C.1.2.2.2.2 gL_law_L_hasSpring rfl rfl rfl (by decide +kernel) ⟨Nat.le_of_ble_eq_true rfl, Nat.le_of_ble_eq_true rfl⟩) dL_law_713 716 rfl rfl rfl (Nat.le_of_ble_eq_true rfl) ⟨(by show kc + 0 ≤ 601024; omega), (by show ns + 0 ≤ 7293034; omega)⟩ [0, 1, 2] rfl [0, 1, 2, 3, 4, 5, 6, 7, 8, 9, 10, 11, 12, 13, 14, 15, 16, 17, 18, 19, 20, 21, 22, 23, 24, 25, 26, 27, 28, 29, 30, 31, 32, 48] rfl (by decide) [33, 34, 35, 36, 37, 38, 39, 40, 41, 42, 43, 44, 45, 46, 47] rfl (by decide) (by decide +kernel) (fun v w hv => ?_)
  obtain ⟨uo_1, rfl, rfl, hu⟩ := hv
  refine zv_go rfl rfl (st' := [.int 0]) rfl (kc' := kc) rfl (ns' := ns) rfl ?_
  refine zv_perm [15, 16, 17, 18, 19, 20, 21, 22, 23, 24, 25, 26, 27, 28, 29, 30, 31, 32, 33, 34, 35, 36, 37, 38, 39, 40, 41, 42, 43, 44, 45, 46, 47, 0, 1, 2, 3, 4, 5, 6, 7, 8, 9, 10, 11, 12, 13, 14, 48] (ws' := ((cR cI cZ q h k (nI b) y (nI n) r f0 f1 f2 f3 f4 f5 f6 f7 f8 f9 f10 f11 f12 f13 (nI n1) r1 g0 g1 g2 g3 g4 g5 g6 g7 g8 g9 g10 g11 g12 g13 bp bn) ++ ((cM cI cZ mh t (nI n) r y (nI b) m0 m1 m2 m3 m4 m5 m6 m7 m8 m9 m10 m11 m12 m13) ++ [(o, .inl (cJ, 1, .inr (.inl uo_1)))]))) (by decide) rfl ?_
  refine zv_istore C dL_law_716 718 rfl [(5, .int 0), (0, .ref sc), (1, .ref (q 0)), (2, .ref (mh 0)), (3, .ref o), (4, .int (nI i))] (by decide) rfl ?_
  refine zv_aload_n C dL_law_718 719 rfl 3 rfl ?_
  refine zv_aload_n C dL_law_719 720 rfl 1 rfl ?_
  refine zv_iload C dL_law_720 722 rfl 5 rfl ?_
  refine zv_iconst (v := 1) C dL_law_722 723 rfl (by decide) ?_
  refine zv_iadd (v := (nI (i + 1))) C dL_law_723 724 rfl (nI_1 i) ?_
  refine zv_sld C hA hX hsc dL_law_724 725 rfl (i + 1) rfl (by omega) hL (v := (nI p)) e1 ?_
  refine zv_callV (rest := []) (wr := ((cR cI cZ q h k (nI b) y (nI n) r f0 f1 f2 f3 f4 f5 f6 f7 f8 f9 f10 f11 f12 f13 (nI n1) r1 g0 g1 g2 g3 g4 g5 g6 g7 g8 g9 g10 g11 g12 g13 bp bn) ++ [(o, .inl (cJ, 1, .inr (.inl uo_1)))])) C (k_X2_hasSpring_ok l D cI cZ mh t n r y b m0 m1 m2 m3 m4 m5 m6 m7 m8 m9 m10 m11 m12 m13 p hI.n16 (by first | assumption | omega) (hI.zm1 p)) (cwV 1 C.1.2.2.2.2 gL_law_X2_hasSpring rfl rfl rfl (by decide +kernel) ⟨Nat.le_of_ble_eq_true rfl, Nat.le_of_ble_eq_true rfl⟩) dL_law_725 728 rfl (ci := 2) 0 rfl rfl rfl rfl (Nat.le_of_ble_eq_true rfl) ⟨(by show kc + 0 ≤ 601024; omega), (by show ns + 0 ≤ 7293034; omega)⟩ [0, 1] rfl [33, 34, 35, 36, 37, 38, 39, 40, 41, 42, 43, 44, 45, 46, 47] rfl (by decide) [0, 1, 2, 3, 4, 5, 6, 7, 8, 9, 10, 11, 12, 13, 14, 15, 16, 17, 18, 19, 20, 21, 22, 23, 24, 25, 26, 27, 28, 29, 30, 31, 32, 48] rfl (by decide) (by decide +kernel) (fun v w hv => ?_)
  obtain ⟨rfl, rfl⟩ := hv
  refine zv_go rfl rfl (st' := [.int (m1 p)]) rfl (kc' := kc) rfl (ns' := ns) rfl ?_
  refine zv_perm [0, 1, 2, 3, 4, 5, 6, 7, 8, 9, 10, 11, 12, 13, 14, 15, 16, 17, 18, 19, 20, 21, 22, 23, 24, 25, 26, 27, 28, 29, 30, 31, 32, 34, 35, 36, 37, 38, 39, 40, 41, 42, 43, 44, 45, 46, 47, 48, 33] (ws' := ((cR cI cZ q h k (nI b) y (nI n) r f0 f1 f2 f3 f4 f5 f6 f7 f8 f9 f10 f11 f12 f13 (nI n1) r1 g0 g1 g2 g3 g4 g5 g6 g7 g8 g9 g10 g11 g12 g13 bp bn) ++ ((cM cI cZ mh 0 (nI n) r y (nI b) m0 m1 m2 m3 m4 m5 m6 m7 m8 m9 m10 m11 m12 m13) ++ [(o, .inl (cJ, 1, .inr (.inl uo_1)))]))) (by decide) rfl ?_
  refine zv_istore C dL_law_728 730 rfl [(6, .int (m1 p)), (5, .int 0), (0, .ref sc), (1, .ref (q 0)), (2, .ref (mh 0)), (3, .ref o), (4, .int (nI i))] (by decide) rfl ?_
  refine zv_aload_n C dL_law_730 731 rfl 4 rfl ?_
  refine zv_callVR (rest := []) C (k_X2_thrown l D cI cZ mh 0 n r y b m0 m1 m2 m3 m4 m5 m6 m7 m8 m9 m10 m11 m12 m13 ) (cwV 0 C.1.2.2.2.2 gL_law_X2_thrown rfl rfl rfl (by decide +kernel) ⟨Nat.le_of_ble_eq_true rfl, Nat.le_of_ble_eq_true rfl⟩) dL_law_731 734 rfl (ci := 2) 0 rfl rfl rfl rfl (Nat.le_of_ble_eq_true rfl) ⟨(by show kc + 0 ≤ 601024; omega), (by show ns + 0 ≤ 7293034; omega)⟩ [0, 1] rfl [33, 34, 35, 36, 37, 38, 39, 40, 41, 42, 43, 44, 45, 46, 47] rfl (by decide) (fun v hv => ?_)
  subst hv
  refine zv_go rfl rfl (st' := [.int 0]) rfl (kc' := kc) rfl (ns' := ns) rfl ?_
  refine zv_iload C dL_law_734 736 rfl 1 rfl ?_
  refine zv_icmp_eq C dL_law_736 739 741 rfl (by decide) (fun _ => ?_) (fun q => absurd (by decide) q)
  refine zv_iload C dL_law_741 743 rfl 1 rfl ?_
  refine zv_if_ne C dL_law_743 746 765 rfl (by decide) (fun q => absurd (by decide) q) (fun _ => ?_)
  refine zv_aload_n C dL_law_746 747 rfl 5 rfl ?_
  refine zv_iconst (v := 0) C dL_law_747 748 rfl (by decide) ?_
  refine zv_lald (v := (uo_1 0)) C dL_law_748 749 rfl 48 2 0 rfl rfl (by decide) (by decide) (by decide) rfl ?_
  refine zv_iload C dL_law_749 751 rfl 0 rfl ?_
  refine zv_if_eq C dL_law_751 754 758 rfl (by decide) (fun c1 => ?_) (fun c1 => ?_)
  · refine zv_lconst (v := 0) C dL_law_758 759 rfl rfl ?_
    refine zv_lcmpE C dL_law_759 760 rfl (hu.trans ((congrArg bitL (hI.E p hp).2.1.symm).trans (bitL_y c1))) ?_
    refine zv_if_eq C dL_law_760 763 765 rfl (by decide) (fun _ => ?_) (fun q => absurd (by decide) q)
    refine zv_goto C dL_law_765 1966 (by decide) ?_
    refine zv_widen (k' := kc + 17) (n' := ns + 168) (by omega) (by omega) ?_
    refine zv_sub [2, 3, 4, 5, 6] (lv' := [(0, .ref sc), (1, .ref (q 0)), (2, .ref (mh 0)), (3, .ref o), (4, .int (nI i))]) rfl ?_
    exact K n b y r 0 d f0 f1 f2 f3 f4 f5 f6 f7 f8 f9 f10 f11 f12 f13 n1 r1 g0 g1 g2 g3 g4 g5 g6 g7 g8 g9 g10 g11 g12 g13 bp bn uo_1 m0 m1 m2 m3 m4 m5 m6 m7 m8 m9 m10 m11 m12 m13 hI
  · refine zv_lconst (v := 1) C dL_law_754 755 rfl rfl ?_
    refine zv_goto C dL_law_755 759 (by decide) ?_
    refine zv_lcmpE C dL_law_759 760 rfl (hu.trans ((congrArg bitL (hI.E p hp).2.1.symm).trans (bitL_n c1))) ?_
    refine zv_if_eq C dL_law_760 763 765 rfl (by decide) (fun _ => ?_) (fun q => absurd (by decide) q)
    refine zv_goto C dL_law_765 1966 (by decide) ?_
    refine zv_widen (k' := kc + 17) (n' := ns + 168) (by omega) (by omega) ?_
    refine zv_sub [2, 3, 4, 5, 6] (lv' := [(0, .ref sc), (1, .ref (q 0)), (2, .ref (mh 0)), (3, .ref o), (4, .int (nI i))]) rfl ?_
    exact K n b y r 0 d f0 f1 f2 f3 f4 f5 f6 f7 f8 f9 f10 f11 f12 f13 n1 r1 g0 g1 g2 g3 g4 g5 g6 g7 g8 g9 g10 g11 g12 g13 bp bn uo_1 m0 m1 m2 m3 m4 m5 m6 m7 m8 m9 m10 m11 m12 m13 hI
set_option maxHeartbeats 4000000 in
set_option maxRecDepth 100000 in
theorem lc_springOf_no {pP : Program} {l : Launch} {eE : Env} {sS : State} {mM : MethodId} {aA : Array Value} {bB : List Frame} {mT : Method} {cD : Code} {Q : State → Prop} {D : va_G} {cI cZ cJ : ClassId} {A : Nat → Prop} {sc L : Nat} {xs : Nat → Int32} {q h k mh : Nat → Nat} {o i kc ns : Nat} {n b : Nat} {y r t : Int32} {d : Nat → Nat} {f0 f1 f2 f3 f4 f5 f6 f7 f8 f9 f10 f11 f12 f13 : Nat → Int32} {n1 : Nat} {r1 : Int32} {g0 g1 g2 g3 g4 g5 g6 g7 g8 g9 g10 g11 g12 g13 bp bn : Nat → Int32} {u : Nat → Int64} {m0 m1 m2 m3 m4 m5 m6 m7 m8 m9 m10 m11 m12 m13 : Nat → Int32} (hl : l.stackTraces = false) (C : zv_C pP mM cD cL_law 9 sS aA wsL_law "RiverNamesLaw" A) (hA : A = fun q => sS.heap.size ≤ q) (hE : zx_E sS) (hX : va_X sc L xs sS sS.heap) (hsc : sc < sS.heap.size) (hi : i + 4 ≤ L) (hL : L ≤ 2048) (hkc : kc + 17 ≤ 601024) (hns : ns + 168 ≤ 7293034) (hI : LI n b r d f0 f1 f2 f3 f4 f5 f6 f7 f8 f9 f10 f11 f12 f13 bp bn m0 m1 m2 m3 m4 m5 m6 m7) (K : LK pP l eE sS mM aA bB mT cD Q D cI cZ cJ A sc q h k mh o i kc ns) (hf : isP n (xs (i + 1)) = false) : zv_V pP l eE room_1 sS mM aA bB mT cD Q 9 D vwCl A A (tyJ cI cZ cJ) ((cR cI cZ q h k (nI b) y (nI n) r f0 f1 f2 f3 f4 f5 f6 f7 f8 f9 f10 f11 f12 f13 (nI n1) r1 g0 g1 g2 g3 g4 g5 g6 g7 g8 g9 g10 g11 g12 g13 bp bn) ++ ((cM cI cZ mh t (nI n) r y (nI b) m0 m1 m2 m3 m4 m5 m6 m7 m8 m9 m10 m11 m12 m13) ++ [(o, .inl (cJ, 1, .inr (.inl u)))])) kc ns 768 [(0, .ref sc), (1, .ref (q 0)), (2, .ref (mh 0)), (3, .ref o), (4, .int (nI i))] [] := by
  refine zv_aload_n C dL_law_768 769 rfl 1 rfl ?_
  refine zv_aload_n C dL_law_769 770 rfl 0 rfl ?_
  refine zv_iload C dL_law_770 772 rfl 4 rfl ?_
  refine zv_iconst (v := 1) C dL_law_772 773 rfl (by decide) ?_
  refine zv_iadd (v := (nI (i + 1))) C dL_law_773 774 rfl (nI_1 i) ?_
  refine zv_sld C hA hX hsc dL_law_774 775 rfl (i + 1) rfl (by omega) hL (v := (xs (i + 1))) rfl ?_
  refine zv_aload_n C dL_law_775 776 rfl 3 rfl ?_
  refine zv_callWE (rest := []) C hA hE (k_L_springOf_t l D cI cZ cJ q h k b y n r f0 f1 f2 f3 f4 f5 f6 f7 f8 f9 f10 f11 f12 f13 n1 r1 g0 g1 g2 g3 g4 g5 g6 g7 g8 g9 g10 g11 g12 g13 bp bn o u (xs (i + 1)) hI.n16 (by first | assumption | omega) hl) (vx_cwSW 3 C.1.2.2.2.2 gL_law_L_springOf rfl rfl rfl (by decide +kernel) ⟨Nat.le_of_ble_eq_true rfl, Nat.le_of_ble_eq_true rfl⟩) dL_law_776 779 rfl rfl rfl (Nat.le_of_ble_eq_true rfl) ⟨(by show kc + 1 ≤ 601024; omega), (by show ns + 6 ≤ 7293034; omega)⟩ [0, 1, 2] rfl [0, 1, 2, 3, 4, 5, 6, 7, 8, 9, 10, 11, 12, 13, 14, 15, 16, 17, 18, 19, 20, 21, 22, 23, 24, 25, 26, 27, 28, 29, 30, 31, 32, 48] rfl (by decide) (fun v hv => ?_)
  subst hv
  refine zv_go rfl rfl (st' := [.int 1]) rfl (kc' := kc + 1) rfl (ns' := ns + 6) rfl ?_
  refine zv_istore C dL_law_779 781 rfl [(5, .int 1), (0, .ref sc), (1, .ref (q 0)), (2, .ref (mh 0)), (3, .ref o), (4, .int (nI i))] (by decide) rfl ?_
  refine zv_aload_n C dL_law_781 782 rfl 3 rfl ?_
  refine zv_aload_n C dL_law_782 783 rfl 1 rfl ?_
  refine zv_iload C dL_law_783 785 rfl 5 rfl ?_
  refine zv_iconst (v := 1) C dL_law_785 786 rfl (by decide) ?_
  refine zv_iadd (v := (nI (i + 1))) C dL_law_786 787 rfl (nI_1 i) ?_
  refine zv_sld C hA hX hsc dL_law_787 788 rfl (i + 1) rfl (by omega) hL (v := (xs (i + 1))) rfl ?_
  refine zv_callV (rest := []) (wr := ((cR cI cZ q h k (nI b) y (nI n) r f0 f1 f2 f3 f4 f5 f6 f7 f8 f9 f10 f11 f12 f13 (nI n1) r1 g0 g1 g2 g3 g4 g5 g6 g7 g8 g9 g10 g11 g12 g13 bp bn) ++ [(o, .inl (cJ, 1, .inr (.inl u)))])) C (k_X2_springOf_no l D cI cZ mh t n r y b m0 m1 m2 m3 m4 m5 m6 m7 m8 m9 m10 m11 m12 m13 (xs (i + 1)) hI.n16 (by first | assumption | omega)) (cwV 1 C.1.2.2.2.2 gL_law_X2_springOf rfl rfl rfl (by decide +kernel) ⟨Nat.le_of_ble_eq_true rfl, Nat.le_of_ble_eq_true rfl⟩) dL_law_788 791 rfl (ci := 2) 0 rfl rfl rfl rfl (Nat.le_of_ble_eq_true rfl) ⟨(by show kc + 1 + 0 ≤ 601024; omega), (by show ns + 6 + 0 ≤ 7293034; omega)⟩ [0, 1] rfl [33, 34, 35, 36, 37, 38, 39, 40, 41, 42, 43, 44, 45, 46, 47] rfl (by decide) [0, 1, 2, 3, 4, 5, 6, 7, 8, 9, 10, 11, 12, 13, 14, 15, 16, 17, 18, 19, 20, 21, 22, 23, 24, 25, 26, 27, 28, 29, 30, 31, 32, 48] rfl (by decide) (by decide +kernel) (fun v w hv => ?_)
  obtain ⟨rfl, rfl⟩ := hv
  refine zv_go rfl rfl (st' := [.int 0]) rfl (kc' := kc + 1) rfl (ns' := ns + 6) rfl ?_
  refine zv_perm [0, 1, 2, 3, 4, 5, 6, 7, 8, 9, 10, 11, 12, 13, 14, 15, 16, 17, 18, 19, 20, 21, 22, 23, 24, 25, 26, 27, 28, 29, 30, 31, 32, 34, 35, 36, 37, 38, 39, 40, 41, 42, 43, 44, 45, 46, 47, 48, 33] (ws' := ((cR cI cZ q h k (nI b) y (nI n) r f0 f1 f2 f3 f4 f5 f6 f7 f8 f9 f10 f11 f12 f13 (nI n1) r1 g0 g1 g2 g3 g4 g5 g6 g7 g8 g9 g10 g11 g12 g13 bp bn) ++ ((cM cI cZ mh 1 (nI n) r y (nI b) m0 m1 m2 m3 m4 m5 m6 m7 m8 m9 m10 m11 m12 m13) ++ [(o, .inl (cJ, 1, .inr (.inl u)))]))) (by decide) rfl ?_
  refine zv_istore C dL_law_791 793 rfl [(6, .int 0), (5, .int 1), (0, .ref sc), (1, .ref (q 0)), (2, .ref (mh 0)), (3, .ref o), (4, .int (nI i))] (by decide) rfl ?_
  refine zv_aload_n C dL_law_793 794 rfl 4 rfl ?_
  refine zv_callVR (rest := []) C (k_X2_thrown l D cI cZ mh 1 n r y b m0 m1 m2 m3 m4 m5 m6 m7 m8 m9 m10 m11 m12 m13 ) (cwV 0 C.1.2.2.2.2 gL_law_X2_thrown rfl rfl rfl (by decide +kernel) ⟨Nat.le_of_ble_eq_true rfl, Nat.le_of_ble_eq_true rfl⟩) dL_law_794 797 rfl (ci := 2) 0 rfl rfl rfl rfl (Nat.le_of_ble_eq_true rfl) ⟨(by show kc + 1 + 0 ≤ 601024; omega), (by show ns + 6 + 0 ≤ 7293034; omega)⟩ [0, 1] rfl [33, 34, 35, 36, 37, 38, 39, 40, 41, 42, 43, 44, 45, 46, 47] rfl (by decide) (fun v hv => ?_)
  subst hv
  refine zv_go rfl rfl (st' := [.int 1]) rfl (kc' := kc + 1) rfl (ns' := ns + 6) rfl ?_
  refine zv_iload C dL_law_797 799 rfl 1 rfl ?_
  refine zv_icmp_eq C dL_law_799 802 804 rfl (by decide) (fun _ => ?_) (fun q => absurd (by decide) q)
  refine zv_iload C dL_law_804 806 rfl 1 rfl ?_
  refine zv_if_ne C dL_law_806 809 821 rfl (by decide) (fun _ => ?_) (fun q => absurd q (by decide))
  refine zv_goto C dL_law_821 1966 (by decide) ?_
  refine zv_widen (k' := kc + 17) (n' := ns + 168) (by omega) (by omega) ?_
  refine zv_sub [2, 3, 4, 5, 6] (lv' := [(0, .ref sc), (1, .ref (q 0)), (2, .ref (mh 0)), (3, .ref o), (4, .int (nI i))]) rfl ?_
  exact K n b y r 1 d f0 f1 f2 f3 f4 f5 f6 f7 f8 f9 f10 f11 f12 f13 n1 r1 g0 g1 g2 g3 g4 g5 g6 g7 g8 g9 g10 g11 g12 g13 bp bn u m0 m1 m2 m3 m4 m5 m6 m7 m8 m9 m10 m11 m12 m13 hI
set_option maxHeartbeats 4000000 in
set_option maxRecDepth 100000 in
theorem lc_springOf_ok {pP : Program} {l : Launch} {eE : Env} {sS : State} {mM : MethodId} {aA : Array Value} {bB : List Frame} {mT : Method} {cD : Code} {Q : State → Prop} {D : va_G} {cI cZ cJ : ClassId} {A : Nat → Prop} {sc L : Nat} {xs : Nat → Int32} {q h k mh : Nat → Nat} {o i kc ns : Nat} {n b : Nat} {y r t : Int32} {d : Nat → Nat} {f0 f1 f2 f3 f4 f5 f6 f7 f8 f9 f10 f11 f12 f13 : Nat → Int32} {n1 : Nat} {r1 : Int32} {g0 g1 g2 g3 g4 g5 g6 g7 g8 g9 g10 g11 g12 g13 bp bn : Nat → Int32} {u : Nat → Int64} {m0 m1 m2 m3 m4 m5 m6 m7 m8 m9 m10 m11 m12 m13 : Nat → Int32} (hl : l.stackTraces = false) (C : zv_C pP mM cD cL_law 9 sS aA wsL_law "RiverNamesLaw" A) (hA : A = fun q => sS.heap.size ≤ q) (hE : zx_E sS) (hX : va_X sc L xs sS sS.heap) (hsc : sc < sS.heap.size) (hi : i + 4 ≤ L) (hL : L ≤ 2048) (hkc : kc + 17 ≤ 601024) (hns : ns + 168 ≤ 7293034) (hI : LI n b r d f0 f1 f2 f3 f4 f5 f6 f7 f8 f9 f10 f11 f12 f13 bp bn m0 m1 m2 m3 m4 m5 m6 m7) (K : LK pP l eE sS mM aA bB mT cD Q D cI cZ cJ A sc q h k mh o i kc ns) (p : Nat) (hp : p < n) (e1 : xs (i + 1) = nI p) : zv_V pP l eE room_1 sS mM aA bB mT cD Q 9 D vwCl A A (tyJ cI cZ cJ) ((cR cI cZ q h k (nI b) y (nI n) r f0 f1 f2 f3 f4 f5 f6 f7 f8 f9 f10 f11 f12 f13 (nI n1) r1 g0 g1 g2 g3 g4 g5 g6 g7 g8 g9 g10 g11 g12 g13 bp bn) ++ ((cM cI cZ mh t (nI n) r y (nI b) m0 m1 m2 m3 m4 m5 m6 m7 m8 m9 m10 m11 m12 m13) ++ [(o, .inl (cJ, 1, .inr (.inl u)))])) kc ns 768 [(0, .ref sc), (1, .ref (q 0)), (2, .ref (mh 0)), (3, .ref o), (4, .int (nI i))] [] := by
  refine zv_aload_n C dL_law_768 769 rfl 1 rfl ?_
  refine zv_aload_n C dL_law_769 770 rfl 0 rfl ?_
  refine zv_iload C dL_law_770 772 rfl 4 rfl ?_
  refine zv_iconst (v := 1) C dL_law_772 773 rfl (by decide) ?_
  refine zv_iadd (v := (nI (i + 1))) C dL_law_773 774 rfl (nI_1 i) ?_
  refine zv_sld C hA hX hsc dL_law_774 775 rfl (i + 1) rfl (by omega) hL (v := (nI p)) e1 ?_
  refine zv_aload_n C dL_law_775 776 rfl 3 rfl ?_
  refine zv_callW (rest := []) (wr := (cM cI cZ mh t (nI n) r y (nI b) m0 m1 m2 m3 m4 m5 m6 m7 m8 m9 m10 m11 m12 m13)) C (k_L_springOf_ok l D cI cZ cJ q h k b y n r f0 f1 f2 f3 f4 f5 f6 f7 f8 f9 f10 f11 f12 f13 n1 r1 g0 g1 g2 g3 g4 g5 g6 g7 g8 g9 g10 g11 g12 g13 bp bn o u p hI.n16 (by first | assumption | omega)) (vx_cwSW 3 C.1.2.2.2.2 gL_law_L_springOf rfl rfl rfl (by decide +kernel) ⟨Nat.le_of_ble_eq_true rfl, Nat.le_of_ble_eq_true rfl⟩) dL_law_776 779 rfl rfl rfl (Nat.le_of_ble_eq_true rfl) ⟨(by show kc + 0 ≤ 601024; omega), (by show ns + 0 ≤ 7293034; omega)⟩ [0, 1, 2] rfl [0, 1, 2, 3, 4, 5, 6, 7, 8, 9, 10, 11, 12, 13, 14, 15, 16, 17, 18, 19, 20, 21, 22, 23, 24, 25, 26, 27, 28, 29, 30, 31, 32, 48] rfl (by decide) [33, 34, 35, 36, 37, 38, 39, 40, 41, 42, 43, 44, 45, 46, 47] rfl (by decide) (by decide +kernel) (fun v w hv => ?_)
  obtain ⟨uo_1, rfl, rfl, hu⟩ := hv
  refine zv_go rfl rfl (st' := [.int 0]) rfl (kc' := kc) rfl (ns' := ns) rfl ?_
  refine zv_perm [15, 16, 17, 18, 19, 20, 21, 22, 23, 24, 25, 26, 27, 28, 29, 30, 31, 32, 33, 34, 35, 36, 37, 38, 39, 40, 41, 42, 43, 44, 45, 46, 47, 0, 1, 2, 3, 4, 5, 6, 7, 8, 9, 10, 11, 12, 13, 14, 48] (ws' := ((cR cI cZ q h k (nI b) y (nI n) r f0 f1 f2 f3 f4 f5 f6 f7 f8 f9 f10 f11 f12 f13 (nI n1) r1 g0 g1 g2 g3 g4 g5 g6 g7 g8 g9 g10 g11 g12 g13 bp bn) ++ ((cM cI cZ mh t (nI n) r y (nI b) m0 m1 m2 m3 m4 m5 m6 m7 m8 m9 m10 m11 m12 m13) ++ [(o, .inl (cJ, 1, .inr (.inl uo_1)))]))) (by decide) rfl ?_
  refine zv_istore C dL_law_779 781 rfl [(5, .int 0), (0, .ref sc), (1, .ref (q 0)), (2, .ref (mh 0)), (3, .ref o), (4, .int (nI i))] (by decide) rfl ?_
  refine zv_aload_n C dL_law_781 782 rfl 3 rfl ?_
  refine zv_aload_n C dL_law_782 783 rfl 1 rfl ?_
  refine zv_iload C dL_law_783 785 rfl 5 rfl ?_
  refine zv_iconst (v := 1) C dL_law_785 786 rfl (by decide) ?_
  refine zv_iadd (v := (nI (i + 1))) C dL_law_786 787 rfl (nI_1 i) ?_
  refine zv_sld C hA hX hsc dL_law_787 788 rfl (i + 1) rfl (by omega) hL (v := (nI p)) e1 ?_
  refine zv_callV (rest := []) (wr := ((cR cI cZ q h k (nI b) y (nI n) r f0 f1 f2 f3 f4 f5 f6 f7 f8 f9 f10 f11 f12 f13 (nI n1) r1 g0 g1 g2 g3 g4 g5 g6 g7 g8 g9 g10 g11 g12 g13 bp bn) ++ [(o, .inl (cJ, 1, .inr (.inl uo_1)))])) C (k_X2_springOf_ok l D cI cZ mh t n r y b m0 m1 m2 m3 m4 m5 m6 m7 m8 m9 m10 m11 m12 m13 p hI.n16 (by first | assumption | omega)) (cwV 1 C.1.2.2.2.2 gL_law_X2_springOf rfl rfl rfl (by decide +kernel) ⟨Nat.le_of_ble_eq_true rfl, Nat.le_of_ble_eq_true rfl⟩) dL_law_788 791 rfl (ci := 2) 0 rfl rfl rfl rfl (Nat.le_of_ble_eq_true rfl) ⟨(by show kc + 0 ≤ 601024; omega), (by show ns + 0 ≤ 7293034; omega)⟩ [0, 1] rfl [33, 34, 35, 36, 37, 38, 39, 40, 41, 42, 43, 44, 45, 46, 47] rfl (by decide) [0, 1, 2, 3, 4, 5, 6, 7, 8, 9, 10, 11, 12, 13, 14, 15, 16, 17, 18, 19, 20, 21, 22, 23, 24, 25, 26, 27, 28, 29, 30, 31, 32, 48] rfl (by decide) (by decide +kernel) (fun v w hv => ?_)
  obtain ⟨rfl, rfl⟩ := hv
  refine zv_go rfl rfl (st' := [.int (m3 p)]) rfl (kc' := kc) rfl (ns' := ns) rfl ?_
  refine zv_perm [0, 1, 2, 3, 4, 5, 6, 7, 8, 9, 10, 11, 12, 13, 14, 15, 16, 17, 18, 19, 20, 21, 22, 23, 24, 25, 26, 27, 28, 29, 30, 31, 32, 34, 35, 36, 37, 38, 39, 40, 41, 42, 43, 44, 45, 46, 47, 48, 33] (ws' := ((cR cI cZ q h k (nI b) y (nI n) r f0 f1 f2 f3 f4 f5 f6 f7 f8 f9 f10 f11 f12 f13 (nI n1) r1 g0 g1 g2 g3 g4 g5 g6 g7 g8 g9 g10 g11 g12 g13 bp bn) ++ ((cM cI cZ mh 0 (nI n) r y (nI b) m0 m1 m2 m3 m4 m5 m6 m7 m8 m9 m10 m11 m12 m13) ++ [(o, .inl (cJ, 1, .inr (.inl uo_1)))]))) (by decide) rfl ?_
  refine zv_istore C dL_law_791 793 rfl [(6, .int (m3 p)), (5, .int 0), (0, .ref sc), (1, .ref (q 0)), (2, .ref (mh 0)), (3, .ref o), (4, .int (nI i))] (by decide) rfl ?_
  refine zv_aload_n C dL_law_793 794 rfl 4 rfl ?_
  refine zv_callVR (rest := []) C (k_X2_thrown l D cI cZ mh 0 n r y b m0 m1 m2 m3 m4 m5 m6 m7 m8 m9 m10 m11 m12 m13 ) (cwV 0 C.1.2.2.2.2 gL_law_X2_thrown rfl rfl rfl (by decide +kernel) ⟨Nat.le_of_ble_eq_true rfl, Nat.le_of_ble_eq_true rfl⟩) dL_law_794 797 rfl (ci := 2) 0 rfl rfl rfl rfl (Nat.le_of_ble_eq_true rfl) ⟨(by show kc + 0 ≤ 601024; omega), (by show ns + 0 ≤ 7293034; omega)⟩ [0, 1] rfl [33, 34, 35, 36, 37, 38, 39, 40, 41, 42, 43, 44, 45, 46, 47] rfl (by decide) (fun v hv => ?_)
  subst hv
  refine zv_go rfl rfl (st' := [.int 0]) rfl (kc' := kc) rfl (ns' := ns) rfl ?_
  refine zv_iload C dL_law_797 799 rfl 1 rfl ?_
  refine zv_icmp_eq C dL_law_799 802 804 rfl (by decide) (fun _ => ?_) (fun q => absurd (by decide) q)
  refine zv_iload C dL_law_804 806 rfl 1 rfl ?_
  refine zv_if_ne C dL_law_806 809 821 rfl (by decide) (fun q => absurd (by decide) q) (fun _ => ?_)
  refine zv_aload_n C dL_law_809 810 rfl 5 rfl ?_
  refine zv_iconst (v := 0) C dL_law_810 811 rfl (by decide) ?_
  refine zv_lald (v := (uo_1 0)) C dL_law_811 812 rfl 48 2 0 rfl rfl (by decide) (by decide) (by decide) rfl ?_
  refine zv_iload C dL_law_812 814 rfl 0 rfl ?_
  refine zv_i2l C dL_law_814 815 rfl ?_
  refine zv_lcmpE C dL_law_815 816 rfl (hu.trans (congrArg Int32.toInt64 (hI.E p hp).2.2.1.symm)) ?_
  refine zv_if_eq C dL_law_816 819 821 rfl (by decide) (fun _ => ?_) (fun q => absurd (by decide) q)
  refine zv_goto C dL_law_821 1966 (by decide) ?_
  refine zv_widen (k' := kc + 17) (n' := ns + 168) (by omega) (by omega) ?_
  refine zv_sub [2, 3, 4, 5, 6] (lv' := [(0, .ref sc), (1, .ref (q 0)), (2, .ref (mh 0)), (3, .ref o), (4, .int (nI i))]) rfl ?_
  exact K n b y r 0 d f0 f1 f2 f3 f4 f5 f6 f7 f8 f9 f10 f11 f12 f13 n1 r1 g0 g1 g2 g3 g4 g5 g6 g7 g8 g9 g10 g11 g12 g13 bp bn uo_1 m0 m1 m2 m3 m4 m5 m6 m7 m8 m9 m10 m11 m12 m13 hI
set_option maxHeartbeats 4000000 in
set_option maxRecDepth 100000 in
theorem lc_waterAt_no {pP : Program} {l : Launch} {eE : Env} {sS : State} {mM : MethodId} {aA : Array Value} {bB : List Frame} {mT : Method} {cD : Code} {Q : State → Prop} {D : va_G} {cI cZ cJ : ClassId} {A : Nat → Prop} {sc L : Nat} {xs : Nat → Int32} {q h k mh : Nat → Nat} {o i kc ns : Nat} {n b : Nat} {y r t : Int32} {d : Nat → Nat} {f0 f1 f2 f3 f4 f5 f6 f7 f8 f9 f10 f11 f12 f13 : Nat → Int32} {n1 : Nat} {r1 : Int32} {g0 g1 g2 g3 g4 g5 g6 g7 g8 g9 g10 g11 g12 g13 bp bn : Nat → Int32} {u : Nat → Int64} {m0 m1 m2 m3 m4 m5 m6 m7 m8 m9 m10 m11 m12 m13 : Nat → Int32} (hl : l.stackTraces = false) (C : zv_C pP mM cD cL_law 9 sS aA wsL_law "RiverNamesLaw" A) (hA : A = fun q => sS.heap.size ≤ q) (hE : zx_E sS) (hX : va_X sc L xs sS sS.heap) (hsc : sc < sS.heap.size) (hi : i + 4 ≤ L) (hL : L ≤ 2048) (hkc : kc + 17 ≤ 601024) (hns : ns + 168 ≤ 7293034) (hI : LI n b r d f0 f1 f2 f3 f4 f5 f6 f7 f8 f9 f10 f11 f12 f13 bp bn m0 m1 m2 m3 m4 m5 m6 m7) (K : LK pP l eE sS mM aA bB mT cD Q D cI cZ cJ A sc q h k mh o i kc ns) (hf : isP n (xs (i + 1)) = false) : zv_V pP l eE room_1 sS mM aA bB mT cD Q 9 D vwCl A A (tyJ cI cZ cJ) ((cR cI cZ q h k (nI b) y (nI n) r f0 f1 f2 f3 f4 f5 f6 f7 f8 f9 f10 f11 f12 f13 (nI n1) r1 g0 g1 g2 g3 g4 g5 g6 g7 g8 g9 g10 g11 g12 g13 bp bn) ++ ((cM cI cZ mh t (nI n) r y (nI b) m0 m1 m2 m3 m4 m5 m6 m7 m8 m9 m10 m11 m12 m13) ++ [(o, .inl (cJ, 1, .inr (.inl u)))])) kc ns 824 [(0, .ref sc), (1, .ref (q 0)), (2, .ref (mh 0)), (3, .ref o), (4, .int (nI i))] [] := by
  refine zv_aload_n C dL_law_824 825 rfl 1 rfl ?_
  refine zv_aload_n C dL_law_825 826 rfl 0 rfl ?_
  refine zv_iload C dL_law_826 828 rfl 4 rfl ?_
  refine zv_iconst (v := 1) C dL_law_828 829 rfl (by decide) ?_
  refine zv_iadd (v := (nI (i + 1))) C dL_law_829 830 rfl (nI_1 i) ?_
  refine zv_sld C hA hX hsc dL_law_830 831 rfl (i + 1) rfl (by omega) hL (v := (xs (i + 1))) rfl ?_
  refine zv_aload_n C dL_law_831 832 rfl 3 rfl ?_
  refine zv_callWE (rest := []) C hA hE (k_L_waterAt_t l D cI cZ cJ q h k b y n r f0 f1 f2 f3 f4 f5 f6 f7 f8 f9 f10 f11 f12 f13 n1 r1 g0 g1 g2 g3 g4 g5 g6 g7 g8 g9 g10 g11 g12 g13 bp bn o u (xs (i + 1)) hI.n16 (by first | assumption | omega) hl) (vx_cwSW 3 C.1.2.2.2.2 gL_law_L_waterAt rfl rfl rfl (by decide +kernel) ⟨Nat.le_of_ble_eq_true rfl, Nat.le_of_ble_eq_true rfl⟩) dL_law_832 835 rfl rfl rfl (Nat.le_of_ble_eq_true rfl) ⟨(by show kc + 1 ≤ 601024; omega), (by show ns + 6 ≤ 7293034; omega)⟩ [0, 1, 2] rfl [0, 1, 2, 3, 4, 5, 6, 7, 8, 9, 10, 11, 12, 13, 14, 15, 16, 17, 18, 19, 20, 21, 22, 23, 24, 25, 26, 27, 28, 29, 30, 31, 32, 48] rfl (by decide) (fun v hv => ?_)
  subst hv
  refine zv_go rfl rfl (st' := [.int 1]) rfl (kc' := kc + 1) rfl (ns' := ns + 6) rfl ?_
  refine zv_istore C dL_law_835 837 rfl [(5, .int 1), (0, .ref sc), (1, .ref (q 0)), (2, .ref (mh 0)), (3, .ref o), (4, .int (nI i))] (by decide) rfl ?_
  refine zv_aload_n C dL_law_837 838 rfl 3 rfl ?_
  refine zv_aload_n C dL_law_838 839 rfl 1 rfl ?_
  refine zv_iload C dL_law_839 841 rfl 5 rfl ?_
  refine zv_iconst (v := 1) C dL_law_841 842 rfl (by decide) ?_
  refine zv_iadd (v := (nI (i + 1))) C dL_law_842 843 rfl (nI_1 i) ?_
  refine zv_sld C hA hX hsc dL_law_843 844 rfl (i + 1) rfl (by omega) hL (v := (xs (i + 1))) rfl ?_
  refine zv_callV (rest := []) (wr := ((cR cI cZ q h k (nI b) y (nI n) r f0 f1 f2 f3 f4 f5 f6 f7 f8 f9 f10 f11 f12 f13 (nI n1) r1 g0 g1 g2 g3 g4 g5 g6 g7 g8 g9 g10 g11 g12 g13 bp bn) ++ [(o, .inl (cJ, 1, .inr (.inl u)))])) C (k_X2_waterAt_no l D cI cZ mh t n r y b m0 m1 m2 m3 m4 m5 m6 m7 m8 m9 m10 m11 m12 m13 (xs (i + 1)) hI.n16 (by first | assumption | omega)) (cwV 1 C.1.2.2.2.2 gL_law_X2_waterAt rfl rfl rfl (by decide +kernel) ⟨Nat.le_of_ble_eq_true rfl, Nat.le_of_ble_eq_true rfl⟩) dL_law_844 847 rfl (ci := 2) 0 rfl rfl rfl rfl (Nat.le_of_ble_eq_true rfl) ⟨(by show kc + 1 + 0 ≤ 601024; omega), (by show ns + 6 + 0 ≤ 7293034; omega)⟩ [0, 1] rfl [33, 34, 35, 36, 37, 38, 39, 40, 41, 42, 43, 44, 45, 46, 47] rfl (by decide) [0, 1, 2, 3, 4, 5, 6, 7, 8, 9, 10, 11, 12, 13, 14, 15, 16, 17, 18, 19, 20, 21, 22, 23, 24, 25, 26, 27, 28, 29, 30, 31, 32, 48] rfl (by decide) (by decide +kernel) (fun v w hv => ?_)
  obtain ⟨rfl, rfl⟩ := hv
  refine zv_go rfl rfl (st' := [.int 0]) rfl (kc' := kc + 1) rfl (ns' := ns + 6) rfl ?_
  refine zv_perm [0, 1, 2, 3, 4, 5, 6, 7, 8, 9, 10, 11, 12, 13, 14, 15, 16, 17, 18, 19, 20, 21, 22, 23, 24, 25, 26, 27, 28, 29, 30, 31, 32, 34, 35, 36, 37, 38, 39, 40, 41, 42, 43, 44, 45, 46, 47, 48, 33] (ws' := ((cR cI cZ q h k (nI b) y (nI n) r f0 f1 f2 f3 f4 f5 f6 f7 f8 f9 f10 f11 f12 f13 (nI n1) r1 g0 g1 g2 g3 g4 g5 g6 g7 g8 g9 g10 g11 g12 g13 bp bn) ++ ((cM cI cZ mh 1 (nI n) r y (nI b) m0 m1 m2 m3 m4 m5 m6 m7 m8 m9 m10 m11 m12 m13) ++ [(o, .inl (cJ, 1, .inr (.inl u)))]))) (by decide) rfl ?_
  refine zv_istore C dL_law_847 849 rfl [(6, .int 0), (5, .int 1), (0, .ref sc), (1, .ref (q 0)), (2, .ref (mh 0)), (3, .ref o), (4, .int (nI i))] (by decide) rfl ?_
  refine zv_aload_n C dL_law_849 850 rfl 4 rfl ?_
  refine zv_callVR (rest := []) C (k_X2_thrown l D cI cZ mh 1 n r y b m0 m1 m2 m3 m4 m5 m6 m7 m8 m9 m10 m11 m12 m13 ) (cwV 0 C.1.2.2.2.2 gL_law_X2_thrown rfl rfl rfl (by decide +kernel) ⟨Nat.le_of_ble_eq_true rfl, Nat.le_of_ble_eq_true rfl⟩) dL_law_850 853 rfl (ci := 2) 0 rfl rfl rfl rfl (Nat.le_of_ble_eq_true rfl) ⟨(by show kc + 1 + 0 ≤ 601024; omega), (by show ns + 6 + 0 ≤ 7293034; omega)⟩ [0, 1] rfl [33, 34, 35, 36, 37, 38, 39, 40, 41, 42, 43, 44, 45, 46, 47] rfl (by decide) (fun v hv => ?_)
  subst hv
  refine zv_go rfl rfl (st' := [.int 1]) rfl (kc' := kc + 1) rfl (ns' := ns + 6) rfl ?_
  refine zv_iload C dL_law_853 855 rfl 1 rfl ?_
  refine zv_icmp_eq C dL_law_855 858 860 rfl (by decide) (fun _ => ?_) (fun q => absurd (by decide) q)
  refine zv_iload C dL_law_860 862 rfl 1 rfl ?_
  refine zv_if_ne C dL_law_862 865 877 rfl (by decide) (fun _ => ?_) (fun q => absurd q (by decide))
  refine zv_goto C dL_law_877 1966 (by decide) ?_
  refine zv_widen (k' := kc + 17) (n' := ns + 168) (by omega) (by omega) ?_
  refine zv_sub [2, 3, 4, 5, 6] (lv' := [(0, .ref sc), (1, .ref (q 0)), (2, .ref (mh 0)), (3, .ref o), (4, .int (nI i))]) rfl ?_
  exact K n b y r 1 d f0 f1 f2 f3 f4 f5 f6 f7 f8 f9 f10 f11 f12 f13 n1 r1 g0 g1 g2 g3 g4 g5 g6 g7 g8 g9 g10 g11 g12 g13 bp bn u m0 m1 m2 m3 m4 m5 m6 m7 m8 m9 m10 m11 m12 m13 hI
set_option maxHeartbeats 4000000 in
set_option maxRecDepth 100000 in
theorem lc_waterAt_ok {pP : Program} {l : Launch} {eE : Env} {sS : State} {mM : MethodId} {aA : Array Value} {bB : List Frame} {mT : Method} {cD : Code} {Q : State → Prop} {D : va_G} {cI cZ cJ : ClassId} {A : Nat → Prop} {sc L : Nat} {xs : Nat → Int32} {q h k mh : Nat → Nat} {o i kc ns : Nat} {n b : Nat} {y r t : Int32} {d : Nat → Nat} {f0 f1 f2 f3 f4 f5 f6 f7 f8 f9 f10 f11 f12 f13 : Nat → Int32} {n1 : Nat} {r1 : Int32} {g0 g1 g2 g3 g4 g5 g6 g7 g8 g9 g10 g11 g12 g13 bp bn : Nat → Int32} {u : Nat → Int64} {m0 m1 m2 m3 m4 m5 m6 m7 m8 m9 m10 m11 m12 m13 : Nat → Int32} (hl : l.stackTraces = false) (C : zv_C pP mM cD cL_law 9 sS aA wsL_law "RiverNamesLaw" A) (hA : A = fun q => sS.heap.size ≤ q) (hE : zx_E sS) (hX : va_X sc L xs sS sS.heap) (hsc : sc < sS.heap.size) (hi : i + 4 ≤ L) (hL : L ≤ 2048) (hkc : kc + 17 ≤ 601024) (hns : ns + 168 ≤ 7293034) (hI : LI n b r d f0 f1 f2 f3 f4 f5 f6 f7 f8 f9 f10 f11 f12 f13 bp bn m0 m1 m2 m3 m4 m5 m6 m7) (K : LK pP l eE sS mM aA bB mT cD Q D cI cZ cJ A sc q h k mh o i kc ns) (p : Nat) (hp : p < n) (e1 : xs (i + 1) = nI p) : zv_V pP l eE room_1 sS mM aA bB mT cD Q 9 D vwCl A A (tyJ cI cZ cJ) ((cR cI cZ q h k (nI b) y (nI n) r f0 f1 f2 f3 f4 f5 f6 f7 f8 f9 f10 f11 f12 f13 (nI n1) r1 g0 g1 g2 g3 g4 g5 g6 g7 g8 g9 g10 g11 g12 g13 bp bn) ++ ((cM cI cZ mh t (nI n) r y (nI b) m0 m1 m2 m3 m4 m5 m6 m7 m8 m9 m10 m11 m12 m13) ++ [(o, .inl (cJ, 1, .inr (.inl u)))])) kc ns 824 [(0, .ref sc), (1, .ref (q 0)), (2, .ref (mh 0)), (3, .ref o), (4, .int (nI i))] [] := by
  refine zv_aload_n C dL_law_824 825 rfl 1 rfl ?_
  refine zv_aload_n C dL_law_825 826 rfl 0 rfl ?_
  refine zv_iload C dL_law_826 828 rfl 4 rfl ?_
  refine zv_iconst (v := 1) C dL_law_828 829 rfl (by decide) ?_
  refine zv_iadd (v := (nI (i + 1))) C dL_law_829 830 rfl (nI_1 i) ?_
  refine zv_sld C hA hX hsc dL_law_830 831 rfl (i + 1) rfl (by omega) hL (v := (nI p)) e1 ?_
  refine zv_aload_n C dL_law_831 832 rfl 3 rfl ?_
  refine zv_callW (rest := []) (wr := (cM cI cZ mh t (nI n) r y (nI b) m0 m1 m2 m3 m4 m5 m6 m7 m8 m9 m10 m11 m12 m13)) C (k_L_waterAt_ok l D cI cZ cJ q h k b y n r f0 f1 f2 f3 f4 f5 f6 f7 f8 f9 f10 f11 f12 f13 n1 r1 g0 g1 g2 g3 g4 g5 g6 g7 g8 g9 g10 g11 g12 g13 bp bn o u p hI.n16 (by first | assumption | omega)) (vx_cwSW 3 C.1.2.2.2.2 gL_law_L_waterAt rfl rfl rfl (by decide +kernel) ⟨Nat.le_of_ble_eq_true rfl, Nat.le_of_ble_eq_true rfl⟩) dL_law_832 835 rfl rfl rfl (Nat.le_of_ble_eq_true rfl) ⟨(by show kc + 0 ≤ 601024; omega), (by show ns + 0 ≤ 7293034; omega)⟩ [0, 1, 2] rfl [0, 1, 2, 3, 4, 5, 6, 7, 8, 9, 10, 11, 12, 13, 14, 15, 16, 17, 18, 19, 20, 21, 22, 23, 24, 25, 26, 27, 28, 29, 30, 31, 32, 48] rfl (by decide) [33, 34, 35, 36, 37, 38, 39, 40, 41, 42, 43, 44, 45, 46, 47] rfl (by decide) (by decide +kernel) (fun v w hv => ?_)
  obtain ⟨uo_1, rfl, rfl, hu⟩ := hv
  refine zv_go rfl rfl (st' := [.int 0]) rfl (kc' := kc) rfl (ns' := ns) rfl ?_
  refine zv_perm [15, 16, 17, 18, 19, 20, 21, 22, 23, 24, 25, 26, 27, 28, 29, 30, 31, 32, 33, 34, 35, 36, 37, 38, 39, 40, 41, 42, 43, 44, 45, 46, 47, 0, 1, 2, 3, 4, 5, 6, 7, 8, 9, 10, 11, 12, 13, 14, 48] (ws' := ((cR cI cZ q h k (nI b) y (nI n) r f0 f1 f2 f3 f4 f5 f6 f7 f8 f9 f10 f11 f12 f13 (nI n1) r1 g0 g1 g2 g3 g4 g5 g6 g7 g8 g9 g10 g11 g12 g13 bp bn) ++ ((cM cI cZ mh t (nI n) r y (nI b) m0 m1 m2 m3 m4 m5 m6 m7 m8 m9 m10 m11 m12 m13) ++ [(o, .inl (cJ, 1, .inr (.inl uo_1)))]))) (by decide) rfl ?_
  refine zv_istore C dL_law_835 837 rfl [(5, .int 0), (0, .ref sc), (1, .ref (q 0)), (2, .ref (mh 0)), (3, .ref o), (4, .int (nI i))] (by decide) rfl ?_
  refine zv_aload_n C dL_law_837 838 rfl 3 rfl ?_
  refine zv_aload_n C dL_law_838 839 rfl 1 rfl ?_
  refine zv_iload C dL_law_839 841 rfl 5 rfl ?_
  refine zv_iconst (v := 1) C dL_law_841 842 rfl (by decide) ?_
  refine zv_iadd (v := (nI (i + 1))) C dL_law_842 843 rfl (nI_1 i) ?_
  refine zv_sld C hA hX hsc dL_law_843 844 rfl (i + 1) rfl (by omega) hL (v := (nI p)) e1 ?_
  refine zv_callV (rest := []) (wr := ((cR cI cZ q h k (nI b) y (nI n) r f0 f1 f2 f3 f4 f5 f6 f7 f8 f9 f10 f11 f12 f13 (nI n1) r1 g0 g1 g2 g3 g4 g5 g6 g7 g8 g9 g10 g11 g12 g13 bp bn) ++ [(o, .inl (cJ, 1, .inr (.inl uo_1)))])) C (k_X2_waterAt_ok l D cI cZ mh t n r y b m0 m1 m2 m3 m4 m5 m6 m7 m8 m9 m10 m11 m12 m13 p f1 d hI.n16 hI.depM (by first | assumption | omega)) (cwV 1 C.1.2.2.2.2 gL_law_X2_waterAt rfl rfl rfl (by decide +kernel) ⟨Nat.le_of_ble_eq_true rfl, Nat.le_of_ble_eq_true rfl⟩) dL_law_844 847 rfl (ci := 2) 0 rfl rfl rfl rfl (Nat.le_of_ble_eq_true rfl) ⟨(by show kc + 0 ≤ 601024; omega), (by show ns + 0 ≤ 7293034; omega)⟩ [0, 1] rfl [33, 34, 35, 36, 37, 38, 39, 40, 41, 42, 43, 44, 45, 46, 47] rfl (by decide) [0, 1, 2, 3, 4, 5, 6, 7, 8, 9, 10, 11, 12, 13, 14, 15, 16, 17, 18, 19, 20, 21, 22, 23, 24, 25, 26, 27, 28, 29, 30, 31, 32, 48] rfl (by decide) (by decide +kernel) (fun v w hv => ?_)
  obtain ⟨eg8_2, eg9_2, eg10_2, eg11_2, rfl, rfl⟩ := hv
  refine zv_go rfl rfl (st' := [.int ((sol n m0 m1 m2 m3 m5 r).1 p)]) rfl (kc' := kc) rfl (ns' := ns) rfl ?_
  refine zv_perm [0, 1, 2, 3, 4, 5, 6, 7, 8, 9, 10, 11, 12, 13, 14, 15, 16, 17, 18, 19, 20, 21, 22, 23, 24, 25, 26, 27, 28, 29, 30, 31, 32, 34, 35, 36, 37, 38, 39, 40, 41, 42, 43, 44, 45, 46, 47, 48, 33] (ws' := ((cR cI cZ q h k (nI b) y (nI n) r f0 f1 f2 f3 f4 f5 f6 f7 f8 f9 f10 f11 f12 f13 (nI n1) r1 g0 g1 g2 g3 g4 g5 g6 g7 g8 g9 g10 g11 g12 g13 bp bn) ++ ((cM cI cZ mh 0 (nI n) r y (nI b) m0 m1 m2 m3 m4 m5 m6 m7 eg8_2 eg9_2 eg10_2 eg11_2 m12 m13) ++ [(o, .inl (cJ, 1, .inr (.inl uo_1)))]))) (by decide) rfl ?_
  refine zv_istore C dL_law_847 849 rfl [(6, .int ((sol n m0 m1 m2 m3 m5 r).1 p)), (5, .int 0), (0, .ref sc), (1, .ref (q 0)), (2, .ref (mh 0)), (3, .ref o), (4, .int (nI i))] (by decide) rfl ?_
  refine zv_aload_n C dL_law_849 850 rfl 4 rfl ?_
  refine zv_callVR (rest := []) C (k_X2_thrown l D cI cZ mh 0 n r y b m0 m1 m2 m3 m4 m5 m6 m7 eg8_2 eg9_2 eg10_2 eg11_2 m12 m13 ) (cwV 0 C.1.2.2.2.2 gL_law_X2_thrown rfl rfl rfl (by decide +kernel) ⟨Nat.le_of_ble_eq_true rfl, Nat.le_of_ble_eq_true rfl⟩) dL_law_850 853 rfl (ci := 2) 0 rfl rfl rfl rfl (Nat.le_of_ble_eq_true rfl) ⟨(by show kc + 0 ≤ 601024; omega), (by show ns + 0 ≤ 7293034; omega)⟩ [0, 1] rfl [33, 34, 35, 36, 37, 38, 39, 40, 41, 42, 43, 44, 45, 46, 47] rfl (by decide) (fun v hv => ?_)
  subst hv
  refine zv_go rfl rfl (st' := [.int 0]) rfl (kc' := kc) rfl (ns' := ns) rfl ?_
  refine zv_iload C dL_law_853 855 rfl 1 rfl ?_
  refine zv_icmp_eq C dL_law_855 858 860 rfl (by decide) (fun _ => ?_) (fun q => absurd (by decide) q)
  refine zv_iload C dL_law_860 862 rfl 1 rfl ?_
  refine zv_if_ne C dL_law_862 865 877 rfl (by decide) (fun q => absurd (by decide) q) (fun _ => ?_)
  refine zv_aload_n C dL_law_865 866 rfl 5 rfl ?_
  refine zv_iconst (v := 0) C dL_law_866 867 rfl (by decide) ?_
  refine zv_lald (v := (uo_1 0)) C dL_law_867 868 rfl 48 2 0 rfl rfl (by decide) (by decide) (by decide) rfl ?_
  refine zv_iload C dL_law_868 870 rfl 0 rfl ?_
  refine zv_i2l C dL_law_870 871 rfl ?_
  refine zv_lcmpE C dL_law_871 872 rfl (hu.trans (congrArg Int32.toInt64 (hI.ms p hp).1)) ?_
  refine zv_if_eq C dL_law_872 875 877 rfl (by decide) (fun _ => ?_) (fun q => absurd (by decide) q)
  refine zv_goto C dL_law_877 1966 (by decide) ?_
  refine zv_widen (k' := kc + 17) (n' := ns + 168) (by omega) (by omega) ?_
  refine zv_sub [2, 3, 4, 5, 6] (lv' := [(0, .ref sc), (1, .ref (q 0)), (2, .ref (mh 0)), (3, .ref o), (4, .int (nI i))]) rfl ?_
  exact K n b y r 0 d f0 f1 f2 f3 f4 f5 f6 f7 f8 f9 f10 f11 f12 f13 n1 r1 g0 g1 g2 g3 g4 g5 g6 g7 g8 g9 g10 g11 g12 g13 bp bn uo_1 m0 m1 m2 m3 m4 m5 m6 m7 eg8_2 eg9_2 eg10_2 eg11_2 m12 m13 hI
set_option maxHeartbeats 4000000 in
set_option maxRecDepth 100000 in
theorem lc_lengthAt_no {pP : Program} {l : Launch} {eE : Env} {sS : State} {mM : MethodId} {aA : Array Value} {bB : List Frame} {mT : Method} {cD : Code} {Q : State → Prop} {D : va_G} {cI cZ cJ : ClassId} {A : Nat → Prop} {sc L : Nat} {xs : Nat → Int32} {q h k mh : Nat → Nat} {o i kc ns : Nat} {n b : Nat} {y r t : Int32} {d : Nat → Nat} {f0 f1 f2 f3 f4 f5 f6 f7 f8 f9 f10 f11 f12 f13 : Nat → Int32} {n1 : Nat} {r1 : Int32} {g0 g1 g2 g3 g4 g5 g6 g7 g8 g9 g10 g11 g12 g13 bp bn : Nat → Int32} {u : Nat → Int64} {m0 m1 m2 m3 m4 m5 m6 m7 m8 m9 m10 m11 m12 m13 : Nat → Int32} (hl : l.stackTraces = false) (C : zv_C pP mM cD cL_law 9 sS aA wsL_law "RiverNamesLaw" A) (hA : A = fun q => sS.heap.size ≤ q) (hE : zx_E sS) (hX : va_X sc L xs sS sS.heap) (hsc : sc < sS.heap.size) (hi : i + 4 ≤ L) (hL : L ≤ 2048) (hkc : kc + 17 ≤ 601024) (hns : ns + 168 ≤ 7293034) (hI : LI n b r d f0 f1 f2 f3 f4 f5 f6 f7 f8 f9 f10 f11 f12 f13 bp bn m0 m1 m2 m3 m4 m5 m6 m7) (K : LK pP l eE sS mM aA bB mT cD Q D cI cZ cJ A sc q h k mh o i kc ns) (hf : isP n (xs (i + 1)) = false) : zv_V pP l eE room_1 sS mM aA bB mT cD Q 9 D vwCl A A (tyJ cI cZ cJ) ((cR cI cZ q h k (nI b) y (nI n) r f0 f1 f2 f3 f4 f5 f6 f7 f8 f9 f10 f11 f12 f13 (nI n1) r1 g0 g1 g2 g3 g4 g5 g6 g7 g8 g9 g10 g11 g12 g13 bp bn) ++ ((cM cI cZ mh t (nI n) r y (nI b) m0 m1 m2 m3 m4 m5 m6 m7 m8 m9 m10 m11 m12 m13) ++ [(o, .inl (cJ, 1, .inr (.inl u)))])) kc ns 880 [(0, .ref sc), (1, .ref (q 0)), (2, .ref (mh 0)), (3, .ref o), (4, .int (nI i))] [] := by
  refine zv_aload_n C dL_law_880 881 rfl 1 rfl ?_
  refine zv_aload_n C dL_law_881 882 rfl 0 rfl ?_
  refine zv_iload C dL_law_882 884 rfl 4 rfl ?_
  refine zv_iconst (v := 1) C dL_law_884 885 rfl (by decide) ?_
  refine zv_iadd (v := (nI (i + 1))) C dL_law_885 886 rfl (nI_1 i) ?_
  refine zv_sld C hA hX hsc dL_law_886 887 rfl (i + 1) rfl (by omega) hL (v := (xs (i + 1))) rfl ?_
  refine zv_aload_n C dL_law_887 888 rfl 3 rfl ?_
  refine zv_callWE (rest := []) C hA hE (k_L_lengthAt_t l D cI cZ cJ q h k b y n r f0 f1 f2 f3 f4 f5 f6 f7 f8 f9 f10 f11 f12 f13 n1 r1 g0 g1 g2 g3 g4 g5 g6 g7 g8 g9 g10 g11 g12 g13 bp bn o u (xs (i + 1)) hI.n16 (by first | assumption | omega) hl) (vx_cwSW 3 C.1.2.2.2.2 gL_law_L_lengthAt rfl rfl rfl (by decide +kernel) ⟨Nat.le_of_ble_eq_true rfl, Nat.le_of_ble_eq_true rfl⟩) dL_law_888 891 rfl rfl rfl (Nat.le_of_ble_eq_true rfl) ⟨(by show kc + 1 ≤ 601024; omega), (by show ns + 6 ≤ 7293034; omega)⟩ [0, 1, 2] rfl [0, 1, 2, 3, 4, 5, 6, 7, 8, 9, 10, 11, 12, 13, 14, 15, 16, 17, 18, 19, 20, 21, 22, 23, 24, 25, 26, 27, 28, 29, 30, 31, 32, 48] rfl (by decide) (fun v hv => ?_)
  subst hv
  refine zv_go rfl rfl (st' := [.int 1]) rfl (kc' := kc + 1) rfl (ns' := ns + 6) rfl ?_
  refine zv_istore C dL_law_891 893 rfl [(5, .int 1), (0, .ref sc), (1, .ref (q 0)), (2, .ref (mh 0)), (3, .ref o), (4, .int (nI i))] (by decide) rfl ?_
  refine zv_aload_n C dL_law_893 894 rfl 3 rfl ?_
  refine zv_aload_n C dL_law_894 895 rfl 1 rfl ?_
  refine zv_iload C dL_law_895 897 rfl 5 rfl ?_
  refine zv_iconst (v := 1) C dL_law_897 898 rfl (by decide) ?_
  refine zv_iadd (v := (nI (i + 1))) C dL_law_898 899 rfl (nI_1 i) ?_
  refine zv_sld C hA hX hsc dL_law_899 900 rfl (i + 1) rfl (by omega) hL (v := (xs (i + 1))) rfl ?_
  refine zv_callV (rest := []) (wr := ((cR cI cZ q h k (nI b) y (nI n) r f0 f1 f2 f3 f4 f5 f6 f7 f8 f9 f10 f11 f12 f13 (nI n1) r1 g0 g1 g2 g3 g4 g5 g6 g7 g8 g9 g10 g11 g12 g13 bp bn) ++ [(o, .inl (cJ, 1, .inr (.inl u)))])) C (k_X2_lengthAt_no l D cI cZ mh t n r y b m0 m1 m2 m3 m4 m5 m6 m7 m8 m9 m10 m11 m12 m13 (xs (i + 1)) hI.n16 (by first | assumption | omega)) (cwV 1 C.1.2.2.2.2 gL_law_X2_lengthAt rfl rfl rfl (by decide +kernel) ⟨Nat.le_of_ble_eq_true rfl, Nat.le_of_ble_eq_true rfl⟩) dL_law_900 903 rfl (ci := 2) 0 rfl rfl rfl rfl (Nat.le_of_ble_eq_true rfl) ⟨(by show kc + 1 + 0 ≤ 601024; omega), (by show ns + 6 + 0 ≤ 7293034; omega)⟩ [0, 1] rfl [33, 34, 35, 36, 37, 38, 39, 40, 41, 42, 43, 44, 45, 46, 47] rfl (by decide) [0, 1, 2, 3, 4, 5, 6, 7, 8, 9, 10, 11, 12, 13, 14, 15, 16, 17, 18, 19, 20, 21, 22, 23, 24, 25, 26, 27, 28, 29, 30, 31, 32, 48] rfl (by decide) (by decide +kernel) (fun v w hv => ?_)
  obtain ⟨rfl, rfl⟩ := hv
  refine zv_go rfl rfl (st' := [.int 0]) rfl (kc' := kc + 1) rfl (ns' := ns + 6) rfl ?_
  refine zv_perm [0, 1, 2, 3, 4, 5, 6, 7, 8, 9, 10, 11, 12, 13, 14, 15, 16, 17, 18, 19, 20, 21, 22, 23, 24, 25, 26, 27, 28, 29, 30, 31, 32, 34, 35, 36, 37, 38, 39, 40, 41, 42, 43, 44, 45, 46, 47, 48, 33] (ws' := ((cR cI cZ q h k (nI b) y (nI n) r f0 f1 f2 f3 f4 f5 f6 f7 f8 f9 f10 f11 f12 f13 (nI n1) r1 g0 g1 g2 g3 g4 g5 g6 g7 g8 g9 g10 g11 g12 g13 bp bn) ++ ((cM cI cZ mh 1 (nI n) r y (nI b) m0 m1 m2 m3 m4 m5 m6 m7 m8 m9 m10 m11 m12 m13) ++ [(o, .inl (cJ, 1, .inr (.inl u)))]))) (by decide) rfl ?_
  refine zv_istore C dL_law_903 905 rfl [(6, .int 0), (5, .int 1), (0, .ref sc), (1, .ref (q 0)), (2, .ref (mh 0)), (3, .ref o), (4, .int (nI i))] (by decide) rfl ?_
  refine zv_aload_n C dL_law_905 906 rfl 4 rfl ?_
  refine zv_callVR (rest := []) C (k_X2_thrown l D cI cZ mh 1 n r y b m0 m1 m2 m3 m4 m5 m6 m7 m8 m9 m10 m11 m12 m13 ) (cwV 0 C.1.2.2.2.2 gL_law_X2_thrown rfl rfl rfl (by decide +kernel) ⟨Nat.le_of_ble_eq_true rfl, Nat.le_of_ble_eq_true rfl⟩) dL_law_906 909 rfl (ci := 2) 0 rfl rfl rfl rfl (Nat.le_of_ble_eq_true rfl) ⟨(by show kc + 1 + 0 ≤ 601024; omega), (by show ns + 6 + 0 ≤ 7293034; omega)⟩ [0, 1] rfl [33, 34, 35, 36, 37, 38, 39, 40, 41, 42, 43, 44, 45, 46, 47] rfl (by decide) (fun v hv => ?_)
  subst hv
  refine zv_go rfl rfl (st' := [.int 1]) rfl (kc' := kc + 1) rfl (ns' := ns + 6) rfl ?_
  refine zv_iload C dL_law_909 911 rfl 1 rfl ?_
  refine zv_icmp_eq C dL_law_911 914 916 rfl (by decide) (fun _ => ?_) (fun q => absurd (by decide) q)
  refine zv_iload C dL_law_916 918 rfl 1 rfl ?_
  refine zv_if_ne C dL_law_918 921 933 rfl (by decide) (fun _ => ?_) (fun q => absurd q (by decide))
  refine zv_goto C dL_law_933 1966 (by decide) ?_
  refine zv_widen (k' := kc + 17) (n' := ns + 168) (by omega) (by omega) ?_
  refine zv_sub [2, 3, 4, 5, 6] (lv' := [(0, .ref sc), (1, .ref (q 0)), (2, .ref (mh 0)), (3, .ref o), (4, .int (nI i))]) rfl ?_
  exact K n b y r 1 d f0 f1 f2 f3 f4 f5 f6 f7 f8 f9 f10 f11 f12 f13 n1 r1 g0 g1 g2 g3 g4 g5 g6 g7 g8 g9 g10 g11 g12 g13 bp bn u m0 m1 m2 m3 m4 m5 m6 m7 m8 m9 m10 m11 m12 m13 hI
set_option maxHeartbeats 4000000 in
set_option maxRecDepth 100000 in
theorem lc_lengthAt_ok {pP : Program} {l : Launch} {eE : Env} {sS : State} {mM : MethodId} {aA : Array Value} {bB : List Frame} {mT : Method} {cD : Code} {Q : State → Prop} {D : va_G} {cI cZ cJ : ClassId} {A : Nat → Prop} {sc L : Nat} {xs : Nat → Int32} {q h k mh : Nat → Nat} {o i kc ns : Nat} {n b : Nat} {y r t : Int32} {d : Nat → Nat} {f0 f1 f2 f3 f4 f5 f6 f7 f8 f9 f10 f11 f12 f13 : Nat → Int32} {n1 : Nat} {r1 : Int32} {g0 g1 g2 g3 g4 g5 g6 g7 g8 g9 g10 g11 g12 g13 bp bn : Nat → Int32} {u : Nat → Int64} {m0 m1 m2 m3 m4 m5 m6 m7 m8 m9 m10 m11 m12 m13 : Nat → Int32} (hl : l.stackTraces = false) (C : zv_C pP mM cD cL_law 9 sS aA wsL_law "RiverNamesLaw" A) (hA : A = fun q => sS.heap.size ≤ q) (hE : zx_E sS) (hX : va_X sc L xs sS sS.heap) (hsc : sc < sS.heap.size) (hi : i + 4 ≤ L) (hL : L ≤ 2048) (hkc : kc + 17 ≤ 601024) (hns : ns + 168 ≤ 7293034) (hI : LI n b r d f0 f1 f2 f3 f4 f5 f6 f7 f8 f9 f10 f11 f12 f13 bp bn m0 m1 m2 m3 m4 m5 m6 m7) (K : LK pP l eE sS mM aA bB mT cD Q D cI cZ cJ A sc q h k mh o i kc ns) (p : Nat) (hp : p < n) (e1 : xs (i + 1) = nI p) : zv_V pP l eE room_1 sS mM aA bB mT cD Q 9 D vwCl A A (tyJ cI cZ cJ) ((cR cI cZ q h k (nI b) y (nI n) r f0 f1 f2 f3 f4 f5 f6 f7 f8 f9 f10 f11 f12 f13 (nI n1) r1 g0 g1 g2 g3 g4 g5 g6 g7 g8 g9 g10 g11 g12 g13 bp bn) ++ ((cM cI cZ mh t (nI n) r y (nI b) m0 m1 m2 m3 m4 m5 m6 m7 m8 m9 m10 m11 m12 m13) ++ [(o, .inl (cJ, 1, .inr (.inl u)))])) kc ns 880 [(0, .ref sc), (1, .ref (q 0)), (2, .ref (mh 0)), (3, .ref o), (4, .int (nI i))] [] := by
  refine zv_aload_n C dL_law_880 881 rfl 1 rfl ?_
  refine zv_aload_n C dL_law_881 882 rfl 0 rfl ?_
  refine zv_iload C dL_law_882 884 rfl 4 rfl ?_
  refine zv_iconst (v := 1) C dL_law_884 885 rfl (by decide) ?_
  refine zv_iadd (v := (nI (i + 1))) C dL_law_885 886 rfl (nI_1 i) ?_
  refine zv_sld C hA hX hsc dL_law_886 887 rfl (i + 1) rfl (by omega) hL (v := (nI p)) e1 ?_
  refine zv_aload_n C dL_law_887 888 rfl 3 rfl ?_
  refine zv_callW (rest := []) (wr := (cM cI cZ mh t (nI n) r y (nI b) m0 m1 m2 m3 m4 m5 m6 m7 m8 m9 m10 m11 m12 m13)) C (k_L_lengthAt_ok l D cI cZ cJ q h k b y n r f0 f1 f2 f3 f4 f5 f6 f7 f8 f9 f10 f11 f12 f13 n1 r1 g0 g1 g2 g3 g4 g5 g6 g7 g8 g9 g10 g11 g12 g13 bp bn o u p hI.n16 (by first | assumption | omega)) (vx_cwSW 3 C.1.2.2.2.2 gL_law_L_lengthAt rfl rfl rfl (by decide +kernel) ⟨Nat.le_of_ble_eq_true rfl, Nat.le_of_ble_eq_true rfl⟩) dL_law_888 891 rfl rfl rfl (Nat.le_of_ble_eq_true rfl) ⟨(by show kc + 0 ≤ 601024; omega), (by show ns + 0 ≤ 7293034; omega)⟩ [0, 1, 2] rfl [0, 1, 2, 3, 4, 5, 6, 7, 8, 9, 10, 11, 12, 13, 14, 15, 16, 17, 18, 19, 20, 21, 22, 23, 24, 25, 26, 27, 28, 29, 30, 31, 32, 48] rfl (by decide) [33, 34, 35, 36, 37, 38, 39, 40, 41, 42, 43, 44, 45, 46, 47] rfl (by decide) (by decide +kernel) (fun v w hv => ?_)
  obtain ⟨uo_1, rfl, rfl, hu⟩ := hv
  refine zv_go rfl rfl (st' := [.int 0]) rfl (kc' := kc) rfl (ns' := ns) rfl ?_
  refine zv_perm [15, 16, 17, 18, 19, 20, 21, 22, 23, 24, 25, 26, 27, 28, 29, 30, 31, 32, 33, 34, 35, 36, 37, 38, 39, 40, 41, 42, 43, 44, 45, 46, 47, 0, 1, 2, 3, 4, 5, 6, 7, 8, 9, 10, 11, 12, 13, 14, 48] (ws' := ((cR cI cZ q h k (nI b) y (nI n) r f0 f1 f2 f3 f4 f5 f6 f7 f8 f9 f10 f11 f12 f13 (nI n1) r1 g0 g1 g2 g3 g4 g5 g6 g7 g8 g9 g10 g11 g12 g13 bp bn) ++ ((cM cI cZ mh t (nI n) r y (nI b) m0 m1 m2 m3 m4 m5 m6 m7 m8 m9 m10 m11 m12 m13) ++ [(o, .inl (cJ, 1, .inr (.inl uo_1)))]))) (by decide) rfl ?_
  refine zv_istore C dL_law_891 893 rfl [(5, .int 0), (0, .ref sc), (1, .ref (q 0)), (2, .ref (mh 0)), (3, .ref o), (4, .int (nI i))] (by decide) rfl ?_
  refine zv_aload_n C dL_law_893 894 rfl 3 rfl ?_
  refine zv_aload_n C dL_law_894 895 rfl 1 rfl ?_
  refine zv_iload C dL_law_895 897 rfl 5 rfl ?_
  refine zv_iconst (v := 1) C dL_law_897 898 rfl (by decide) ?_
  refine zv_iadd (v := (nI (i + 1))) C dL_law_898 899 rfl (nI_1 i) ?_
  refine zv_sld C hA hX hsc dL_law_899 900 rfl (i + 1) rfl (by omega) hL (v := (nI p)) e1 ?_
  refine zv_callV (rest := []) (wr := ((cR cI cZ q h k (nI b) y (nI n) r f0 f1 f2 f3 f4 f5 f6 f7 f8 f9 f10 f11 f12 f13 (nI n1) r1 g0 g1 g2 g3 g4 g5 g6 g7 g8 g9 g10 g11 g12 g13 bp bn) ++ [(o, .inl (cJ, 1, .inr (.inl uo_1)))])) C (k_X2_lengthAt_ok l D cI cZ mh t n r y b m0 m1 m2 m3 m4 m5 m6 m7 m8 m9 m10 m11 m12 m13 p f1 d hI.n16 hI.depM (by first | assumption | omega)) (cwV 1 C.1.2.2.2.2 gL_law_X2_lengthAt rfl rfl rfl (by decide +kernel) ⟨Nat.le_of_ble_eq_true rfl, Nat.le_of_ble_eq_true rfl⟩) dL_law_900 903 rfl (ci := 2) 0 rfl rfl rfl rfl (Nat.le_of_ble_eq_true rfl) ⟨(by show kc + 0 ≤ 601024; omega), (by show ns + 0 ≤ 7293034; omega)⟩ [0, 1] rfl [33, 34, 35, 36, 37, 38, 39, 40, 41, 42, 43, 44, 45, 46, 47] rfl (by decide) [0, 1, 2, 3, 4, 5, 6, 7, 8, 9, 10, 11, 12, 13, 14, 15, 16, 17, 18, 19, 20, 21, 22, 23, 24, 25, 26, 27, 28, 29, 30, 31, 32, 48] rfl (by decide) (by decide +kernel) (fun v w hv => ?_)
  obtain ⟨eg8_2, eg9_2, eg10_2, eg11_2, rfl, rfl⟩ := hv
  refine zv_go rfl rfl (st' := [.int ((sol n m0 m1 m2 m3 m5 r).2.1 p)]) rfl (kc' := kc) rfl (ns' := ns) rfl ?_
  refine zv_perm [0, 1, 2, 3, 4, 5, 6, 7, 8, 9, 10, 11, 12, 13, 14, 15, 16, 17, 18, 19, 20, 21, 22, 23, 24, 25, 26, 27, 28, 29, 30, 31, 32, 34, 35, 36, 37, 38, 39, 40, 41, 42, 43, 44, 45, 46, 47, 48, 33] (ws' := ((cR cI cZ q h k (nI b) y (nI n) r f0 f1 f2 f3 f4 f5 f6 f7 f8 f9 f10 f11 f12 f13 (nI n1) r1 g0 g1 g2 g3 g4 g5 g6 g7 g8 g9 g10 g11 g12 g13 bp bn) ++ ((cM cI cZ mh 0 (nI n) r y (nI b) m0 m1 m2 m3 m4 m5 m6 m7 eg8_2 eg9_2 eg10_2 eg11_2 m12 m13) ++ [(o, .inl (cJ, 1, .inr (.inl uo_1)))]))) (by decide) rfl ?_
  refine zv_istore C dL_law_903 905 rfl [(6, .int ((sol n m0 m1 m2 m3 m5 r).2.1 p)), (5, .int 0), (0, .ref sc), (1, .ref (q 0)), (2, .ref (mh 0)), (3, .ref o), (4, .int (nI i))] (by decide) rfl ?_
  refine zv_aload_n C dL_law_905 906 rfl 4 rfl ?_
  refine zv_callVR (rest := []) C (k_X2_thrown l D cI cZ mh 0 n r y b m0 m1 m2 m3 m4 m5 m6 m7 eg8_2 eg9_2 eg10_2 eg11_2 m12 m13 ) (cwV 0 C.1.2.2.2.2 gL_law_X2_thrown rfl rfl rfl (by decide +kernel) ⟨Nat.le_of_ble_eq_true rfl, Nat.le_of_ble_eq_true rfl⟩) dL_law_906 909 rfl (ci := 2) 0 rfl rfl rfl rfl (Nat.le_of_ble_eq_true rfl) ⟨(by show kc + 0 ≤ 601024; omega), (by show ns + 0 ≤ 7293034; omega)⟩ [0, 1] rfl [33, 34, 35, 36, 37, 38, 39, 40, 41, 42, 43, 44, 45, 46, 47] rfl (by decide) (fun v hv => ?_)
  subst hv
  refine zv_go rfl rfl (st' := [.int 0]) rfl (kc' := kc) rfl (ns' := ns) rfl ?_
  refine zv_iload C dL_law_909 911 rfl 1 rfl ?_
  refine zv_icmp_eq C dL_law_911 914 916 rfl (by decide) (fun _ => ?_) (fun q => absurd (by decide) q)
  refine zv_iload C dL_law_916 918 rfl 1 rfl ?_
  refine zv_if_ne C dL_law_918 921 933 rfl (by decide) (fun q => absurd (by decide) q) (fun _ => ?_)
  refine zv_aload_n C dL_law_921 922 rfl 5 rfl ?_
  refine zv_iconst (v := 0) C dL_law_922 923 rfl (by decide) ?_
  refine zv_lald (v := (uo_1 0)) C dL_law_923 924 rfl 48 2 0 rfl rfl (by decide) (by decide) (by decide) rfl ?_
  refine zv_iload C dL_law_924 926 rfl 0 rfl ?_
  refine zv_i2l C dL_law_926 927 rfl ?_
  refine zv_lcmpE C dL_law_927 928 rfl (hu.trans (congrArg Int32.toInt64 (hI.ms p hp).2.1)) ?_
  refine zv_if_eq C dL_law_928 931 933 rfl (by decide) (fun _ => ?_) (fun q => absurd (by decide) q)
  refine zv_goto C dL_law_933 1966 (by decide) ?_
  refine zv_widen (k' := kc + 17) (n' := ns + 168) (by omega) (by omega) ?_
  refine zv_sub [2, 3, 4, 5, 6] (lv' := [(0, .ref sc), (1, .ref (q 0)), (2, .ref (mh 0)), (3, .ref o), (4, .int (nI i))]) rfl ?_
  exact K n b y r 0 d f0 f1 f2 f3 f4 f5 f6 f7 f8 f9 f10 f11 f12 f13 n1 r1 g0 g1 g2 g3 g4 g5 g6 g7 g8 g9 g10 g11 g12 g13 bp bn uo_1 m0 m1 m2 m3 m4 m5 m6 m7 eg8_2 eg9_2 eg10_2 eg11_2 m12 m13 hI
set_option maxHeartbeats 4000000 in
set_option maxRecDepth 100000 in
theorem lc_mouthOf_no {pP : Program} {l : Launch} {eE : Env} {sS : State} {mM : MethodId} {aA : Array Value} {bB : List Frame} {mT : Method} {cD : Code} {Q : State → Prop} {D : va_G} {cI cZ cJ : ClassId} {A : Nat → Prop} {sc L : Nat} {xs : Nat → Int32} {q h k mh : Nat → Nat} {o i kc ns : Nat} {n b : Nat} {y r t : Int32} {d : Nat → Nat} {f0 f1 f2 f3 f4 f5 f6 f7 f8 f9 f10 f11 f12 f13 : Nat → Int32} {n1 : Nat} {r1 : Int32} {g0 g1 g2 g3 g4 g5 g6 g7 g8 g9 g10 g11 g12 g13 bp bn : Nat → Int32} {u : Nat → Int64} {m0 m1 m2 m3 m4 m5 m6 m7 m8 m9 m10 m11 m12 m13 : Nat → Int32} (hl : l.stackTraces = false) (C : zv_C pP mM cD cL_law 9 sS aA wsL_law "RiverNamesLaw" A) (hA : A = fun q => sS.heap.size ≤ q) (hE : zx_E sS) (hX : va_X sc L xs sS sS.heap) (hsc : sc < sS.heap.size) (hi : i + 4 ≤ L) (hL : L ≤ 2048) (hkc : kc + 17 ≤ 601024) (hns : ns + 168 ≤ 7293034) (hI : LI n b r d f0 f1 f2 f3 f4 f5 f6 f7 f8 f9 f10 f11 f12 f13 bp bn m0 m1 m2 m3 m4 m5 m6 m7) (K : LK pP l eE sS mM aA bB mT cD Q D cI cZ cJ A sc q h k mh o i kc ns) (hf : isP n (xs (i + 1)) = false) : zv_V pP l eE room_1 sS mM aA bB mT cD Q 9 D vwCl A A (tyJ cI cZ cJ) ((cR cI cZ q h k (nI b) y (nI n) r f0 f1 f2 f3 f4 f5 f6 f7 f8 f9 f10 f11 f12 f13 (nI n1) r1 g0 g1 g2 g3 g4 g5 g6 g7 g8 g9 g10 g11 g12 g13 bp bn) ++ ((cM cI cZ mh t (nI n) r y (nI b) m0 m1 m2 m3 m4 m5 m6 m7 m8 m9 m10 m11 m12 m13) ++ [(o, .inl (cJ, 1, .inr (.inl u)))])) kc ns 936 [(0, .ref sc), (1, .ref (q 0)), (2, .ref (mh 0)), (3, .ref o), (4, .int (nI i))] [] := by
  refine zv_aload_n C dL_law_936 937 rfl 1 rfl ?_
  refine zv_aload_n C dL_law_937 938 rfl 0 rfl ?_
  refine zv_iload C dL_law_938 940 rfl 4 rfl ?_
  refine zv_iconst (v := 1) C dL_law_940 941 rfl (by decide) ?_
  refine zv_iadd (v := (nI (i + 1))) C dL_law_941 942 rfl (nI_1 i) ?_
  refine zv_sld C hA hX hsc dL_law_942 943 rfl (i + 1) rfl (by omega) hL (v := (xs (i + 1))) rfl ?_
  refine zv_aload_n C dL_law_943 944 rfl 3 rfl ?_
  refine zv_callWE (rest := []) C hA hE (k_L_mouthOf_t l D cI cZ cJ q h k b y n r f0 f1 f2 f3 f4 f5 f6 f7 f8 f9 f10 f11 f12 f13 n1 r1 g0 g1 g2 g3 g4 g5 g6 g7 g8 g9 g10 g11 g12 g13 bp bn o u (xs (i + 1)) hI.n16 (by first | assumption | omega) hl) (vx_cwSW 3 C.1.2.2.2.2 gL_law_L_mouthOf rfl rfl rfl (by decide +kernel) ⟨Nat.le_of_ble_eq_true rfl, Nat.le_of_ble_eq_true rfl⟩) dL_law_944 947 rfl rfl rfl (Nat.le_of_ble_eq_true rfl) ⟨(by show kc + 1 ≤ 601024; omega), (by show ns + 6 ≤ 7293034; omega)⟩ [0, 1, 2] rfl [0, 1, 2, 3, 4, 5, 6, 7, 8, 9, 10, 11, 12, 13, 14, 15, 16, 17, 18, 19, 20, 21, 22, 23, 24, 25, 26, 27, 28, 29, 30, 31, 32, 48] rfl (by decide) (fun v hv => ?_)
  subst hv
  refine zv_go rfl rfl (st' := [.int 1]) rfl (kc' := kc + 1) rfl (ns' := ns + 6) rfl ?_
  refine zv_istore C dL_law_947 949 rfl [(5, .int 1), (0, .ref sc), (1, .ref (q 0)), (2, .ref (mh 0)), (3, .ref o), (4, .int (nI i))] (by decide) rfl ?_
  refine zv_aload_n C dL_law_949 950 rfl 3 rfl ?_
  refine zv_aload_n C dL_law_950 951 rfl 1 rfl ?_
  refine zv_iload C dL_law_951 953 rfl 5 rfl ?_
  refine zv_iconst (v := 1) C dL_law_953 954 rfl (by decide) ?_
  refine zv_iadd (v := (nI (i + 1))) C dL_law_954 955 rfl (nI_1 i) ?_
  refine zv_sld C hA hX hsc dL_law_955 956 rfl (i + 1) rfl (by omega) hL (v := (xs (i + 1))) rfl ?_
  refine zv_callV (rest := []) (wr := ((cR cI cZ q h k (nI b) y (nI n) r f0 f1 f2 f3 f4 f5 f6 f7 f8 f9 f10 f11 f12 f13 (nI n1) r1 g0 g1 g2 g3 g4 g5 g6 g7 g8 g9 g10 g11 g12 g13 bp bn) ++ [(o, .inl (cJ, 1, .inr (.inl u)))])) C (k_X2_mouthOf_no l D cI cZ mh t n r y b m0 m1 m2 m3 m4 m5 m6 m7 m8 m9 m10 m11 m12 m13 (xs (i + 1)) hI.n16 (by first | assumption | omega)) (cwV 1 C.1.2.2.2.2 gL_law_X2_mouthOf rfl rfl rfl (by decide +kernel) ⟨Nat.le_of_ble_eq_true rfl, Nat.le_of_ble_eq_true rfl⟩) dL_law_956 959 rfl (ci := 2) 0 rfl rfl rfl rfl (Nat.le_of_ble_eq_true rfl) ⟨(by show kc + 1 + 0 ≤ 601024; omega), (by show ns + 6 + 0 ≤ 7293034; omega)⟩ [0, 1] rfl [33, 34, 35, 36, 37, 38, 39, 40, 41, 42, 43, 44, 45, 46, 47] rfl (by decide) [0, 1, 2, 3, 4, 5, 6, 7, 8, 9, 10, 11, 12, 13, 14, 15, 16, 17, 18, 19, 20, 21, 22, 23, 24, 25, 26, 27, 28, 29, 30, 31, 32, 48] rfl (by decide) (by decide +kernel) (fun v w hv => ?_)
  obtain ⟨rfl, rfl⟩ := hv
  refine zv_go rfl rfl (st' := [.int 0]) rfl (kc' := kc + 1) rfl (ns' := ns + 6) rfl ?_
  refine zv_perm [0, 1, 2, 3, 4, 5, 6, 7, 8, 9, 10, 11, 12, 13, 14, 15, 16, 17, 18, 19, 20, 21, 22, 23, 24, 25, 26, 27, 28, 29, 30, 31, 32, 34, 35, 36, 37, 38, 39, 40, 41, 42, 43, 44, 45, 46, 47, 48, 33] (ws' := ((cR cI cZ q h k (nI b) y (nI n) r f0 f1 f2 f3 f4 f5 f6 f7 f8 f9 f10 f11 f12 f13 (nI n1) r1 g0 g1 g2 g3 g4 g5 g6 g7 g8 g9 g10 g11 g12 g13 bp bn) ++ ((cM cI cZ mh 1 (nI n) r y (nI b) m0 m1 m2 m3 m4 m5 m6 m7 m8 m9 m10 m11 m12 m13) ++ [(o, .inl (cJ, 1, .inr (.inl u)))]))) (by decide) rfl ?_
  refine zv_istore C dL_law_959 961 rfl [(6, .int 0), (5, .int 1), (0, .ref sc), (1, .ref (q 0)), (2, .ref (mh 0)), (3, .ref o), (4, .int (nI i))] (by decide) rfl ?_
  refine zv_aload_n C dL_law_961 962 rfl 4 rfl ?_
  refine zv_callVR (rest := []) C (k_X2_thrown l D cI cZ mh 1 n r y b m0 m1 m2 m3 m4 m5 m6 m7 m8 m9 m10 m11 m12 m13 ) (cwV 0 C.1.2.2.2.2 gL_law_X2_thrown rfl rfl rfl (by decide +kernel) ⟨Nat.le_of_ble_eq_true rfl, Nat.le_of_ble_eq_true rfl⟩) dL_law_962 965 rfl (ci := 2) 0 rfl rfl rfl rfl (Nat.le_of_ble_eq_true rfl) ⟨(by show kc + 1 + 0 ≤ 601024; omega), (by show ns + 6 + 0 ≤ 7293034; omega)⟩ [0, 1] rfl [33, 34, 35, 36, 37, 38, 39, 40, 41, 42, 43, 44, 45, 46, 47] rfl (by decide) (fun v hv => ?_)
  subst hv
  refine zv_go rfl rfl (st' := [.int 1]) rfl (kc' := kc + 1) rfl (ns' := ns + 6) rfl ?_
  refine zv_iload C dL_law_965 967 rfl 1 rfl ?_
  refine zv_icmp_eq C dL_law_967 970 972 rfl (by decide) (fun _ => ?_) (fun q => absurd (by decide) q)
  refine zv_iload C dL_law_972 974 rfl 1 rfl ?_
  refine zv_if_ne C dL_law_974 977 989 rfl (by decide) (fun _ => ?_) (fun q => absurd q (by decide))
  refine zv_goto C dL_law_989 1966 (by decide) ?_
  refine zv_widen (k' := kc + 17) (n' := ns + 168) (by omega) (by omega) ?_
  refine zv_sub [2, 3, 4, 5, 6] (lv' := [(0, .ref sc), (1, .ref (q 0)), (2, .ref (mh 0)), (3, .ref o), (4, .int (nI i))]) rfl ?_
  exact K n b y r 1 d f0 f1 f2 f3 f4 f5 f6 f7 f8 f9 f10 f11 f12 f13 n1 r1 g0 g1 g2 g3 g4 g5 g6 g7 g8 g9 g10 g11 g12 g13 bp bn u m0 m1 m2 m3 m4 m5 m6 m7 m8 m9 m10 m11 m12 m13 hI
set_option maxHeartbeats 4000000 in
set_option maxRecDepth 100000 in
theorem lc_mouthOf_ok {pP : Program} {l : Launch} {eE : Env} {sS : State} {mM : MethodId} {aA : Array Value} {bB : List Frame} {mT : Method} {cD : Code} {Q : State → Prop} {D : va_G} {cI cZ cJ : ClassId} {A : Nat → Prop} {sc L : Nat} {xs : Nat → Int32} {q h k mh : Nat → Nat} {o i kc ns : Nat} {n b : Nat} {y r t : Int32} {d : Nat → Nat} {f0 f1 f2 f3 f4 f5 f6 f7 f8 f9 f10 f11 f12 f13 : Nat → Int32} {n1 : Nat} {r1 : Int32} {g0 g1 g2 g3 g4 g5 g6 g7 g8 g9 g10 g11 g12 g13 bp bn : Nat → Int32} {u : Nat → Int64} {m0 m1 m2 m3 m4 m5 m6 m7 m8 m9 m10 m11 m12 m13 : Nat → Int32} (hl : l.stackTraces = false) (C : zv_C pP mM cD cL_law 9 sS aA wsL_law "RiverNamesLaw" A) (hA : A = fun q => sS.heap.size ≤ q) (hE : zx_E sS) (hX : va_X sc L xs sS sS.heap) (hsc : sc < sS.heap.size) (hi : i + 4 ≤ L) (hL : L ≤ 2048) (hkc : kc + 17 ≤ 601024) (hns : ns + 168 ≤ 7293034) (hI : LI n b r d f0 f1 f2 f3 f4 f5 f6 f7 f8 f9 f10 f11 f12 f13 bp bn m0 m1 m2 m3 m4 m5 m6 m7) (K : LK pP l eE sS mM aA bB mT cD Q D cI cZ cJ A sc q h k mh o i kc ns) (p : Nat) (hp : p < n) (e1 : xs (i + 1) = nI p) : zv_V pP l eE room_1 sS mM aA bB mT cD Q 9 D vwCl A A (tyJ cI cZ cJ) ((cR cI cZ q h k (nI b) y (nI n) r f0 f1 f2 f3 f4 f5 f6 f7 f8 f9 f10 f11 f12 f13 (nI n1) r1 g0 g1 g2 g3 g4 g5 g6 g7 g8 g9 g10 g11 g12 g13 bp bn) ++ ((cM cI cZ mh t (nI n) r y (nI b) m0 m1 m2 m3 m4 m5 m6 m7 m8 m9 m10 m11 m12 m13) ++ [(o, .inl (cJ, 1, .inr (.inl u)))])) kc ns 936 [(0, .ref sc), (1, .ref (q 0)), (2, .ref (mh 0)), (3, .ref o), (4, .int (nI i))] [] := by
  refine zv_aload_n C dL_law_936 937 rfl 1 rfl ?_
  refine zv_aload_n C dL_law_937 938 rfl 0 rfl ?_
  refine zv_iload C dL_law_938 940 rfl 4 rfl ?_
  refine zv_iconst (v := 1) C dL_law_940 941 rfl (by decide) ?_
  refine zv_iadd (v := (nI (i + 1))) C dL_law_941 942 rfl (nI_1 i) ?_
  refine zv_sld C hA hX hsc dL_law_942 943 rfl (i + 1) rfl (by omega) hL (v := (nI p)) e1 ?_
  refine zv_aload_n C dL_law_943 944 rfl 3 rfl ?_
  refine zv_callW (rest := []) (wr := (cM cI cZ mh t (nI n) r y (nI b) m0 m1 m2 m3 m4 m5 m6 m7 m8 m9 m10 m11 m12 m13)) C (k_L_mouthOf_ok l D cI cZ cJ q h k b y n r f0 f1 f2 f3 f4 f5 f6 f7 f8 f9 f10 f11 f12 f13 n1 r1 g0 g1 g2 g3 g4 g5 g6 g7 g8 g9 g10 g11 g12 g13 bp bn o u p hI.n16 (by first | assumption | omega) hI.vw) (vx_cwSW 3 C.1.2.2.2.2 gL_law_L_mouthOf rfl rfl rfl (by decide +kernel) ⟨Nat.le_of_ble_eq_true rfl, Nat.le_of_ble_eq_true rfl⟩) dL_law_944 947 rfl rfl rfl (Nat.le_of_ble_eq_true rfl) ⟨(by show kc + 0 ≤ 601024; omega), (by show ns + 0 ≤ 7293034; omega)⟩ [0, 1, 2] rfl [0, 1, 2, 3, 4, 5, 6, 7, 8, 9, 10, 11, 12, 13, 14, 15, 16, 17, 18, 19, 20, 21, 22, 23, 24, 25, 26, 27, 28, 29, 30, 31, 32, 48] rfl (by decide) [33, 34, 35, 36, 37, 38, 39, 40, 41, 42, 43, 44, 45, 46, 47] rfl (by decide) (by decide +kernel) (fun v w hv => ?_)
  obtain ⟨uo_1, rfl, rfl, hu⟩ := hv
  refine zv_go rfl rfl (st' := [.int 0]) rfl (kc' := kc) rfl (ns' := ns) rfl ?_
  refine zv_perm [15, 16, 17, 18, 19, 20, 21, 22, 23, 24, 25, 26, 27, 28, 29, 30, 31, 32, 33, 34, 35, 36, 37, 38, 39, 40, 41, 42, 43, 44, 45, 46, 47, 0, 1, 2, 3, 4, 5, 6, 7, 8, 9, 10, 11, 12, 13, 14, 48] (ws' := ((cR cI cZ q h k (nI b) y (nI n) r f0 f1 f2 f3 f4 f5 f6 f7 f8 f9 f10 f11 f12 f13 (nI n1) r1 g0 g1 g2 g3 g4 g5 g6 g7 g8 g9 g10 g11 g12 g13 bp bn) ++ ((cM cI cZ mh t (nI n) r y (nI b) m0 m1 m2 m3 m4 m5 m6 m7 m8 m9 m10 m11 m12 m13) ++ [(o, .inl (cJ, 1, .inr (.inl uo_1)))]))) (by decide) rfl ?_
  refine zv_istore C dL_law_947 949 rfl [(5, .int 0), (0, .ref sc), (1, .ref (q 0)), (2, .ref (mh 0)), (3, .ref o), (4, .int (nI i))] (by decide) rfl ?_
  refine zv_aload_n C dL_law_949 950 rfl 3 rfl ?_
  refine zv_aload_n C dL_law_950 951 rfl 1 rfl ?_
  refine zv_iload C dL_law_951 953 rfl 5 rfl ?_
  refine zv_iconst (v := 1) C dL_law_953 954 rfl (by decide) ?_
  refine zv_iadd (v := (nI (i + 1))) C dL_law_954 955 rfl (nI_1 i) ?_
  refine zv_sld C hA hX hsc dL_law_955 956 rfl (i + 1) rfl (by omega) hL (v := (nI p)) e1 ?_
  refine zv_callV (rest := []) (wr := ((cR cI cZ q h k (nI b) y (nI n) r f0 f1 f2 f3 f4 f5 f6 f7 f8 f9 f10 f11 f12 f13 (nI n1) r1 g0 g1 g2 g3 g4 g5 g6 g7 g8 g9 g10 g11 g12 g13 bp bn) ++ [(o, .inl (cJ, 1, .inr (.inl uo_1)))])) C (k_X2_mouthOf_ok l D cI cZ mh t n r y b m0 m1 m2 m3 m4 m5 m6 m7 m8 m9 m10 m11 m12 m13 p f1 d hI.n16 hI.depM (by first | assumption | omega)) (cwV 1 C.1.2.2.2.2 gL_law_X2_mouthOf rfl rfl rfl (by decide +kernel) ⟨Nat.le_of_ble_eq_true rfl, Nat.le_of_ble_eq_true rfl⟩) dL_law_956 959 rfl (ci := 2) 0 rfl rfl rfl rfl (Nat.le_of_ble_eq_true rfl) ⟨(by show kc + 0 ≤ 601024; omega), (by show ns + 0 ≤ 7293034; omega)⟩ [0, 1] rfl [33, 34, 35, 36, 37, 38, 39, 40, 41, 42, 43, 44, 45, 46, 47] rfl (by decide) [0, 1, 2, 3, 4, 5, 6, 7, 8, 9, 10, 11, 12, 13, 14, 15, 16, 17, 18, 19, 20, 21, 22, 23, 24, 25, 26, 27, 28, 29, 30, 31, 32, 48] rfl (by decide) (by decide +kernel) (fun v w hv => ?_)
  obtain ⟨rfl, rfl⟩ := hv
  refine zv_go rfl rfl (st' := [.int (nI (mo m0 16 p))]) rfl (kc' := kc) rfl (ns' := ns) rfl ?_
  refine zv_perm [0, 1, 2, 3, 4, 5, 6, 7, 8, 9, 10, 11, 12, 13, 14, 15, 16, 17, 18, 19, 20, 21, 22, 23, 24, 25, 26, 27, 28, 29, 30, 31, 32, 34, 35, 36, 37, 38, 39, 40, 41, 42, 43, 44, 45, 46, 47, 48, 33] (ws' := ((cR cI cZ q h k (nI b) y (nI n) r f0 f1 f2 f3 f4 f5 f6 f7 f8 f9 f10 f11 f12 f13 (nI n1) r1 g0 g1 g2 g3 g4 g5 g6 g7 g8 g9 g10 g11 g12 g13 bp bn) ++ ((cM cI cZ mh 0 (nI n) r y (nI b) m0 m1 m2 m3 m4 m5 m6 m7 m8 m9 m10 m11 m12 m13) ++ [(o, .inl (cJ, 1, .inr (.inl uo_1)))]))) (by decide) rfl ?_
  refine zv_istore C dL_law_959 961 rfl [(6, .int (nI (mo m0 16 p))), (5, .int 0), (0, .ref sc), (1, .ref (q 0)), (2, .ref (mh 0)), (3, .ref o), (4, .int (nI i))] (by decide) rfl ?_
  refine zv_aload_n C dL_law_961 962 rfl 4 rfl ?_
  refine zv_callVR (rest := []) C (k_X2_thrown l D cI cZ mh 0 n r y b m0 m1 m2 m3 m4 m5 m6 m7 m8 m9 m10 m11 m12 m13 ) (cwV 0 C.1.2.2.2.2 gL_law_X2_thrown rfl rfl rfl (by decide +kernel) ⟨Nat.le_of_ble_eq_true rfl, Nat.le_of_ble_eq_true rfl⟩) dL_law_962 965 rfl (ci := 2) 0 rfl rfl rfl rfl (Nat.le_of_ble_eq_true rfl) ⟨(by show kc + 0 ≤ 601024; omega), (by show ns + 0 ≤ 7293034; omega)⟩ [0, 1] rfl [33, 34, 35, 36, 37, 38, 39, 40, 41, 42, 43, 44, 45, 46, 47] rfl (by decide) (fun v hv => ?_)
  subst hv
  refine zv_go rfl rfl (st' := [.int 0]) rfl (kc' := kc) rfl (ns' := ns) rfl ?_
  refine zv_iload C dL_law_965 967 rfl 1 rfl ?_
  refine zv_icmp_eq C dL_law_967 970 972 rfl (by decide) (fun _ => ?_) (fun q => absurd (by decide) q)
  refine zv_iload C dL_law_972 974 rfl 1 rfl ?_
  refine zv_if_ne C dL_law_974 977 989 rfl (by decide) (fun q => absurd (by decide) q) (fun _ => ?_)
  refine zv_aload_n C dL_law_977 978 rfl 5 rfl ?_
  refine zv_iconst (v := 0) C dL_law_978 979 rfl (by decide) ?_
  refine zv_lald (v := (uo_1 0)) C dL_law_979 980 rfl 48 2 0 rfl rfl (by decide) (by decide) (by decide) rfl ?_
  refine zv_iload C dL_law_980 982 rfl 0 rfl ?_
  refine zv_i2l C dL_law_982 983 rfl ?_
  refine zv_lcmpE C dL_law_983 984 rfl (hu.trans (congrArg Int32.toInt64 (congrArg nI (hI.vMouth hp)))) ?_
  refine zv_if_eq C dL_law_984 987 989 rfl (by decide) (fun _ => ?_) (fun q => absurd (by decide) q)
  refine zv_goto C dL_law_989 1966 (by decide) ?_
  refine zv_widen (k' := kc + 17) (n' := ns + 168) (by omega) (by omega) ?_
  refine zv_sub [2, 3, 4, 5, 6] (lv' := [(0, .ref sc), (1, .ref (q 0)), (2, .ref (mh 0)), (3, .ref o), (4, .int (nI i))]) rfl ?_
  exact K n b y r 0 d f0 f1 f2 f3 f4 f5 f6 f7 f8 f9 f10 f11 f12 f13 n1 r1 g0 g1 g2 g3 g4 g5 g6 g7 g8 g9 g10 g11 g12 g13 bp bn uo_1 m0 m1 m2 m3 m4 m5 m6 m7 m8 m9 m10 m11 m12 m13 hI
set_option maxHeartbeats 4000000 in
set_option maxRecDepth 100000 in
theorem lc_placesAbove_no {pP : Program} {l : Launch} {eE : Env} {sS : State} {mM : MethodId} {aA : Array Value} {bB : List Frame} {mT : Method} {cD : Code} {Q : State → Prop} {D : va_G} {cI cZ cJ : ClassId} {A : Nat → Prop} {sc L : Nat} {xs : Nat → Int32} {q h k mh : Nat → Nat} {o i kc ns : Nat} {n b : Nat} {y r t : Int32} {d : Nat → Nat} {f0 f1 f2 f3 f4 f5 f6 f7 f8 f9 f10 f11 f12 f13 : Nat → Int32} {n1 : Nat} {r1 : Int32} {g0 g1 g2 g3 g4 g5 g6 g7 g8 g9 g10 g11 g12 g13 bp bn : Nat → Int32} {u : Nat → Int64} {m0 m1 m2 m3 m4 m5 m6 m7 m8 m9 m10 m11 m12 m13 : Nat → Int32} (hl : l.stackTraces = false) (C : zv_C pP mM cD cL_law 9 sS aA wsL_law "RiverNamesLaw" A) (hA : A = fun q => sS.heap.size ≤ q) (hE : zx_E sS) (hX : va_X sc L xs sS sS.heap) (hsc : sc < sS.heap.size) (hi : i + 4 ≤ L) (hL : L ≤ 2048) (hkc : kc + 17 ≤ 601024) (hns : ns + 168 ≤ 7293034) (hI : LI n b r d f0 f1 f2 f3 f4 f5 f6 f7 f8 f9 f10 f11 f12 f13 bp bn m0 m1 m2 m3 m4 m5 m6 m7) (K : LK pP l eE sS mM aA bB mT cD Q D cI cZ cJ A sc q h k mh o i kc ns) (hf : isP n (xs (i + 1)) = false) : zv_V pP l eE room_1 sS mM aA bB mT cD Q 9 D vwCl A A (tyJ cI cZ cJ) ((cR cI cZ q h k (nI b) y (nI n) r f0 f1 f2 f3 f4 f5 f6 f7 f8 f9 f10 f11 f12 f13 (nI n1) r1 g0 g1 g2 g3 g4 g5 g6 g7 g8 g9 g10 g11 g12 g13 bp bn) ++ ((cM cI cZ mh t (nI n) r y (nI b) m0 m1 m2 m3 m4 m5 m6 m7 m8 m9 m10 m11 m12 m13) ++ [(o, .inl (cJ, 1, .inr (.inl u)))])) kc ns 1067 [(0, .ref sc), (1, .ref (q 0)), (2, .ref (mh 0)), (3, .ref o), (4, .int (nI i))] [] := by
  refine zv_aload_n C dL_law_1067 1068 rfl 1 rfl ?_
  refine zv_aload_n C dL_law_1068 1069 rfl 0 rfl ?_
  refine zv_iload C dL_law_1069 1071 rfl 4 rfl ?_
  refine zv_iconst (v := 1) C dL_law_1071 1072 rfl (by decide) ?_
  refine zv_iadd (v := (nI (i + 1))) C dL_law_1072 1073 rfl (nI_1 i) ?_
  refine zv_sld C hA hX hsc dL_law_1073 1074 rfl (i + 1) rfl (by omega) hL (v := (xs (i + 1))) rfl ?_
  refine zv_aload_n C dL_law_1074 1075 rfl 3 rfl ?_
  refine zv_callWE (rest := []) C hA hE (k_L_placesAbove_t l D cI cZ cJ q h k b y n r f0 f1 f2 f3 f4 f5 f6 f7 f8 f9 f10 f11 f12 f13 n1 r1 g0 g1 g2 g3 g4 g5 g6 g7 g8 g9 g10 g11 g12 g13 bp bn o u (xs (i + 1)) hI.n16 (by first | assumption | omega) hl) (vx_cwSW 3 C.1.2.2.2.2 gL_law_L_placesAbove rfl rfl rfl (by decide +kernel) ⟨Nat.le_of_ble_eq_true rfl, Nat.le_of_ble_eq_true rfl⟩) dL_law_1075 1078 rfl rfl rfl (Nat.le_of_ble_eq_true rfl) ⟨(by show kc + 1 ≤ 601024; omega), (by show ns + 6 ≤ 7293034; omega)⟩ [0, 1, 2] rfl [0, 1, 2, 3, 4, 5, 6, 7, 8, 9, 10, 11, 12, 13, 14, 15, 16, 17, 18, 19, 20, 21, 22, 23, 24, 25, 26, 27, 28, 29, 30, 31, 32, 48] rfl (by decide) (fun v hv => ?_)
  subst hv
  refine zv_go rfl rfl (st' := [.int 1]) rfl (kc' := kc + 1) rfl (ns' := ns + 6) rfl ?_
  refine zv_istore C dL_law_1078 1080 rfl [(5, .int 1), (0, .ref sc), (1, .ref (q 0)), (2, .ref (mh 0)), (3, .ref o), (4, .int (nI i))] (by decide) rfl ?_
  refine zv_aload_n C dL_law_1080 1081 rfl 3 rfl ?_
  refine zv_aload_n C dL_law_1081 1082 rfl 1 rfl ?_
  refine zv_iload C dL_law_1082 1084 rfl 5 rfl ?_
  refine zv_iconst (v := 1) C dL_law_1084 1085 rfl (by decide) ?_
  refine zv_iadd (v := (nI (i + 1))) C dL_law_1085 1086 rfl (nI_1 i) ?_
  refine zv_sld C hA hX hsc dL_law_1086 1087 rfl (i + 1) rfl (by omega) hL (v := (xs (i + 1))) rfl ?_
  refine zv_callV (rest := []) (wr := ((cR cI cZ q h k (nI b) y (nI n) r f0 f1 f2 f3 f4 f5 f6 f7 f8 f9 f10 f11 f12 f13 (nI n1) r1 g0 g1 g2 g3 g4 g5 g6 g7 g8 g9 g10 g11 g12 g13 bp bn) ++ [(o, .inl (cJ, 1, .inr (.inl u)))])) C (k_X2_placesAbove_no l D cI cZ mh t n r y b m0 m1 m2 m3 m4 m5 m6 m7 m8 m9 m10 m11 m12 m13 (xs (i + 1)) hI.n16 (by first | assumption | omega)) (cwV 1 C.1.2.2.2.2 gL_law_X2_placesAbove rfl rfl rfl (by decide +kernel) ⟨Nat.le_of_ble_eq_true rfl, Nat.le_of_ble_eq_true rfl⟩) dL_law_1087 1090 rfl (ci := 2) 0 rfl rfl rfl rfl (Nat.le_of_ble_eq_true rfl) ⟨(by show kc + 1 + 0 ≤ 601024; omega), (by show ns + 6 + 0 ≤ 7293034; omega)⟩ [0, 1] rfl [33, 34, 35, 36, 37, 38, 39, 40, 41, 42, 43, 44, 45, 46, 47] rfl (by decide) [0, 1, 2, 3, 4, 5, 6, 7, 8, 9, 10, 11, 12, 13, 14, 15, 16, 17, 18, 19, 20, 21, 22, 23, 24, 25, 26, 27, 28, 29, 30, 31, 32, 48] rfl (by decide) (by decide +kernel) (fun v w hv => ?_)
  obtain ⟨rfl, rfl⟩ := hv
  refine zv_go rfl rfl (st' := [.int 0]) rfl (kc' := kc + 1) rfl (ns' := ns + 6) rfl ?_
  refine zv_perm [0, 1, 2, 3, 4, 5, 6, 7, 8, 9, 10, 11, 12, 13, 14, 15, 16, 17, 18, 19, 20, 21, 22, 23, 24, 25, 26, 27, 28, 29, 30, 31, 32, 34, 35, 36, 37, 38, 39, 40, 41, 42, 43, 44, 45, 46, 47, 48, 33] (ws' := ((cR cI cZ q h k (nI b) y (nI n) r f0 f1 f2 f3 f4 f5 f6 f7 f8 f9 f10 f11 f12 f13 (nI n1) r1 g0 g1 g2 g3 g4 g5 g6 g7 g8 g9 g10 g11 g12 g13 bp bn) ++ ((cM cI cZ mh 1 (nI n) r y (nI b) m0 m1 m2 m3 m4 m5 m6 m7 m8 m9 m10 m11 m12 m13) ++ [(o, .inl (cJ, 1, .inr (.inl u)))]))) (by decide) rfl ?_
  refine zv_istore C dL_law_1090 1092 rfl [(6, .int 0), (5, .int 1), (0, .ref sc), (1, .ref (q 0)), (2, .ref (mh 0)), (3, .ref o), (4, .int (nI i))] (by decide) rfl ?_
  refine zv_aload_n C dL_law_1092 1093 rfl 4 rfl ?_
  refine zv_callVR (rest := []) C (k_X2_thrown l D cI cZ mh 1 n r y b m0 m1 m2 m3 m4 m5 m6 m7 m8 m9 m10 m11 m12 m13 ) (cwV 0 C.1.2.2.2.2 gL_law_X2_thrown rfl rfl rfl (by decide +kernel) ⟨Nat.le_of_ble_eq_true rfl, Nat.le_of_ble_eq_true rfl⟩) dL_law_1093 1096 rfl (ci := 2) 0 rfl rfl rfl rfl (Nat.le_of_ble_eq_true rfl) ⟨(by show kc + 1 + 0 ≤ 601024; omega), (by show ns + 6 + 0 ≤ 7293034; omega)⟩ [0, 1] rfl [33, 34, 35, 36, 37, 38, 39, 40, 41, 42, 43, 44, 45, 46, 47] rfl (by decide) (fun v hv => ?_)
  subst hv
  refine zv_go rfl rfl (st' := [.int 1]) rfl (kc' := kc + 1) rfl (ns' := ns + 6) rfl ?_
  refine zv_iload C dL_law_1096 1098 rfl 1 rfl ?_
  refine zv_icmp_eq C dL_law_1098 1101 1103 rfl (by decide) (fun _ => ?_) (fun q => absurd (by decide) q)
  refine zv_iload C dL_law_1103 1105 rfl 1 rfl ?_
  refine zv_if_ne C dL_law_1105 1108 1120 rfl (by decide) (fun _ => ?_) (fun q => absurd q (by decide))
  refine zv_goto C dL_law_1120 1966 (by decide) ?_
  refine zv_widen (k' := kc + 17) (n' := ns + 168) (by omega) (by omega) ?_
  refine zv_sub [2, 3, 4, 5, 6] (lv' := [(0, .ref sc), (1, .ref (q 0)), (2, .ref (mh 0)), (3, .ref o), (4, .int (nI i))]) rfl ?_
  exact K n b y r 1 d f0 f1 f2 f3 f4 f5 f6 f7 f8 f9 f10 f11 f12 f13 n1 r1 g0 g1 g2 g3 g4 g5 g6 g7 g8 g9 g10 g11 g12 g13 bp bn u m0 m1 m2 m3 m4 m5 m6 m7 m8 m9 m10 m11 m12 m13 hI
set_option maxHeartbeats 4000000 in
set_option maxRecDepth 100000 in
theorem lc_placesAbove_ok {pP : Program} {l : Launch} {eE : Env} {sS : State} {mM : MethodId} {aA : Array Value} {bB : List Frame} {mT : Method} {cD : Code} {Q : State → Prop} {D : va_G} {cI cZ cJ : ClassId} {A : Nat → Prop} {sc L : Nat} {xs : Nat → Int32} {q h k mh : Nat → Nat} {o i kc ns : Nat} {n b : Nat} {y r t : Int32} {d : Nat → Nat} {f0 f1 f2 f3 f4 f5 f6 f7 f8 f9 f10 f11 f12 f13 : Nat → Int32} {n1 : Nat} {r1 : Int32} {g0 g1 g2 g3 g4 g5 g6 g7 g8 g9 g10 g11 g12 g13 bp bn : Nat → Int32} {u : Nat → Int64} {m0 m1 m2 m3 m4 m5 m6 m7 m8 m9 m10 m11 m12 m13 : Nat → Int32} (hl : l.stackTraces = false) (C : zv_C pP mM cD cL_law 9 sS aA wsL_law "RiverNamesLaw" A) (hA : A = fun q => sS.heap.size ≤ q) (hE : zx_E sS) (hX : va_X sc L xs sS sS.heap) (hsc : sc < sS.heap.size) (hi : i + 4 ≤ L) (hL : L ≤ 2048) (hkc : kc + 17 ≤ 601024) (hns : ns + 168 ≤ 7293034) (hI : LI n b r d f0 f1 f2 f3 f4 f5 f6 f7 f8 f9 f10 f11 f12 f13 bp bn m0 m1 m2 m3 m4 m5 m6 m7) (K : LK pP l eE sS mM aA bB mT cD Q D cI cZ cJ A sc q h k mh o i kc ns) (p : Nat) (hp : p < n) (e1 : xs (i + 1) = nI p) : zv_V pP l eE room_1 sS mM aA bB mT cD Q 9 D vwCl A A (tyJ cI cZ cJ) ((cR cI cZ q h k (nI b) y (nI n) r f0 f1 f2 f3 f4 f5 f6 f7 f8 f9 f10 f11 f12 f13 (nI n1) r1 g0 g1 g2 g3 g4 g5 g6 g7 g8 g9 g10 g11 g12 g13 bp bn) ++ ((cM cI cZ mh t (nI n) r y (nI b) m0 m1 m2 m3 m4 m5 m6 m7 m8 m9 m10 m11 m12 m13) ++ [(o, .inl (cJ, 1, .inr (.inl u)))])) kc ns 1067 [(0, .ref sc), (1, .ref (q 0)), (2, .ref (mh 0)), (3, .ref o), (4, .int (nI i))] [] := by
  refine zv_aload_n C dL_law_1067 1068 rfl 1 rfl ?_
  refine zv_aload_n C dL_law_1068 1069 rfl 0 rfl ?_
  refine zv_iload C dL_law_1069 1071 rfl 4 rfl ?_
  refine zv_iconst (v := 1) C dL_law_1071 1072 rfl (by decide) ?_
  refine zv_iadd (v := (nI (i + 1))) C dL_law_1072 1073 rfl (nI_1 i) ?_
  refine zv_sld C hA hX hsc dL_law_1073 1074 rfl (i + 1) rfl (by omega) hL (v := (nI p)) e1 ?_
  refine zv_aload_n C dL_law_1074 1075 rfl 3 rfl ?_
  refine zv_callW (rest := []) (wr := (cM cI cZ mh t (nI n) r y (nI b) m0 m1 m2 m3 m4 m5 m6 m7 m8 m9 m10 m11 m12 m13)) C (k_L_placesAbove_ok l D cI cZ cJ q h k b y n r f0 f1 f2 f3 f4 f5 f6 f7 f8 f9 f10 f11 f12 f13 n1 r1 g0 g1 g2 g3 g4 g5 g6 g7 g8 g9 g10 g11 g12 g13 bp bn o u p hI.n16 (by first | assumption | omega) hI.vw) (vx_cwSW 3 C.1.2.2.2.2 gL_law_L_placesAbove rfl rfl rfl (by decide +kernel) ⟨Nat.le_of_ble_eq_true rfl, Nat.le_of_ble_eq_true rfl⟩) dL_law_1075 1078 rfl rfl rfl (Nat.le_of_ble_eq_true rfl) ⟨(by show kc + 0 ≤ 601024; omega), (by show ns + 0 ≤ 7293034; omega)⟩ [0, 1, 2] rfl [0, 1, 2, 3, 4, 5, 6, 7, 8, 9, 10, 11, 12, 13, 14, 15, 16, 17, 18, 19, 20, 21, 22, 23, 24, 25, 26, 27, 28, 29, 30, 31, 32, 48] rfl (by decide) [33, 34, 35, 36, 37, 38, 39, 40, 41, 42, 43, 44, 45, 46, 47] rfl (by decide) (by decide +kernel) (fun v w hv => ?_)
  obtain ⟨uo_1, rfl, rfl, hu⟩ := hv
  refine zv_go rfl rfl (st' := [.int 0]) rfl (kc' := kc) rfl (ns' := ns) rfl ?_
  refine zv_perm [15, 16, 17, 18, 19, 20, 21, 22, 23, 24, 25, 26, 27, 28, 29, 30, 31, 32, 33, 34, 35, 36, 37, 38, 39, 40, 41, 42, 43, 44, 45, 46, 47, 0, 1, 2, 3, 4, 5, 6, 7, 8, 9, 10, 11, 12, 13, 14, 48] (ws' := ((cR cI cZ q h k (nI b) y (nI n) r f0 f1 f2 f3 f4 f5 f6 f7 f8 f9 f10 f11 f12 f13 (nI n1) r1 g0 g1 g2 g3 g4 g5 g6 g7 g8 g9 g10 g11 g12 g13 bp bn) ++ ((cM cI cZ mh t (nI n) r y (nI b) m0 m1 m2 m3 m4 m5 m6 m7 m8 m9 m10 m11 m12 m13) ++ [(o, .inl (cJ, 1, .inr (.inl uo_1)))]))) (by decide) rfl ?_
  refine zv_istore C dL_law_1078 1080 rfl [(5, .int 0), (0, .ref sc), (1, .ref (q 0)), (2, .ref (mh 0)), (3, .ref o), (4, .int (nI i))] (by decide) rfl ?_
  refine zv_aload_n C dL_law_1080 1081 rfl 3 rfl ?_
  refine zv_aload_n C dL_law_1081 1082 rfl 1 rfl ?_
  refine zv_iload C dL_law_1082 1084 rfl 5 rfl ?_
  refine zv_iconst (v := 1) C dL_law_1084 1085 rfl (by decide) ?_
  refine zv_iadd (v := (nI (i + 1))) C dL_law_1085 1086 rfl (nI_1 i) ?_
  refine zv_sld C hA hX hsc dL_law_1086 1087 rfl (i + 1) rfl (by omega) hL (v := (nI p)) e1 ?_
  refine zv_callV (rest := []) (wr := ((cR cI cZ q h k (nI b) y (nI n) r f0 f1 f2 f3 f4 f5 f6 f7 f8 f9 f10 f11 f12 f13 (nI n1) r1 g0 g1 g2 g3 g4 g5 g6 g7 g8 g9 g10 g11 g12 g13 bp bn) ++ [(o, .inl (cJ, 1, .inr (.inl uo_1)))])) C (k_X2_placesAbove_ok l D cI cZ mh t n r y b m0 m1 m2 m3 m4 m5 m6 m7 m8 m9 m10 m11 m12 m13 p f1 d hI.n16 hI.depM (by first | assumption | omega)) (cwV 1 C.1.2.2.2.2 gL_law_X2_placesAbove rfl rfl rfl (by decide +kernel) ⟨Nat.le_of_ble_eq_true rfl, Nat.le_of_ble_eq_true rfl⟩) dL_law_1087 1090 rfl (ci := 2) 0 rfl rfl rfl rfl (Nat.le_of_ble_eq_true rfl) ⟨(by show kc + 0 ≤ 601024; omega), (by show ns + 0 ≤ 7293034; omega)⟩ [0, 1] rfl [33, 34, 35, 36, 37, 38, 39, 40, 41, 42, 43, 44, 45, 46, 47] rfl (by decide) [0, 1, 2, 3, 4, 5, 6, 7, 8, 9, 10, 11, 12, 13, 14, 15, 16, 17, 18, 19, 20, 21, 22, 23, 24, 25, 26, 27, 28, 29, 30, 31, 32, 48] rfl (by decide) (by decide +kernel) (fun v w hv => ?_)
  obtain ⟨rfl, rfl⟩ := hv
  refine zv_go rfl rfl (st' := [.int (nI (ao n m0 p))]) rfl (kc' := kc) rfl (ns' := ns) rfl ?_
  refine zv_perm [0, 1, 2, 3, 4, 5, 6, 7, 8, 9, 10, 11, 12, 13, 14, 15, 16, 17, 18, 19, 20, 21, 22, 23, 24, 25, 26, 27, 28, 29, 30, 31, 32, 34, 35, 36, 37, 38, 39, 40, 41, 42, 43, 44, 45, 46, 47, 48, 33] (ws' := ((cR cI cZ q h k (nI b) y (nI n) r f0 f1 f2 f3 f4 f5 f6 f7 f8 f9 f10 f11 f12 f13 (nI n1) r1 g0 g1 g2 g3 g4 g5 g6 g7 g8 g9 g10 g11 g12 g13 bp bn) ++ ((cM cI cZ mh 0 (nI n) r y (nI b) m0 m1 m2 m3 m4 m5 m6 m7 m8 m9 m10 m11 m12 m13) ++ [(o, .inl (cJ, 1, .inr (.inl uo_1)))]))) (by decide) rfl ?_
  refine zv_istore C dL_law_1090 1092 rfl [(6, .int (nI (ao n m0 p))), (5, .int 0), (0, .ref sc), (1, .ref (q 0)), (2, .ref (mh 0)), (3, .ref o), (4, .int (nI i))] (by decide) rfl ?_
  refine zv_aload_n C dL_law_1092 1093 rfl 4 rfl ?_
  refine zv_callVR (rest := []) C (k_X2_thrown l D cI cZ mh 0 n r y b m0 m1 m2 m3 m4 m5 m6 m7 m8 m9 m10 m11 m12 m13 ) (cwV 0 C.1.2.2.2.2 gL_law_X2_thrown rfl rfl rfl (by decide +kernel) ⟨Nat.le_of_ble_eq_true rfl, Nat.le_of_ble_eq_true rfl⟩) dL_law_1093 1096 rfl (ci := 2) 0 rfl rfl rfl rfl (Nat.le_of_ble_eq_true rfl) ⟨(by show kc + 0 ≤ 601024; omega), (by show ns + 0 ≤ 7293034; omega)⟩ [0, 1] rfl [33, 34, 35, 36, 37, 38, 39, 40, 41, 42, 43, 44, 45, 46, 47] rfl (by decide) (fun v hv => ?_)
  subst hv
  refine zv_go rfl rfl (st' := [.int 0]) rfl (kc' := kc) rfl (ns' := ns) rfl ?_
  refine zv_iload C dL_law_1096 1098 rfl 1 rfl ?_
  refine zv_icmp_eq C dL_law_1098 1101 1103 rfl (by decide) (fun _ => ?_) (fun q => absurd (by decide) q)
  refine zv_iload C dL_law_1103 1105 rfl 1 rfl ?_
  refine zv_if_ne C dL_law_1105 1108 1120 rfl (by decide) (fun q => absurd (by decide) q) (fun _ => ?_)
  refine zv_aload_n C dL_law_1108 1109 rfl 5 rfl ?_
  refine zv_iconst (v := 0) C dL_law_1109 1110 rfl (by decide) ?_
  refine zv_lald (v := (uo_1 0)) C dL_law_1110 1111 rfl 48 2 0 rfl rfl (by decide) (by decide) (by decide) rfl ?_
  refine zv_iload C dL_law_1111 1113 rfl 0 rfl ?_
  refine zv_i2l C dL_law_1113 1114 rfl ?_
  refine zv_lcmpE C dL_law_1114 1115 rfl (hu.trans (congrArg Int32.toInt64 (congrArg nI (hI.vAo p)))) ?_
  refine zv_if_eq C dL_law_1115 1118 1120 rfl (by decide) (fun _ => ?_) (fun q => absurd (by decide) q)
  refine zv_goto C dL_law_1120 1966 (by decide) ?_
  refine zv_widen (k' := kc + 17) (n' := ns + 168) (by omega) (by omega) ?_
  refine zv_sub [2, 3, 4, 5, 6] (lv' := [(0, .ref sc), (1, .ref (q 0)), (2, .ref (mh 0)), (3, .ref o), (4, .int (nI i))]) rfl ?_
  exact K n b y r 0 d f0 f1 f2 f3 f4 f5 f6 f7 f8 f9 f10 f11 f12 f13 n1 r1 g0 g1 g2 g3 g4 g5 g6 g7 g8 g9 g10 g11 g12 g13 bp bn uo_1 m0 m1 m2 m3 m4 m5 m6 m7 m8 m9 m10 m11 m12 m13 hI
set_option maxHeartbeats 4000000 in
set_option maxRecDepth 100000 in
theorem lc_nameAt_no {pP : Program} {l : Launch} {eE : Env} {sS : State} {mM : MethodId} {aA : Array Value} {bB : List Frame} {mT : Method} {cD : Code} {Q : State → Prop} {D : va_G} {cI cZ cJ : ClassId} {A : Nat → Prop} {sc L : Nat} {xs : Nat → Int32} {q h k mh : Nat → Nat} {o i kc ns : Nat} {n b : Nat} {y r t : Int32} {d : Nat → Nat} {f0 f1 f2 f3 f4 f5 f6 f7 f8 f9 f10 f11 f12 f13 : Nat → Int32} {n1 : Nat} {r1 : Int32} {g0 g1 g2 g3 g4 g5 g6 g7 g8 g9 g10 g11 g12 g13 bp bn : Nat → Int32} {u : Nat → Int64} {m0 m1 m2 m3 m4 m5 m6 m7 m8 m9 m10 m11 m12 m13 : Nat → Int32} (hl : l.stackTraces = false) (C : zv_C pP mM cD cL_law 9 sS aA wsL_law "RiverNamesLaw" A) (hA : A = fun q => sS.heap.size ≤ q) (hE : zx_E sS) (hX : va_X sc L xs sS sS.heap) (hsc : sc < sS.heap.size) (hi : i + 4 ≤ L) (hL : L ≤ 2048) (hkc : kc + 17 ≤ 601024) (hns : ns + 168 ≤ 7293034) (hI : LI n b r d f0 f1 f2 f3 f4 f5 f6 f7 f8 f9 f10 f11 f12 f13 bp bn m0 m1 m2 m3 m4 m5 m6 m7) (K : LK pP l eE sS mM aA bB mT cD Q D cI cZ cJ A sc q h k mh o i kc ns) (hf : isP n (xs (i + 1)) = false) : zv_V pP l eE room_1 sS mM aA bB mT cD Q 9 D vwCl A A (tyJ cI cZ cJ) ((cR cI cZ q h k (nI b) y (nI n) r f0 f1 f2 f3 f4 f5 f6 f7 f8 f9 f10 f11 f12 f13 (nI n1) r1 g0 g1 g2 g3 g4 g5 g6 g7 g8 g9 g10 g11 g12 g13 bp bn) ++ ((cM cI cZ mh t (nI n) r y (nI b) m0 m1 m2 m3 m4 m5 m6 m7 m8 m9 m10 m11 m12 m13) ++ [(o, .inl (cJ, 1, .inr (.inl u)))])) kc ns 1191 [(0, .ref sc), (1, .ref (q 0)), (2, .ref (mh 0)), (3, .ref o), (4, .int (nI i))] [] := by
  refine zv_aload_n C dL_law_1191 1192 rfl 1 rfl ?_
  refine zv_aload_n C dL_law_1192 1193 rfl 0 rfl ?_
  refine zv_iload C dL_law_1193 1195 rfl 4 rfl ?_
  refine zv_iconst (v := 1) C dL_law_1195 1196 rfl (by decide) ?_
  refine zv_iadd (v := (nI (i + 1))) C dL_law_1196 1197 rfl (nI_1 i) ?_
  refine zv_sld C hA hX hsc dL_law_1197 1198 rfl (i + 1) rfl (by omega) hL (v := (xs (i + 1))) rfl ?_
  refine zv_aload_n C dL_law_1198 1199 rfl 3 rfl ?_
  refine zv_callWE (rest := []) C hA hE (k_L_nameAt_t l D cI cZ cJ q h k b y n r f0 f1 f2 f3 f4 f5 f6 f7 f8 f9 f10 f11 f12 f13 n1 r1 g0 g1 g2 g3 g4 g5 g6 g7 g8 g9 g10 g11 g12 g13 bp bn o u (xs (i + 1)) hI.n16 (by first | assumption | omega) hl) (vx_cwSW 3 C.1.2.2.2.2 gL_law_L_nameAt rfl rfl rfl (by decide +kernel) ⟨Nat.le_of_ble_eq_true rfl, Nat.le_of_ble_eq_true rfl⟩) dL_law_1199 1202 rfl rfl rfl (Nat.le_of_ble_eq_true rfl) ⟨(by show kc + 1 ≤ 601024; omega), (by show ns + 6 ≤ 7293034; omega)⟩ [0, 1, 2] rfl [0, 1, 2, 3, 4, 5, 6, 7, 8, 9, 10, 11, 12, 13, 14, 15, 16, 17, 18, 19, 20, 21, 22, 23, 24, 25, 26, 27, 28, 29, 30, 31, 32, 48] rfl (by decide) (fun v hv => ?_)
  subst hv
  refine zv_go rfl rfl (st' := [.int 1]) rfl (kc' := kc + 1) rfl (ns' := ns + 6) rfl ?_
  refine zv_istore C dL_law_1202 1204 rfl [(5, .int 1), (0, .ref sc), (1, .ref (q 0)), (2, .ref (mh 0)), (3, .ref o), (4, .int (nI i))] (by decide) rfl ?_
  refine zv_aload_n C dL_law_1204 1205 rfl 3 rfl ?_
  refine zv_aload_n C dL_law_1205 1206 rfl 1 rfl ?_
  refine zv_iload C dL_law_1206 1208 rfl 5 rfl ?_
  refine zv_iconst (v := 1) C dL_law_1208 1209 rfl (by decide) ?_
  refine zv_iadd (v := (nI (i + 1))) C dL_law_1209 1210 rfl (nI_1 i) ?_
  refine zv_sld C hA hX hsc dL_law_1210 1211 rfl (i + 1) rfl (by omega) hL (v := (xs (i + 1))) rfl ?_
  refine zv_callV (rest := []) (wr := ((cR cI cZ q h k (nI b) y (nI n) r f0 f1 f2 f3 f4 f5 f6 f7 f8 f9 f10 f11 f12 f13 (nI n1) r1 g0 g1 g2 g3 g4 g5 g6 g7 g8 g9 g10 g11 g12 g13 bp bn) ++ [(o, .inl (cJ, 1, .inr (.inl u)))])) C (k_X2_nameAt_no l D cI cZ mh t n r y b m0 m1 m2 m3 m4 m5 m6 m7 m8 m9 m10 m11 m12 m13 (xs (i + 1)) hI.n16 (by first | assumption | omega)) (cwV 1 C.1.2.2.2.2 gL_law_X2_nameAt rfl rfl rfl (by decide +kernel) ⟨Nat.le_of_ble_eq_true rfl, Nat.le_of_ble_eq_true rfl⟩) dL_law_1211 1214 rfl (ci := 2) 0 rfl rfl rfl rfl (Nat.le_of_ble_eq_true rfl) ⟨(by show kc + 1 + 0 ≤ 601024; omega), (by show ns + 6 + 0 ≤ 7293034; omega)⟩ [0, 1] rfl [33, 34, 35, 36, 37, 38, 39, 40, 41, 42, 43, 44, 45, 46, 47] rfl (by decide) [0, 1, 2, 3, 4, 5, 6, 7, 8, 9, 10, 11, 12, 13, 14, 15, 16, 17, 18, 19, 20, 21, 22, 23, 24, 25, 26, 27, 28, 29, 30, 31, 32, 48] rfl (by decide) (by decide +kernel) (fun v w hv => ?_)
  obtain ⟨rfl, rfl⟩ := hv
  refine zv_go rfl rfl (st' := [.int 0]) rfl (kc' := kc + 1) rfl (ns' := ns + 6) rfl ?_
  refine zv_perm [0, 1, 2, 3, 4, 5, 6, 7, 8, 9, 10, 11, 12, 13, 14, 15, 16, 17, 18, 19, 20, 21, 22, 23, 24, 25, 26, 27, 28, 29, 30, 31, 32, 34, 35, 36, 37, 38, 39, 40, 41, 42, 43, 44, 45, 46, 47, 48, 33] (ws' := ((cR cI cZ q h k (nI b) y (nI n) r f0 f1 f2 f3 f4 f5 f6 f7 f8 f9 f10 f11 f12 f13 (nI n1) r1 g0 g1 g2 g3 g4 g5 g6 g7 g8 g9 g10 g11 g12 g13 bp bn) ++ ((cM cI cZ mh 1 (nI n) r y (nI b) m0 m1 m2 m3 m4 m5 m6 m7 m8 m9 m10 m11 m12 m13) ++ [(o, .inl (cJ, 1, .inr (.inl u)))]))) (by decide) rfl ?_
  refine zv_istore C dL_law_1214 1216 rfl [(6, .int 0), (5, .int 1), (0, .ref sc), (1, .ref (q 0)), (2, .ref (mh 0)), (3, .ref o), (4, .int (nI i))] (by decide) rfl ?_
  refine zv_aload_n C dL_law_1216 1217 rfl 4 rfl ?_
  refine zv_callVR (rest := []) C (k_X2_thrown l D cI cZ mh 1 n r y b m0 m1 m2 m3 m4 m5 m6 m7 m8 m9 m10 m11 m12 m13 ) (cwV 0 C.1.2.2.2.2 gL_law_X2_thrown rfl rfl rfl (by decide +kernel) ⟨Nat.le_of_ble_eq_true rfl, Nat.le_of_ble_eq_true rfl⟩) dL_law_1217 1220 rfl (ci := 2) 0 rfl rfl rfl rfl (Nat.le_of_ble_eq_true rfl) ⟨(by show kc + 1 + 0 ≤ 601024; omega), (by show ns + 6 + 0 ≤ 7293034; omega)⟩ [0, 1] rfl [33, 34, 35, 36, 37, 38, 39, 40, 41, 42, 43, 44, 45, 46, 47] rfl (by decide) (fun v hv => ?_)
  subst hv
  refine zv_go rfl rfl (st' := [.int 1]) rfl (kc' := kc + 1) rfl (ns' := ns + 6) rfl ?_
  refine zv_iload C dL_law_1220 1222 rfl 1 rfl ?_
  refine zv_icmp_eq C dL_law_1222 1225 1227 rfl (by decide) (fun _ => ?_) (fun q => absurd (by decide) q)
  refine zv_iload C dL_law_1227 1229 rfl 1 rfl ?_
  refine zv_if_ne C dL_law_1229 1232 1244 rfl (by decide) (fun _ => ?_) (fun q => absurd q (by decide))
  refine zv_goto C dL_law_1244 1966 (by decide) ?_
  refine zv_widen (k' := kc + 17) (n' := ns + 168) (by omega) (by omega) ?_
  refine zv_sub [2, 3, 4, 5, 6] (lv' := [(0, .ref sc), (1, .ref (q 0)), (2, .ref (mh 0)), (3, .ref o), (4, .int (nI i))]) rfl ?_
  exact K n b y r 1 d f0 f1 f2 f3 f4 f5 f6 f7 f8 f9 f10 f11 f12 f13 n1 r1 g0 g1 g2 g3 g4 g5 g6 g7 g8 g9 g10 g11 g12 g13 bp bn u m0 m1 m2 m3 m4 m5 m6 m7 m8 m9 m10 m11 m12 m13 hI
set_option maxHeartbeats 4000000 in
set_option maxRecDepth 100000 in
theorem lc_nameAt_ok {pP : Program} {l : Launch} {eE : Env} {sS : State} {mM : MethodId} {aA : Array Value} {bB : List Frame} {mT : Method} {cD : Code} {Q : State → Prop} {D : va_G} {cI cZ cJ : ClassId} {A : Nat → Prop} {sc L : Nat} {xs : Nat → Int32} {q h k mh : Nat → Nat} {o i kc ns : Nat} {n b : Nat} {y r t : Int32} {d : Nat → Nat} {f0 f1 f2 f3 f4 f5 f6 f7 f8 f9 f10 f11 f12 f13 : Nat → Int32} {n1 : Nat} {r1 : Int32} {g0 g1 g2 g3 g4 g5 g6 g7 g8 g9 g10 g11 g12 g13 bp bn : Nat → Int32} {u : Nat → Int64} {m0 m1 m2 m3 m4 m5 m6 m7 m8 m9 m10 m11 m12 m13 : Nat → Int32} (hl : l.stackTraces = false) (C : zv_C pP mM cD cL_law 9 sS aA wsL_law "RiverNamesLaw" A) (hA : A = fun q => sS.heap.size ≤ q) (hE : zx_E sS) (hX : va_X sc L xs sS sS.heap) (hsc : sc < sS.heap.size) (hi : i + 4 ≤ L) (hL : L ≤ 2048) (hkc : kc + 17 ≤ 601024) (hns : ns + 168 ≤ 7293034) (hI : LI n b r d f0 f1 f2 f3 f4 f5 f6 f7 f8 f9 f10 f11 f12 f13 bp bn m0 m1 m2 m3 m4 m5 m6 m7) (K : LK pP l eE sS mM aA bB mT cD Q D cI cZ cJ A sc q h k mh o i kc ns) (p : Nat) (hp : p < n) (e1 : xs (i + 1) = nI p) : zv_V pP l eE room_1 sS mM aA bB mT cD Q 9 D vwCl A A (tyJ cI cZ cJ) ((cR cI cZ q h k (nI b) y (nI n) r f0 f1 f2 f3 f4 f5 f6 f7 f8 f9 f10 f11 f12 f13 (nI n1) r1 g0 g1 g2 g3 g4 g5 g6 g7 g8 g9 g10 g11 g12 g13 bp bn) ++ ((cM cI cZ mh t (nI n) r y (nI b) m0 m1 m2 m3 m4 m5 m6 m7 m8 m9 m10 m11 m12 m13) ++ [(o, .inl (cJ, 1, .inr (.inl u)))])) kc ns 1191 [(0, .ref sc), (1, .ref (q 0)), (2, .ref (mh 0)), (3, .ref o), (4, .int (nI i))] [] := by
  refine zv_aload_n C dL_law_1191 1192 rfl 1 rfl ?_
  refine zv_aload_n C dL_law_1192 1193 rfl 0 rfl ?_
  refine zv_iload C dL_law_1193 1195 rfl 4 rfl ?_
  refine zv_iconst (v := 1) C dL_law_1195 1196 rfl (by decide) ?_
  refine zv_iadd (v := (nI (i + 1))) C dL_law_1196 1197 rfl (nI_1 i) ?_
  refine zv_sld C hA hX hsc dL_law_1197 1198 rfl (i + 1) rfl (by omega) hL (v := (nI p)) e1 ?_
  refine zv_aload_n C dL_law_1198 1199 rfl 3 rfl ?_
  refine zv_callW (rest := []) (wr := (cM cI cZ mh t (nI n) r y (nI b) m0 m1 m2 m3 m4 m5 m6 m7 m8 m9 m10 m11 m12 m13)) C (k_L_nameAt_ok l D cI cZ cJ q h k b y n r f0 f1 f2 f3 f4 f5 f6 f7 f8 f9 f10 f11 f12 f13 n1 r1 g0 g1 g2 g3 g4 g5 g6 g7 g8 g9 g10 g11 g12 g13 bp bn o u p hI.n16 (by first | assumption | omega)) (vx_cwSW 3 C.1.2.2.2.2 gL_law_L_nameAt rfl rfl rfl (by decide +kernel) ⟨Nat.le_of_ble_eq_true rfl, Nat.le_of_ble_eq_true rfl⟩) dL_law_1199 1202 rfl rfl rfl (Nat.le_of_ble_eq_true rfl) ⟨(by show kc + 0 ≤ 601024; omega), (by show ns + 0 ≤ 7293034; omega)⟩ [0, 1, 2] rfl [0, 1, 2, 3, 4, 5, 6, 7, 8, 9, 10, 11, 12, 13, 14, 15, 16, 17, 18, 19, 20, 21, 22, 23, 24, 25, 26, 27, 28, 29, 30, 31, 32, 48] rfl (by decide) [33, 34, 35, 36, 37, 38, 39, 40, 41, 42, 43, 44, 45, 46, 47] rfl (by decide) (by decide +kernel) (fun v w hv => ?_)
  obtain ⟨uo_1, rfl, rfl, hu⟩ := hv
  refine zv_go rfl rfl (st' := [.int 0]) rfl (kc' := kc) rfl (ns' := ns) rfl ?_
  refine zv_perm [15, 16, 17, 18, 19, 20, 21, 22, 23, 24, 25, 26, 27, 28, 29, 30, 31, 32, 33, 34, 35, 36, 37, 38, 39, 40, 41, 42, 43, 44, 45, 46, 47, 0, 1, 2, 3, 4, 5, 6, 7, 8, 9, 10, 11, 12, 13, 14, 48] (ws' := ((cR cI cZ q h k (nI b) y (nI n) r f0 f1 f2 f3 f4 f5 f6 f7 f8 f9 f10 f11 f12 f13 (nI n1) r1 g0 g1 g2 g3 g4 g5 g6 g7 g8 g9 g10 g11 g12 g13 bp bn) ++ ((cM cI cZ mh t (nI n) r y (nI b) m0 m1 m2 m3 m4 m5 m6 m7 m8 m9 m10 m11 m12 m13) ++ [(o, .inl (cJ, 1, .inr (.inl uo_1)))]))) (by decide) rfl ?_
  refine zv_istore C dL_law_1202 1204 rfl [(5, .int 0), (0, .ref sc), (1, .ref (q 0)), (2, .ref (mh 0)), (3, .ref o), (4, .int (nI i))] (by decide) rfl ?_
  refine zv_aload_n C dL_law_1204 1205 rfl 3 rfl ?_
  refine zv_aload_n C dL_law_1205 1206 rfl 1 rfl ?_
  refine zv_iload C dL_law_1206 1208 rfl 5 rfl ?_
  refine zv_iconst (v := 1) C dL_law_1208 1209 rfl (by decide) ?_
  refine zv_iadd (v := (nI (i + 1))) C dL_law_1209 1210 rfl (nI_1 i) ?_
  refine zv_sld C hA hX hsc dL_law_1210 1211 rfl (i + 1) rfl (by omega) hL (v := (nI p)) e1 ?_
  refine zv_callV (rest := []) (wr := ((cR cI cZ q h k (nI b) y (nI n) r f0 f1 f2 f3 f4 f5 f6 f7 f8 f9 f10 f11 f12 f13 (nI n1) r1 g0 g1 g2 g3 g4 g5 g6 g7 g8 g9 g10 g11 g12 g13 bp bn) ++ [(o, .inl (cJ, 1, .inr (.inl uo_1)))])) C (k_X2_nameAt_ok l D cI cZ mh t n r y b m0 m1 m2 m3 m4 m5 m6 m7 m8 m9 m10 m11 m12 m13 p f1 d hI.n16 hI.depM (by first | assumption | omega)) (cwV 1 C.1.2.2.2.2 gL_law_X2_nameAt rfl rfl rfl (by decide +kernel) ⟨Nat.le_of_ble_eq_true rfl, Nat.le_of_ble_eq_true rfl⟩) dL_law_1211 1214 rfl (ci := 2) 0 rfl rfl rfl rfl (Nat.le_of_ble_eq_true rfl) ⟨(by show kc + 0 ≤ 601024; omega), (by show ns + 0 ≤ 7293034; omega)⟩ [0, 1] rfl [33, 34, 35, 36, 37, 38, 39, 40, 41, 42, 43, 44, 45, 46, 47] rfl (by decide) [0, 1, 2, 3, 4, 5, 6, 7, 8, 9, 10, 11, 12, 13, 14, 15, 16, 17, 18, 19, 20, 21, 22, 23, 24, 25, 26, 27, 28, 29, 30, 31, 32, 48] rfl (by decide) (by decide +kernel) (fun v w hv => ?_)
  obtain ⟨eg8_2, eg9_2, eg10_2, eg11_2, rfl, rfl⟩ := hv
  refine zv_go rfl rfl (st' := [.int ((sol n m0 m1 m2 m3 m5 r).2.2 p)]) rfl (kc' := kc) rfl (ns' := ns) rfl ?_
  refine zv_perm [0, 1, 2, 3, 4, 5, 6, 7, 8, 9, 10, 11, 12, 13, 14, 15, 16, 17, 18, 19, 20, 21, 22, 23, 24, 25, 26, 27, 28, 29, 30, 31, 32, 34, 35, 36, 37, 38, 39, 40, 41, 42, 43, 44, 45, 46, 47, 48, 33] (ws' := ((cR cI cZ q h k (nI b) y (nI n) r f0 f1 f2 f3 f4 f5 f6 f7 f8 f9 f10 f11 f12 f13 (nI n1) r1 g0 g1 g2 g3 g4 g5 g6 g7 g8 g9 g10 g11 g12 g13 bp bn) ++ ((cM cI cZ mh 0 (nI n) r y (nI b) m0 m1 m2 m3 m4 m5 m6 m7 eg8_2 eg9_2 eg10_2 eg11_2 m12 m13) ++ [(o, .inl (cJ, 1, .inr (.inl uo_1)))]))) (by decide) rfl ?_
  refine zv_istore C dL_law_1214 1216 rfl [(6, .int ((sol n m0 m1 m2 m3 m5 r).2.2 p)), (5, .int 0), (0, .ref sc), (1, .ref (q 0)), (2, .ref (mh 0)), (3, .ref o), (4, .int (nI i))] (by decide) rfl ?_
  refine zv_aload_n C dL_law_1216 1217 rfl 4 rfl ?_
  refine zv_callVR (rest := []) C (k_X2_thrown l D cI cZ mh 0 n r y b m0 m1 m2 m3 m4 m5 m6 m7 eg8_2 eg9_2 eg10_2 eg11_2 m12 m13 ) (cwV 0 C.1.2.2.2.2 gL_law_X2_thrown rfl rfl rfl (by decide +kernel) ⟨Nat.le_of_ble_eq_true rfl, Nat.le_of_ble_eq_true rfl⟩) dL_law_1217 1220 rfl (ci := 2) 0 rfl rfl rfl rfl (Nat.le_of_ble_eq_true rfl) ⟨(by show kc + 0 ≤ 601024; omega), (by show ns + 0 ≤ 7293034; omega)⟩ [0, 1] rfl [33, 34, 35, 36, 37, 38, 39, 40, 41, 42, 43, 44, 45, 46, 47] rfl (by decide) (fun v hv => ?_)
  subst hv
  refine zv_go rfl rfl (st' := [.int 0]) rfl (kc' := kc) rfl (ns' := ns) rfl ?_
  refine zv_iload C dL_law_1220 1222 rfl 1 rfl ?_
  refine zv_icmp_eq C dL_law_1222 1225 1227 rfl (by decide) (fun _ => ?_) (fun q => absurd (by decide) q)
  refine zv_iload C dL_law_1227 1229 rfl 1 rfl ?_
  refine zv_if_ne C dL_law_1229 1232 1244 rfl (by decide) (fun q => absurd (by decide) q) (fun _ => ?_)
  refine zv_aload_n C dL_law_1232 1233 rfl 5 rfl ?_
  refine zv_iconst (v := 0) C dL_law_1233 1234 rfl (by decide) ?_
  refine zv_lald (v := (uo_1 0)) C dL_law_1234 1235 rfl 48 2 0 rfl rfl (by decide) (by decide) (by decide) rfl ?_
  refine zv_iload C dL_law_1235 1237 rfl 0 rfl ?_
  refine zv_i2l C dL_law_1237 1238 rfl ?_
  refine zv_lcmpE C dL_law_1238 1239 rfl (hu.trans (congrArg Int32.toInt64 (hI.ms p hp).2.2)) ?_
  refine zv_if_eq C dL_law_1239 1242 1244 rfl (by decide) (fun _ => ?_) (fun q => absurd (by decide) q)
  refine zv_goto C dL_law_1244 1966 (by decide) ?_
  refine zv_widen (k' := kc + 17) (n' := ns + 168) (by omega) (by omega) ?_
  refine zv_sub [2, 3, 4, 5, 6] (lv' := [(0, .ref sc), (1, .ref (q 0)), (2, .ref (mh 0)), (3, .ref o), (4, .int (nI i))]) rfl ?_
  exact K n b y r 0 d f0 f1 f2 f3 f4 f5 f6 f7 f8 f9 f10 f11 f12 f13 n1 r1 g0 g1 g2 g3 g4 g5 g6 g7 g8 g9 g10 g11 g12 g13 bp bn uo_1 m0 m1 m2 m3 m4 m5 m6 m7 eg8_2 eg9_2 eg10_2 eg11_2 m12 m13 hI
set_option maxHeartbeats 4000000 in
set_option maxRecDepth 100000 in
theorem lc_arguing_no {pP : Program} {l : Launch} {eE : Env} {sS : State} {mM : MethodId} {aA : Array Value} {bB : List Frame} {mT : Method} {cD : Code} {Q : State → Prop} {D : va_G} {cI cZ cJ : ClassId} {A : Nat → Prop} {sc L : Nat} {xs : Nat → Int32} {q h k mh : Nat → Nat} {o i kc ns : Nat} {n b : Nat} {y r t : Int32} {d : Nat → Nat} {f0 f1 f2 f3 f4 f5 f6 f7 f8 f9 f10 f11 f12 f13 : Nat → Int32} {n1 : Nat} {r1 : Int32} {g0 g1 g2 g3 g4 g5 g6 g7 g8 g9 g10 g11 g12 g13 bp bn : Nat → Int32} {u : Nat → Int64} {m0 m1 m2 m3 m4 m5 m6 m7 m8 m9 m10 m11 m12 m13 : Nat → Int32} (hl : l.stackTraces = false) (C : zv_C pP mM cD cL_law 9 sS aA wsL_law "RiverNamesLaw" A) (hA : A = fun q => sS.heap.size ≤ q) (hE : zx_E sS) (hX : va_X sc L xs sS sS.heap) (hsc : sc < sS.heap.size) (hi : i + 4 ≤ L) (hL : L ≤ 2048) (hkc : kc + 17 ≤ 601024) (hns : ns + 168 ≤ 7293034) (hI : LI n b r d f0 f1 f2 f3 f4 f5 f6 f7 f8 f9 f10 f11 f12 f13 bp bn m0 m1 m2 m3 m4 m5 m6 m7) (K : LK pP l eE sS mM aA bB mT cD Q D cI cZ cJ A sc q h k mh o i kc ns) (hf : isP n (xs (i + 1)) = false) : zv_V pP l eE room_1 sS mM aA bB mT cD Q 9 D vwCl A A (tyJ cI cZ cJ) ((cR cI cZ q h k (nI b) y (nI n) r f0 f1 f2 f3 f4 f5 f6 f7 f8 f9 f10 f11 f12 f13 (nI n1) r1 g0 g1 g2 g3 g4 g5 g6 g7 g8 g9 g10 g11 g12 g13 bp bn) ++ ((cM cI cZ mh t (nI n) r y (nI b) m0 m1 m2 m3 m4 m5 m6 m7 m8 m9 m10 m11 m12 m13) ++ [(o, .inl (cJ, 1, .inr (.inl u)))])) kc ns 1247 [(0, .ref sc), (1, .ref (q 0)), (2, .ref (mh 0)), (3, .ref o), (4, .int (nI i))] [] := by
  refine zv_aload_n C dL_law_1247 1248 rfl 1 rfl ?_
  refine zv_aload_n C dL_law_1248 1249 rfl 0 rfl ?_
  refine zv_iload C dL_law_1249 1251 rfl 4 rfl ?_
  refine zv_iconst (v := 1) C dL_law_1251 1252 rfl (by decide) ?_
  refine zv_iadd (v := (nI (i + 1))) C dL_law_1252 1253 rfl (nI_1 i) ?_
  refine zv_sld C hA hX hsc dL_law_1253 1254 rfl (i + 1) rfl (by omega) hL (v := (xs (i + 1))) rfl ?_
  refine zv_aload_n C dL_law_1254 1255 rfl 3 rfl ?_
  refine zv_callWE (rest := []) C hA hE (k_L_arguing_t l D cI cZ cJ q h k b y n r f0 f1 f2 f3 f4 f5 f6 f7 f8 f9 f10 f11 f12 f13 n1 r1 g0 g1 g2 g3 g4 g5 g6 g7 g8 g9 g10 g11 g12 g13 bp bn o u (xs (i + 1)) hI.n16 (by first | assumption | omega) hl) (vx_cwSW 3 C.1.2.2.2.2 gL_law_L_arguing rfl rfl rfl (by decide +kernel) ⟨Nat.le_of_ble_eq_true rfl, Nat.le_of_ble_eq_true rfl⟩) dL_law_1255 1258 rfl rfl rfl (Nat.le_of_ble_eq_true rfl) ⟨(by show kc + 1 ≤ 601024; omega), (by show ns + 6 ≤ 7293034; omega)⟩ [0, 1, 2] rfl [0, 1, 2, 3, 4, 5, 6, 7, 8, 9, 10, 11, 12, 13, 14, 15, 16, 17, 18, 19, 20, 21, 22, 23, 24, 25, 26, 27, 28, 29, 30, 31, 32, 48] rfl (by decide) (fun v hv => ?_)
  subst hv
  refine zv_go rfl rfl (st' := [.int 1]) rfl (kc' := kc + 1) rfl (ns' := ns + 6) rfl ?_
  refine zv_istore C dL_law_1258 1260 rfl [(5, .int 1), (0, .ref sc), (1, .ref (q 0)), (2, .ref (mh 0)), (3, .ref o), (4, .int (nI i))] (by decide) rfl ?_
  refine zv_aload_n C dL_law_1260 1261 rfl 3 rfl ?_
  refine zv_aload_n C dL_law_1261 1262 rfl 1 rfl ?_
  refine zv_iload C dL_law_1262 1264 rfl 5 rfl ?_
  refine zv_iconst (v := 1) C dL_law_1264 1265 rfl (by decide) ?_
  refine zv_iadd (v := (nI (i + 1))) C dL_law_1265 1266 rfl (nI_1 i) ?_
  refine zv_sld C hA hX hsc dL_law_1266 1267 rfl (i + 1) rfl (by omega) hL (v := (xs (i + 1))) rfl ?_
  refine zv_callV (rest := []) (wr := ((cR cI cZ q h k (nI b) y (nI n) r f0 f1 f2 f3 f4 f5 f6 f7 f8 f9 f10 f11 f12 f13 (nI n1) r1 g0 g1 g2 g3 g4 g5 g6 g7 g8 g9 g10 g11 g12 g13 bp bn) ++ [(o, .inl (cJ, 1, .inr (.inl u)))])) C (k_X2_arguing_no l D cI cZ mh t n r y b m0 m1 m2 m3 m4 m5 m6 m7 m8 m9 m10 m11 m12 m13 (xs (i + 1)) hI.n16 (by first | assumption | omega)) (cwV 1 C.1.2.2.2.2 gL_law_X2_arguing rfl rfl rfl (by decide +kernel) ⟨Nat.le_of_ble_eq_true rfl, Nat.le_of_ble_eq_true rfl⟩) dL_law_1267 1270 rfl (ci := 2) 0 rfl rfl rfl rfl (Nat.le_of_ble_eq_true rfl) ⟨(by show kc + 1 + 0 ≤ 601024; omega), (by show ns + 6 + 0 ≤ 7293034; omega)⟩ [0, 1] rfl [33, 34, 35, 36, 37, 38, 39, 40, 41, 42, 43, 44, 45, 46, 47] rfl (by decide) [0, 1, 2, 3, 4, 5, 6, 7, 8, 9, 10, 11, 12, 13, 14, 15, 16, 17, 18, 19, 20, 21, 22, 23, 24, 25, 26, 27, 28, 29, 30, 31, 32, 48] rfl (by decide) (by decide +kernel) (fun v w hv => ?_)
  obtain ⟨rfl, rfl⟩ := hv
  refine zv_go rfl rfl (st' := [.int 0]) rfl (kc' := kc + 1) rfl (ns' := ns + 6) rfl ?_
  refine zv_perm [0, 1, 2, 3, 4, 5, 6, 7, 8, 9, 10, 11, 12, 13, 14, 15, 16, 17, 18, 19, 20, 21, 22, 23, 24, 25, 26, 27, 28, 29, 30, 31, 32, 34, 35, 36, 37, 38, 39, 40, 41, 42, 43, 44, 45, 46, 47, 48, 33] (ws' := ((cR cI cZ q h k (nI b) y (nI n) r f0 f1 f2 f3 f4 f5 f6 f7 f8 f9 f10 f11 f12 f13 (nI n1) r1 g0 g1 g2 g3 g4 g5 g6 g7 g8 g9 g10 g11 g12 g13 bp bn) ++ ((cM cI cZ mh 1 (nI n) r y (nI b) m0 m1 m2 m3 m4 m5 m6 m7 m8 m9 m10 m11 m12 m13) ++ [(o, .inl (cJ, 1, .inr (.inl u)))]))) (by decide) rfl ?_
  refine zv_istore C dL_law_1270 1272 rfl [(6, .int 0), (5, .int 1), (0, .ref sc), (1, .ref (q 0)), (2, .ref (mh 0)), (3, .ref o), (4, .int (nI i))] (by decide) rfl ?_
  refine zv_aload_n C dL_law_1272 1273 rfl 4 rfl ?_
  refine zv_callVR (rest := []) C (k_X2_thrown l D cI cZ mh 1 n r y b m0 m1 m2 m3 m4 m5 m6 m7 m8 m9 m10 m11 m12 m13 ) (cwV 0 C.1.2.2.2.2 gL_law_X2_thrown rfl rfl rfl (by decide +kernel) ⟨Nat.le_of_ble_eq_true rfl, Nat.le_of_ble_eq_true rfl⟩) dL_law_1273 1276 rfl (ci := 2) 0 rfl rfl rfl rfl (Nat.le_of_ble_eq_true rfl) ⟨(by show kc + 1 + 0 ≤ 601024; omega), (by show ns + 6 + 0 ≤ 7293034; omega)⟩ [0, 1] rfl [33, 34, 35, 36, 37, 38, 39, 40, 41, 42, 43, 44, 45, 46, 47] rfl (by decide) (fun v hv => ?_)
  subst hv
  refine zv_go rfl rfl (st' := [.int 1]) rfl (kc' := kc + 1) rfl (ns' := ns + 6) rfl ?_
  refine zv_iload C dL_law_1276 1278 rfl 1 rfl ?_
  refine zv_icmp_eq C dL_law_1278 1281 1283 rfl (by decide) (fun _ => ?_) (fun q => absurd (by decide) q)
  refine zv_iload C dL_law_1283 1285 rfl 1 rfl ?_
  refine zv_if_ne C dL_law_1285 1288 1300 rfl (by decide) (fun _ => ?_) (fun q => absurd q (by decide))
  refine zv_goto C dL_law_1300 1966 (by decide) ?_
  refine zv_widen (k' := kc + 17) (n' := ns + 168) (by omega) (by omega) ?_
  refine zv_sub [2, 3, 4, 5, 6] (lv' := [(0, .ref sc), (1, .ref (q 0)), (2, .ref (mh 0)), (3, .ref o), (4, .int (nI i))]) rfl ?_
  exact K n b y r 1 d f0 f1 f2 f3 f4 f5 f6 f7 f8 f9 f10 f11 f12 f13 n1 r1 g0 g1 g2 g3 g4 g5 g6 g7 g8 g9 g10 g11 g12 g13 bp bn u m0 m1 m2 m3 m4 m5 m6 m7 m8 m9 m10 m11 m12 m13 hI
set_option maxHeartbeats 4000000 in
set_option maxRecDepth 100000 in
theorem lc_arguing_ok {pP : Program} {l : Launch} {eE : Env} {sS : State} {mM : MethodId} {aA : Array Value} {bB : List Frame} {mT : Method} {cD : Code} {Q : State → Prop} {D : va_G} {cI cZ cJ : ClassId} {A : Nat → Prop} {sc L : Nat} {xs : Nat → Int32} {q h k mh : Nat → Nat} {o i kc ns : Nat} {n b : Nat} {y r t : Int32} {d : Nat → Nat} {f0 f1 f2 f3 f4 f5 f6 f7 f8 f9 f10 f11 f12 f13 : Nat → Int32} {n1 : Nat} {r1 : Int32} {g0 g1 g2 g3 g4 g5 g6 g7 g8 g9 g10 g11 g12 g13 bp bn : Nat → Int32} {u : Nat → Int64} {m0 m1 m2 m3 m4 m5 m6 m7 m8 m9 m10 m11 m12 m13 : Nat → Int32} (hl : l.stackTraces = false) (C : zv_C pP mM cD cL_law 9 sS aA wsL_law "RiverNamesLaw" A) (hA : A = fun q => sS.heap.size ≤ q) (hE : zx_E sS) (hX : va_X sc L xs sS sS.heap) (hsc : sc < sS.heap.size) (hi : i + 4 ≤ L) (hL : L ≤ 2048) (hkc : kc + 17 ≤ 601024) (hns : ns + 168 ≤ 7293034) (hI : LI n b r d f0 f1 f2 f3 f4 f5 f6 f7 f8 f9 f10 f11 f12 f13 bp bn m0 m1 m2 m3 m4 m5 m6 m7) (K : LK pP l eE sS mM aA bB mT cD Q D cI cZ cJ A sc q h k mh o i kc ns) (p : Nat) (hp : p < n) (e1 : xs (i + 1) = nI p) : zv_V pP l eE room_1 sS mM aA bB mT cD Q 9 D vwCl A A (tyJ cI cZ cJ) ((cR cI cZ q h k (nI b) y (nI n) r f0 f1 f2 f3 f4 f5 f6 f7 f8 f9 f10 f11 f12 f13 (nI n1) r1 g0 g1 g2 g3 g4 g5 g6 g7 g8 g9 g10 g11 g12 g13 bp bn) ++ ((cM cI cZ mh t (nI n) r y (nI b) m0 m1 m2 m3 m4 m5 m6 m7 m8 m9 m10 m11 m12 m13) ++ [(o, .inl (cJ, 1, .inr (.inl u)))])) kc ns 1247 [(0, .ref sc), (1, .ref (q 0)), (2, .ref (mh 0)), (3, .ref o), (4, .int (nI i))] [] := by
  refine zv_aload_n C dL_law_1247 1248 rfl 1 rfl ?_
  refine zv_aload_n C dL_law_1248 1249 rfl 0 rfl ?_
  refine zv_iload C dL_law_1249 1251 rfl 4 rfl ?_
  refine zv_iconst (v := 1) C dL_law_1251 1252 rfl (by decide) ?_
  refine zv_iadd (v := (nI (i + 1))) C dL_law_1252 1253 rfl (nI_1 i) ?_
  refine zv_sld C hA hX hsc dL_law_1253 1254 rfl (i + 1) rfl (by omega) hL (v := (nI p)) e1 ?_
  refine zv_aload_n C dL_law_1254 1255 rfl 3 rfl ?_
  refine zv_callW (rest := []) (wr := (cM cI cZ mh t (nI n) r y (nI b) m0 m1 m2 m3 m4 m5 m6 m7 m8 m9 m10 m11 m12 m13)) C (k_L_arguing_ok l D cI cZ cJ q h k b y n r f0 f1 f2 f3 f4 f5 f6 f7 f8 f9 f10 f11 f12 f13 n1 r1 g0 g1 g2 g3 g4 g5 g6 g7 g8 g9 g10 g11 g12 g13 bp bn o u p hI.n16 (by first | assumption | omega)) (vx_cwSW 3 C.1.2.2.2.2 gL_law_L_arguing rfl rfl rfl (by decide +kernel) ⟨Nat.le_of_ble_eq_true rfl, Nat.le_of_ble_eq_true rfl⟩) dL_law_1255 1258 rfl rfl rfl (Nat.le_of_ble_eq_true rfl) ⟨(by show kc + 0 ≤ 601024; omega), (by show ns + 0 ≤ 7293034; omega)⟩ [0, 1, 2] rfl [0, 1, 2, 3, 4, 5, 6, 7, 8, 9, 10, 11, 12, 13, 14, 15, 16, 17, 18, 19, 20, 21, 22, 23, 24, 25, 26, 27, 28, 29, 30, 31, 32, 48] rfl (by decide) [33, 34, 35, 36, 37, 38, 39, 40, 41, 42, 43, 44, 45, 46, 47] rfl (by decide) (by decide +kernel) (fun v w hv => ?_)
  obtain ⟨uo_1, rfl, rfl, hu⟩ := hv
  refine zv_go rfl rfl (st' := [.int 0]) rfl (kc' := kc) rfl (ns' := ns) rfl ?_
  refine zv_perm [15, 16, 17, 18, 19, 20, 21, 22, 23, 24, 25, 26, 27, 28, 29, 30, 31, 32, 33, 34, 35, 36, 37, 38, 39, 40, 41, 42, 43, 44, 45, 46, 47, 0, 1, 2, 3, 4, 5, 6, 7, 8, 9, 10, 11, 12, 13, 14, 48] (ws' := ((cR cI cZ q h k (nI b) y (nI n) r f0 f1 f2 f3 f4 f5 f6 f7 f8 f9 f10 f11 f12 f13 (nI n1) r1 g0 g1 g2 g3 g4 g5 g6 g7 g8 g9 g10 g11 g12 g13 bp bn) ++ ((cM cI cZ mh t (nI n) r y (nI b) m0 m1 m2 m3 m4 m5 m6 m7 m8 m9 m10 m11 m12 m13) ++ [(o, .inl (cJ, 1, .inr (.inl uo_1)))]))) (by decide) rfl ?_
  refine zv_istore C dL_law_1258 1260 rfl [(5, .int 0), (0, .ref sc), (1, .ref (q 0)), (2, .ref (mh 0)), (3, .ref o), (4, .int (nI i))] (by decide) rfl ?_
  refine zv_aload_n C dL_law_1260 1261 rfl 3 rfl ?_
  refine zv_aload_n C dL_law_1261 1262 rfl 1 rfl ?_
  refine zv_iload C dL_law_1262 1264 rfl 5 rfl ?_
  refine zv_iconst (v := 1) C dL_law_1264 1265 rfl (by decide) ?_
  refine zv_iadd (v := (nI (i + 1))) C dL_law_1265 1266 rfl (nI_1 i) ?_
  refine zv_sld C hA hX hsc dL_law_1266 1267 rfl (i + 1) rfl (by omega) hL (v := (nI p)) e1 ?_
  refine zv_callV (rest := []) (wr := ((cR cI cZ q h k (nI b) y (nI n) r f0 f1 f2 f3 f4 f5 f6 f7 f8 f9 f10 f11 f12 f13 (nI n1) r1 g0 g1 g2 g3 g4 g5 g6 g7 g8 g9 g10 g11 g12 g13 bp bn) ++ [(o, .inl (cJ, 1, .inr (.inl uo_1)))])) C (k_X2_arguing_ok l D cI cZ mh t n r y b m0 m1 m2 m3 m4 m5 m6 m7 m8 m9 m10 m11 m12 m13 p f1 d hI.n16 hI.depM (by first | assumption | omega)) (cwV 1 C.1.2.2.2.2 gL_law_X2_arguing rfl rfl rfl (by decide +kernel) ⟨Nat.le_of_ble_eq_true rfl, Nat.le_of_ble_eq_true rfl⟩) dL_law_1267 1270 rfl (ci := 2) 0 rfl rfl rfl rfl (Nat.le_of_ble_eq_true rfl) ⟨(by show kc + 0 ≤ 601024; omega), (by show ns + 0 ≤ 7293034; omega)⟩ [0, 1] rfl [33, 34, 35, 36, 37, 38, 39, 40, 41, 42, 43, 44, 45, 46, 47] rfl (by decide) [0, 1, 2, 3, 4, 5, 6, 7, 8, 9, 10, 11, 12, 13, 14, 15, 16, 17, 18, 19, 20, 21, 22, 23, 24, 25, 26, 27, 28, 29, 30, 31, 32, 48] rfl (by decide) (by decide +kernel) (fun v w hv => ?_)
  obtain ⟨eg8_2, eg9_2, eg10_2, eg11_2, rfl, rfl⟩ := hv
  refine zv_go rfl rfl (st' := [.int (nI (agA m0 m1 m3 m5 (nmS n m0 m1 m2 m3 m5 r) p n))]) rfl (kc' := kc) rfl (ns' := ns) rfl ?_
  refine zv_perm [0, 1, 2, 3, 4, 5, 6, 7, 8, 9, 10, 11, 12, 13, 14, 15, 16, 17, 18, 19, 20, 21, 22, 23, 24, 25, 26, 27, 28, 29, 30, 31, 32, 34, 35, 36, 37, 38, 39, 40, 41, 42, 43, 44, 45, 46, 47, 48, 33] (ws' := ((cR cI cZ q h k (nI b) y (nI n) r f0 f1 f2 f3 f4 f5 f6 f7 f8 f9 f10 f11 f12 f13 (nI n1) r1 g0 g1 g2 g3 g4 g5 g6 g7 g8 g9 g10 g11 g12 g13 bp bn) ++ ((cM cI cZ mh 0 (nI n) r y (nI b) m0 m1 m2 m3 m4 m5 m6 m7 eg8_2 eg9_2 eg10_2 eg11_2 m12 m13) ++ [(o, .inl (cJ, 1, .inr (.inl uo_1)))]))) (by decide) rfl ?_
  refine zv_istore C dL_law_1270 1272 rfl [(6, .int (nI (agA m0 m1 m3 m5 (nmS n m0 m1 m2 m3 m5 r) p n))), (5, .int 0), (0, .ref sc), (1, .ref (q 0)), (2, .ref (mh 0)), (3, .ref o), (4, .int (nI i))] (by decide) rfl ?_
  refine zv_aload_n C dL_law_1272 1273 rfl 4 rfl ?_
  refine zv_callVR (rest := []) C (k_X2_thrown l D cI cZ mh 0 n r y b m0 m1 m2 m3 m4 m5 m6 m7 eg8_2 eg9_2 eg10_2 eg11_2 m12 m13 ) (cwV 0 C.1.2.2.2.2 gL_law_X2_thrown rfl rfl rfl (by decide +kernel) ⟨Nat.le_of_ble_eq_true rfl, Nat.le_of_ble_eq_true rfl⟩) dL_law_1273 1276 rfl (ci := 2) 0 rfl rfl rfl rfl (Nat.le_of_ble_eq_true rfl) ⟨(by show kc + 0 ≤ 601024; omega), (by show ns + 0 ≤ 7293034; omega)⟩ [0, 1] rfl [33, 34, 35, 36, 37, 38, 39, 40, 41, 42, 43, 44, 45, 46, 47] rfl (by decide) (fun v hv => ?_)
  subst hv
  refine zv_go rfl rfl (st' := [.int 0]) rfl (kc' := kc) rfl (ns' := ns) rfl ?_
  refine zv_iload C dL_law_1276 1278 rfl 1 rfl ?_
  refine zv_icmp_eq C dL_law_1278 1281 1283 rfl (by decide) (fun _ => ?_) (fun q => absurd (by decide) q)
  refine zv_iload C dL_law_1283 1285 rfl 1 rfl ?_
  refine zv_if_ne C dL_law_1285 1288 1300 rfl (by decide) (fun q => absurd (by decide) q) (fun _ => ?_)
  refine zv_aload_n C dL_law_1288 1289 rfl 5 rfl ?_
  refine zv_iconst (v := 0) C dL_law_1289 1290 rfl (by decide) ?_
  refine zv_lald (v := (uo_1 0)) C dL_law_1290 1291 rfl 48 2 0 rfl rfl (by decide) (by decide) (by decide) rfl ?_
  refine zv_iload C dL_law_1291 1293 rfl 0 rfl ?_
  refine zv_i2l C dL_law_1293 1294 rfl ?_
  refine zv_lcmpE C dL_law_1294 1295 rfl (hu.trans (congrArg Int32.toInt64 (hI.vArg hp))) ?_
  refine zv_if_eq C dL_law_1295 1298 1300 rfl (by decide) (fun _ => ?_) (fun q => absurd (by decide) q)
  refine zv_goto C dL_law_1300 1966 (by decide) ?_
  refine zv_widen (k' := kc + 17) (n' := ns + 168) (by omega) (by omega) ?_
  refine zv_sub [2, 3, 4, 5, 6] (lv' := [(0, .ref sc), (1, .ref (q 0)), (2, .ref (mh 0)), (3, .ref o), (4, .int (nI i))]) rfl ?_
  exact K n b y r 0 d f0 f1 f2 f3 f4 f5 f6 f7 f8 f9 f10 f11 f12 f13 n1 r1 g0 g1 g2 g3 g4 g5 g6 g7 g8 g9 g10 g11 g12 g13 bp bn uo_1 m0 m1 m2 m3 m4 m5 m6 m7 eg8_2 eg9_2 eg10_2 eg11_2 m12 m13 hI
set_option maxHeartbeats 4000000 in
set_option maxRecDepth 100000 in
theorem lc_isArgued_no {pP : Program} {l : Launch} {eE : Env} {sS : State} {mM : MethodId} {aA : Array Value} {bB : List Frame} {mT : Method} {cD : Code} {Q : State → Prop} {D : va_G} {cI cZ cJ : ClassId} {A : Nat → Prop} {sc L : Nat} {xs : Nat → Int32} {q h k mh : Nat → Nat} {o i kc ns : Nat} {n b : Nat} {y r t : Int32} {d : Nat → Nat} {f0 f1 f2 f3 f4 f5 f6 f7 f8 f9 f10 f11 f12 f13 : Nat → Int32} {n1 : Nat} {r1 : Int32} {g0 g1 g2 g3 g4 g5 g6 g7 g8 g9 g10 g11 g12 g13 bp bn : Nat → Int32} {u : Nat → Int64} {m0 m1 m2 m3 m4 m5 m6 m7 m8 m9 m10 m11 m12 m13 : Nat → Int32} (hl : l.stackTraces = false) (C : zv_C pP mM cD cL_law 9 sS aA wsL_law "RiverNamesLaw" A) (hA : A = fun q => sS.heap.size ≤ q) (hE : zx_E sS) (hX : va_X sc L xs sS sS.heap) (hsc : sc < sS.heap.size) (hi : i + 4 ≤ L) (hL : L ≤ 2048) (hkc : kc + 17 ≤ 601024) (hns : ns + 168 ≤ 7293034) (hI : LI n b r d f0 f1 f2 f3 f4 f5 f6 f7 f8 f9 f10 f11 f12 f13 bp bn m0 m1 m2 m3 m4 m5 m6 m7) (K : LK pP l eE sS mM aA bB mT cD Q D cI cZ cJ A sc q h k mh o i kc ns) (hf : isP n (xs (i + 1)) = false) : zv_V pP l eE room_1 sS mM aA bB mT cD Q 9 D vwCl A A (tyJ cI cZ cJ) ((cR cI cZ q h k (nI b) y (nI n) r f0 f1 f2 f3 f4 f5 f6 f7 f8 f9 f10 f11 f12 f13 (nI n1) r1 g0 g1 g2 g3 g4 g5 g6 g7 g8 g9 g10 g11 g12 g13 bp bn) ++ ((cM cI cZ mh t (nI n) r y (nI b) m0 m1 m2 m3 m4 m5 m6 m7 m8 m9 m10 m11 m12 m13) ++ [(o, .inl (cJ, 1, .inr (.inl u)))])) kc ns 1303 [(0, .ref sc), (1, .ref (q 0)), (2, .ref (mh 0)), (3, .ref o), (4, .int (nI i))] [] := by
  refine zv_aload_n C dL_law_1303 1304 rfl 1 rfl ?_
  refine zv_aload_n C dL_law_1304 1305 rfl 0 rfl ?_
  refine zv_iload C dL_law_1305 1307 rfl 4 rfl ?_
  refine zv_iconst (v := 1) C dL_law_1307 1308 rfl (by decide) ?_
  refine zv_iadd (v := (nI (i + 1))) C dL_law_1308 1309 rfl (nI_1 i) ?_
  refine zv_sld C hA hX hsc dL_law_1309 1310 rfl (i + 1) rfl (by omega) hL (v := (xs (i + 1))) rfl ?_
  refine zv_aload_n C dL_law_1310 1311 rfl 3 rfl ?_
  refine zv_callWE (rest := []) C hA hE (k_L_isArgued_t l D cI cZ cJ q h k b y n r f0 f1 f2 f3 f4 f5 f6 f7 f8 f9 f10 f11 f12 f13 n1 r1 g0 g1 g2 g3 g4 g5 g6 g7 g8 g9 g10 g11 g12 g13 bp bn o u (xs (i + 1)) hI.n16 (by first | assumption | omega) hl) (vx_cwSW 3 C.1.2.2.2.2 gL_law_L_isArgued rfl rfl rfl (by decide +kernel) ⟨Nat.le_of_ble_eq_true rfl, Nat.le_of_ble_eq_true rfl⟩) dL_law_1311 1314 rfl rfl rfl (Nat.le_of_ble_eq_true rfl) ⟨(by show kc + 1 ≤ 601024; omega), (by show ns + 6 ≤ 7293034; omega)⟩ [0, 1, 2] rfl [0, 1, 2, 3, 4, 5, 6, 7, 8, 9, 10, 11, 12, 13, 14, 15, 16, 17, 18, 19, 20, 21, 22, 23, 24, 25, 26, 27, 28, 29, 30, 31, 32, 48] rfl (by decide) (fun v hv => ?_)
  subst hv
  refine zv_go rfl rfl (st' := [.int 1]) rfl (kc' := kc + 1) rfl (ns' := ns + 6) rfl ?_
  refine zv_istore C dL_law_1314 1316 rfl [(5, .int 1), (0, .ref sc), (1, .ref (q 0)), (2, .ref (mh 0)), (3, .ref o), (4, .int (nI i))] (by decide) rfl ?_
  refine zv_aload_n C dL_law_1316 1317 rfl 3 rfl ?_
  refine zv_aload_n C dL_law_1317 1318 rfl 1 rfl ?_
  refine zv_iload C dL_law_1318 1320 rfl 5 rfl ?_
  refine zv_iconst (v := 1) C dL_law_1320 1321 rfl (by decide) ?_
  refine zv_iadd (v := (nI (i + 1))) C dL_law_1321 1322 rfl (nI_1 i) ?_
  refine zv_sld C hA hX hsc dL_law_1322 1323 rfl (i + 1) rfl (by omega) hL (v := (xs (i + 1))) rfl ?_
  refine zv_callV (rest := []) (wr := ((cR cI cZ q h k (nI b) y (nI n) r f0 f1 f2 f3 f4 f5 f6 f7 f8 f9 f10 f11 f12 f13 (nI n1) r1 g0 g1 g2 g3 g4 g5 g6 g7 g8 g9 g10 g11 g12 g13 bp bn) ++ [(o, .inl (cJ, 1, .inr (.inl u)))])) C (k_X2_isArgued_no l D cI cZ mh t n r y b m0 m1 m2 m3 m4 m5 m6 m7 m8 m9 m10 m11 m12 m13 (xs (i + 1)) hI.n16 (by first | assumption | omega)) (cwV 1 C.1.2.2.2.2 gL_law_X2_isArgued rfl rfl rfl (by decide +kernel) ⟨Nat.le_of_ble_eq_true rfl, Nat.le_of_ble_eq_true rfl⟩) dL_law_1323 1326 rfl (ci := 2) 0 rfl rfl rfl rfl (Nat.le_of_ble_eq_true rfl) ⟨(by show kc + 1 + 0 ≤ 601024; omega), (by show ns + 6 + 0 ≤ 7293034; omega)⟩ [0, 1] rfl [33, 34, 35, 36, 37, 38, 39, 40, 41, 42, 43, 44, 45, 46, 47] rfl (by decide) [0, 1, 2, 3, 4, 5, 6, 7, 8, 9, 10, 11, 12, 13, 14, 15, 16, 17, 18, 19, 20, 21, 22, 23, 24, 25, 26, 27, 28, 29, 30, 31, 32, 48] rfl (by decide) (by decide +kernel) (fun v w hv => ?_)
  obtain ⟨rfl, rfl⟩ := hv
  refine zv_go rfl rfl (st' := [.int 0]) rfl (kc' := kc + 1) rfl (ns' := ns + 6) rfl ?_
  refine zv_perm [0, 1, 2, 3, 4, 5, 6, 7, 8, 9, 10, 11, 12, 13, 14, 15, 16, 17, 18, 19, 20, 21, 22, 23, 24, 25, 26, 27, 28, 29, 30, 31, 32, 34, 35, 36, 37, 38, 39, 40, 41, 42, 43, 44, 45, 46, 47, 48, 33] (ws' := ((cR cI cZ q h k (nI b) y (nI n) r f0 f1 f2 f3 f4 f5 f6 f7 f8 f9 f10 f11 f12 f13 (nI n1) r1 g0 g1 g2 g3 g4 g5 g6 g7 g8 g9 g10 g11 g12 g13 bp bn) ++ ((cM cI cZ mh 1 (nI n) r y (nI b) m0 m1 m2 m3 m4 m5 m6 m7 m8 m9 m10 m11 m12 m13) ++ [(o, .inl (cJ, 1, .inr (.inl u)))]))) (by decide) rfl ?_
  refine zv_istore C dL_law_1326 1328 rfl [(6, .int 0), (5, .int 1), (0, .ref sc), (1, .ref (q 0)), (2, .ref (mh 0)), (3, .ref o), (4, .int (nI i))] (by decide) rfl ?_
  refine zv_aload_n C dL_law_1328 1329 rfl 4 rfl ?_
  refine zv_callVR (rest := []) C (k_X2_thrown l D cI cZ mh 1 n r y b m0 m1 m2 m3 m4 m5 m6 m7 m8 m9 m10 m11 m12 m13 ) (cwV 0 C.1.2.2.2.2 gL_law_X2_thrown rfl rfl rfl (by decide +kernel) ⟨Nat.le_of_ble_eq_true rfl, Nat.le_of_ble_eq_true rfl⟩) dL_law_1329 1332 rfl (ci := 2) 0 rfl rfl rfl rfl (Nat.le_of_ble_eq_true rfl) ⟨(by show kc + 1 + 0 ≤ 601024; omega), (by show ns + 6 + 0 ≤ 7293034; omega)⟩ [0, 1] rfl [33, 34, 35, 36, 37, 38, 39, 40, 41, 42, 43, 44, 45, 46, 47] rfl (by decide) (fun v hv => ?_)
  subst hv
  refine zv_go rfl rfl (st' := [.int 1]) rfl (kc' := kc + 1) rfl (ns' := ns + 6) rfl ?_
  refine zv_iload C dL_law_1332 1334 rfl 1 rfl ?_
  refine zv_icmp_eq C dL_law_1334 1337 1339 rfl (by decide) (fun _ => ?_) (fun q => absurd (by decide) q)
  refine zv_iload C dL_law_1339 1341 rfl 1 rfl ?_
  refine zv_if_ne C dL_law_1341 1344 1363 rfl (by decide) (fun _ => ?_) (fun q => absurd q (by decide))
  refine zv_goto C dL_law_1363 1966 (by decide) ?_
  refine zv_widen (k' := kc + 17) (n' := ns + 168) (by omega) (by omega) ?_
  refine zv_sub [2, 3, 4, 5, 6] (lv' := [(0, .ref sc), (1, .ref (q 0)), (2, .ref (mh 0)), (3, .ref o), (4, .int (nI i))]) rfl ?_
  exact K n b y r 1 d f0 f1 f2 f3 f4 f5 f6 f7 f8 f9 f10 f11 f12 f13 n1 r1 g0 g1 g2 g3 g4 g5 g6 g7 g8 g9 g10 g11 g12 g13 bp bn u m0 m1 m2 m3 m4 m5 m6 m7 m8 m9 m10 m11 m12 m13 hI
set_option maxHeartbeats 4000000 in
set_option maxRecDepth 100000 in
theorem lc_isArgued_ok {pP : Program} {l : Launch} {eE : Env} {sS : State} {mM : MethodId} {aA : Array Value} {bB : List Frame} {mT : Method} {cD : Code} {Q : State → Prop} {D : va_G} {cI cZ cJ : ClassId} {A : Nat → Prop} {sc L : Nat} {xs : Nat → Int32} {q h k mh : Nat → Nat} {o i kc ns : Nat} {n b : Nat} {y r t : Int32} {d : Nat → Nat} {f0 f1 f2 f3 f4 f5 f6 f7 f8 f9 f10 f11 f12 f13 : Nat → Int32} {n1 : Nat} {r1 : Int32} {g0 g1 g2 g3 g4 g5 g6 g7 g8 g9 g10 g11 g12 g13 bp bn : Nat → Int32} {u : Nat → Int64} {m0 m1 m2 m3 m4 m5 m6 m7 m8 m9 m10 m11 m12 m13 : Nat → Int32} (hl : l.stackTraces = false) (C : zv_C pP mM cD cL_law 9 sS aA wsL_law "RiverNamesLaw" A) (hA : A = fun q => sS.heap.size ≤ q) (hE : zx_E sS) (hX : va_X sc L xs sS sS.heap) (hsc : sc < sS.heap.size) (hi : i + 4 ≤ L) (hL : L ≤ 2048) (hkc : kc + 17 ≤ 601024) (hns : ns + 168 ≤ 7293034) (hI : LI n b r d f0 f1 f2 f3 f4 f5 f6 f7 f8 f9 f10 f11 f12 f13 bp bn m0 m1 m2 m3 m4 m5 m6 m7) (K : LK pP l eE sS mM aA bB mT cD Q D cI cZ cJ A sc q h k mh o i kc ns) (p : Nat) (hp : p < n) (e1 : xs (i + 1) = nI p) : zv_V pP l eE room_1 sS mM aA bB mT cD Q 9 D vwCl A A (tyJ cI cZ cJ) ((cR cI cZ q h k (nI b) y (nI n) r f0 f1 f2 f3 f4 f5 f6 f7 f8 f9 f10 f11 f12 f13 (nI n1) r1 g0 g1 g2 g3 g4 g5 g6 g7 g8 g9 g10 g11 g12 g13 bp bn) ++ ((cM cI cZ mh t (nI n) r y (nI b) m0 m1 m2 m3 m4 m5 m6 m7 m8 m9 m10 m11 m12 m13) ++ [(o, .inl (cJ, 1, .inr (.inl u)))])) kc ns 1303 [(0, .ref sc), (1, .ref (q 0)), (2, .ref (mh 0)), (3, .ref o), (4, .int (nI i))] [] := by
  refine zv_aload_n C dL_law_1303 1304 rfl 1 rfl ?_
  refine zv_aload_n C dL_law_1304 1305 rfl 0 rfl ?_
  refine zv_iload C dL_law_1305 1307 rfl 4 rfl ?_
  refine zv_iconst (v := 1) C dL_law_1307 1308 rfl (by decide) ?_
  refine zv_iadd (v := (nI (i + 1))) C dL_law_1308 1309 rfl (nI_1 i) ?_
  refine zv_sld C hA hX hsc dL_law_1309 1310 rfl (i + 1) rfl (by omega) hL (v := (nI p)) e1 ?_
  refine zv_aload_n C dL_law_1310 1311 rfl 3 rfl ?_
  refine zv_callW (rest := []) (wr := (cM cI cZ mh t (nI n) r y (nI b) m0 m1 m2 m3 m4 m5 m6 m7 m8 m9 m10 m11 m12 m13)) C (k_L_isArgued_ok l D cI cZ cJ q h k b y n r f0 f1 f2 f3 f4 f5 f6 f7 f8 f9 f10 f11 f12 f13 n1 r1 g0 g1 g2 g3 g4 g5 g6 g7 g8 g9 g10 g11 g12 g13 bp bn o u p hI.n16 (by first | assumption | omega) (hI.z11 hp)) (vx_cwSW 3 C.1.2.2.2.2 gL_law_L_isArgued rfl rfl rfl (by decide +kernel) ⟨Nat.le_of_ble_eq_true rfl, Nat.le_of_ble_eq_true rfl⟩) dL_law_1311 1314 rfl rfl rfl (Nat.le_of_ble_eq_true rfl) ⟨(by show kc + 0 ≤ 601024; omega), (by show ns + 0 ≤ 7293034; omega)⟩ [0, 1, 2] rfl [0, 1, 2, 3, 4, 5, 6, 7, 8, 9, 10, 11, 12, 13, 14, 15, 16, 17, 18, 19, 20, 21, 22, 23, 24, 25, 26, 27, 28, 29, 30, 31, 32, 48] rfl (by decide) [33, 34, 35, 36, 37, 38, 39, 40, 41, 42, 43, 44, 45, 46, 47] rfl (by decide) (by decide +kernel) (fun v w hv => ?_)
  obtain ⟨uo_1, rfl, rfl, hu⟩ := hv
  refine zv_go rfl rfl (st' := [.int 0]) rfl (kc' := kc) rfl (ns' := ns) rfl ?_
  refine zv_perm [15, 16, 17, 18, 19, 20, 21, 22, 23, 24, 25, 26, 27, 28, 29, 30, 31, 32, 33, 34, 35, 36, 37, 38, 39, 40, 41, 42, 43, 44, 45, 46, 47, 0, 1, 2, 3, 4, 5, 6, 7, 8, 9, 10, 11, 12, 13, 14, 48] (ws' := ((cR cI cZ q h k (nI b) y (nI n) r f0 f1 f2 f3 f4 f5 f6 f7 f8 f9 f10 f11 f12 f13 (nI n1) r1 g0 g1 g2 g3 g4 g5 g6 g7 g8 g9 g10 g11 g12 g13 bp bn) ++ ((cM cI cZ mh t (nI n) r y (nI b) m0 m1 m2 m3 m4 m5 m6 m7 m8 m9 m10 m11 m12 m13) ++ [(o, .inl (cJ, 1, .inr (.inl uo_1)))]))) (by decide) rfl ?_
  refine zv_istore C dL_law_1314 1316 rfl [(5, .int 0), (0, .ref sc), (1, .ref (q 0)), (2, .ref (mh 0)), (3, .ref o), (4, .int (nI i))] (by decide) rfl ?_
  refine zv_aload_n C dL_law_1316 1317 rfl 3 rfl ?_
  refine zv_aload_n C dL_law_1317 1318 rfl 1 rfl ?_
  refine zv_iload C dL_law_1318 1320 rfl 5 rfl ?_
  refine zv_iconst (v := 1) C dL_law_1320 1321 rfl (by decide) ?_
  refine zv_iadd (v := (nI (i + 1))) C dL_law_1321 1322 rfl (nI_1 i) ?_
  refine zv_sld C hA hX hsc dL_law_1322 1323 rfl (i + 1) rfl (by omega) hL (v := (nI p)) e1 ?_
  refine zv_callV (rest := []) (wr := ((cR cI cZ q h k (nI b) y (nI n) r f0 f1 f2 f3 f4 f5 f6 f7 f8 f9 f10 f11 f12 f13 (nI n1) r1 g0 g1 g2 g3 g4 g5 g6 g7 g8 g9 g10 g11 g12 g13 bp bn) ++ [(o, .inl (cJ, 1, .inr (.inl uo_1)))])) C (k_X2_isArgued_ok l D cI cZ mh t n r y b m0 m1 m2 m3 m4 m5 m6 m7 m8 m9 m10 m11 m12 m13 p f1 d hI.n16 hI.depM (by first | assumption | omega)) (cwV 1 C.1.2.2.2.2 gL_law_X2_isArgued rfl rfl rfl (by decide +kernel) ⟨Nat.le_of_ble_eq_true rfl, Nat.le_of_ble_eq_true rfl⟩) dL_law_1323 1326 rfl (ci := 2) 0 rfl rfl rfl rfl (Nat.le_of_ble_eq_true rfl) ⟨(by show kc + 0 ≤ 601024; omega), (by show ns + 0 ≤ 7293034; omega)⟩ [0, 1] rfl [33, 34, 35, 36, 37, 38, 39, 40, 41, 42, 43, 44, 45, 46, 47] rfl (by decide) [0, 1, 2, 3, 4, 5, 6, 7, 8, 9, 10, 11, 12, 13, 14, 15, 16, 17, 18, 19, 20, 21, 22, 23, 24, 25, 26, 27, 28, 29, 30, 31, 32, 48] rfl (by decide) (by decide +kernel) (fun v w hv => ?_)
  obtain ⟨eg8_2, eg9_2, eg10_2, eg11_2, rfl, rfl⟩ := hv
  refine zv_go rfl rfl (st' := [.int (zb (agD m0 m1 m2 m3 m5 (nmS n m0 m1 m2 m3 m5 r) p n))]) rfl (kc' := kc) rfl (ns' := ns) rfl ?_
  refine zv_perm [0, 1, 2, 3, 4, 5, 6, 7, 8, 9, 10, 11, 12, 13, 14, 15, 16, 17, 18, 19, 20, 21, 22, 23, 24, 25, 26, 27, 28, 29, 30, 31, 32, 34, 35, 36, 37, 38, 39, 40, 41, 42, 43, 44, 45, 46, 47, 48, 33] (ws' := ((cR cI cZ q h k (nI b) y (nI n) r f0 f1 f2 f3 f4 f5 f6 f7 f8 f9 f10 f11 f12 f13 (nI n1) r1 g0 g1 g2 g3 g4 g5 g6 g7 g8 g9 g10 g11 g12 g13 bp bn) ++ ((cM cI cZ mh 0 (nI n) r y (nI b) m0 m1 m2 m3 m4 m5 m6 m7 eg8_2 eg9_2 eg10_2 eg11_2 m12 m13) ++ [(o, .inl (cJ, 1, .inr (.inl uo_1)))]))) (by decide) rfl ?_
  refine zv_istore C dL_law_1326 1328 rfl [(6, .int (zb (agD m0 m1 m2 m3 m5 (nmS n m0 m1 m2 m3 m5 r) p n))), (5, .int 0), (0, .ref sc), (1, .ref (q 0)), (2, .ref (mh 0)), (3, .ref o), (4, .int (nI i))] (by decide) rfl ?_
  refine zv_aload_n C dL_law_1328 1329 rfl 4 rfl ?_
  refine zv_callVR (rest := []) C (k_X2_thrown l D cI cZ mh 0 n r y b m0 m1 m2 m3 m4 m5 m6 m7 eg8_2 eg9_2 eg10_2 eg11_2 m12 m13 ) (cwV 0 C.1.2.2.2.2 gL_law_X2_thrown rfl rfl rfl (by decide +kernel) ⟨Nat.le_of_ble_eq_true rfl, Nat.le_of_ble_eq_true rfl⟩) dL_law_1329 1332 rfl (ci := 2) 0 rfl rfl rfl rfl (Nat.le_of_ble_eq_true rfl) ⟨(by show kc + 0 ≤ 601024; omega), (by show ns + 0 ≤ 7293034; omega)⟩ [0, 1] rfl [33, 34, 35, 36, 37, 38, 39, 40, 41, 42, 43, 44, 45, 46, 47] rfl (by decide) (fun v hv => ?_)
  subst hv
  refine zv_go rfl rfl (st' := [.int 0]) rfl (kc' := kc) rfl (ns' := ns) rfl ?_
  refine zv_iload C dL_law_1332 1334 rfl 1 rfl ?_
  refine zv_icmp_eq C dL_law_1334 1337 1339 rfl (by decide) (fun _ => ?_) (fun q => absurd (by decide) q)
  refine zv_iload C dL_law_1339 1341 rfl 1 rfl ?_
  refine zv_if_ne C dL_law_1341 1344 1363 rfl (by decide) (fun q => absurd (by decide) q) (fun _ => ?_)
  refine zv_aload_n C dL_law_1344 1345 rfl 5 rfl ?_
  refine zv_iconst (v := 0) C dL_law_1345 1346 rfl (by decide) ?_
  refine zv_lald (v := (uo_1 0)) C dL_law_1346 1347 rfl 48 2 0 rfl rfl (by decide) (by decide) (by decide) rfl ?_
  refine zv_iload C dL_law_1347 1349 rfl 0 rfl ?_
  refine zv_if_eq C dL_law_1349 1352 1356 rfl (by decide) (fun c1 => ?_) (fun c1 => ?_)
  · refine zv_lconst (v := 0) C dL_law_1356 1357 rfl rfl ?_
    refine zv_lcmpE C dL_law_1357 1358 rfl (hu.trans ((congrArg bitL (hI.vDis hp)).trans (bitL_y c1))) ?_
    refine zv_if_eq C dL_law_1358 1361 1363 rfl (by decide) (fun _ => ?_) (fun q => absurd (by decide) q)
    refine zv_goto C dL_law_1363 1966 (by decide) ?_
    refine zv_widen (k' := kc + 17) (n' := ns + 168) (by omega) (by omega) ?_
    refine zv_sub [2, 3, 4, 5, 6] (lv' := [(0, .ref sc), (1, .ref (q 0)), (2, .ref (mh 0)), (3, .ref o), (4, .int (nI i))]) rfl ?_
    exact K n b y r 0 d f0 f1 f2 f3 f4 f5 f6 f7 f8 f9 f10 f11 f12 f13 n1 r1 g0 g1 g2 g3 g4 g5 g6 g7 g8 g9 g10 g11 g12 g13 bp bn uo_1 m0 m1 m2 m3 m4 m5 m6 m7 eg8_2 eg9_2 eg10_2 eg11_2 m12 m13 hI
  · refine zv_lconst (v := 1) C dL_law_1352 1353 rfl rfl ?_
    refine zv_goto C dL_law_1353 1357 (by decide) ?_
    refine zv_lcmpE C dL_law_1357 1358 rfl (hu.trans ((congrArg bitL (hI.vDis hp)).trans (bitL_n c1))) ?_
    refine zv_if_eq C dL_law_1358 1361 1363 rfl (by decide) (fun _ => ?_) (fun q => absurd (by decide) q)
    refine zv_goto C dL_law_1363 1966 (by decide) ?_
    refine zv_widen (k' := kc + 17) (n' := ns + 168) (by omega) (by omega) ?_
    refine zv_sub [2, 3, 4, 5, 6] (lv' := [(0, .ref sc), (1, .ref (q 0)), (2, .ref (mh 0)), (3, .ref o), (4, .int (nI i))]) rfl ?_
    exact K n b y r 0 d f0 f1 f2 f3 f4 f5 f6 f7 f8 f9 f10 f11 f12 f13 n1 r1 g0 g1 g2 g3 g4 g5 g6 g7 g8 g9 g10 g11 g12 g13 bp bn uo_1 m0 m1 m2 m3 m4 m5 m6 m7 eg8_2 eg9_2 eg10_2 eg11_2 m12 m13 hI
set_option maxHeartbeats 4000000 in
set_option maxRecDepth 100000 in
theorem lc_insultsAt_no {pP : Program} {l : Launch} {eE : Env} {sS : State} {mM : MethodId} {aA : Array Value} {bB : List Frame} {mT : Method} {cD : Code} {Q : State → Prop} {D : va_G} {cI cZ cJ : ClassId} {A : Nat → Prop} {sc L : Nat} {xs : Nat → Int32} {q h k mh : Nat → Nat} {o i kc ns : Nat} {n b : Nat} {y r t : Int32} {d : Nat → Nat} {f0 f1 f2 f3 f4 f5 f6 f7 f8 f9 f10 f11 f12 f13 : Nat → Int32} {n1 : Nat} {r1 : Int32} {g0 g1 g2 g3 g4 g5 g6 g7 g8 g9 g10 g11 g12 g13 bp bn : Nat → Int32} {u : Nat → Int64} {m0 m1 m2 m3 m4 m5 m6 m7 m8 m9 m10 m11 m12 m13 : Nat → Int32} (hl : l.stackTraces = false) (C : zv_C pP mM cD cL_law 9 sS aA wsL_law "RiverNamesLaw" A) (hA : A = fun q => sS.heap.size ≤ q) (hE : zx_E sS) (hX : va_X sc L xs sS sS.heap) (hsc : sc < sS.heap.size) (hi : i + 4 ≤ L) (hL : L ≤ 2048) (hkc : kc + 17 ≤ 601024) (hns : ns + 168 ≤ 7293034) (hI : LI n b r d f0 f1 f2 f3 f4 f5 f6 f7 f8 f9 f10 f11 f12 f13 bp bn m0 m1 m2 m3 m4 m5 m6 m7) (K : LK pP l eE sS mM aA bB mT cD Q D cI cZ cJ A sc q h k mh o i kc ns) (hf : isP n (xs (i + 1)) = false) : zv_V pP l eE room_1 sS mM aA bB mT cD Q 9 D vwCl A A (tyJ cI cZ cJ) ((cR cI cZ q h k (nI b) y (nI n) r f0 f1 f2 f3 f4 f5 f6 f7 f8 f9 f10 f11 f12 f13 (nI n1) r1 g0 g1 g2 g3 g4 g5 g6 g7 g8 g9 g10 g11 g12 g13 bp bn) ++ ((cM cI cZ mh t (nI n) r y (nI b) m0 m1 m2 m3 m4 m5 m6 m7 m8 m9 m10 m11 m12 m13) ++ [(o, .inl (cJ, 1, .inr (.inl u)))])) kc ns 1649 [(0, .ref sc), (1, .ref (q 0)), (2, .ref (mh 0)), (3, .ref o), (4, .int (nI i))] [] := by
  refine zv_aload_n C dL_law_1649 1650 rfl 1 rfl ?_
  refine zv_aload_n C dL_law_1650 1651 rfl 0 rfl ?_
  refine zv_iload C dL_law_1651 1653 rfl 4 rfl ?_
  refine zv_iconst (v := 1) C dL_law_1653 1654 rfl (by decide) ?_
  refine zv_iadd (v := (nI (i + 1))) C dL_law_1654 1655 rfl (nI_1 i) ?_
  refine zv_sld C hA hX hsc dL_law_1655 1656 rfl (i + 1) rfl (by omega) hL (v := (xs (i + 1))) rfl ?_
  refine zv_aload_n C dL_law_1656 1657 rfl 3 rfl ?_
  refine zv_callWE (rest := []) C hA hE (k_L_insultsAt_t l D cI cZ cJ q h k b y n r f0 f1 f2 f3 f4 f5 f6 f7 f8 f9 f10 f11 f12 f13 n1 r1 g0 g1 g2 g3 g4 g5 g6 g7 g8 g9 g10 g11 g12 g13 bp bn o u (xs (i + 1)) hI.n16 (by first | assumption | omega) hl) (vx_cwSW 3 C.1.2.2.2.2 gL_law_L_insultsAt rfl rfl rfl (by decide +kernel) ⟨Nat.le_of_ble_eq_true rfl, Nat.le_of_ble_eq_true rfl⟩) dL_law_1657 1660 rfl rfl rfl (Nat.le_of_ble_eq_true rfl) ⟨(by show kc + 1 ≤ 601024; omega), (by show ns + 6 ≤ 7293034; omega)⟩ [0, 1, 2] rfl [0, 1, 2, 3, 4, 5, 6, 7, 8, 9, 10, 11, 12, 13, 14, 15, 16, 17, 18, 19, 20, 21, 22, 23, 24, 25, 26, 27, 28, 29, 30, 31, 32, 48] rfl (by decide) (fun v hv => ?_)
  subst hv
  refine zv_go rfl rfl (st' := [.int 1]) rfl (kc' := kc + 1) rfl (ns' := ns + 6) rfl ?_
  refine zv_istore C dL_law_1660 1662 rfl [(5, .int 1), (0, .ref sc), (1, .ref (q 0)), (2, .ref (mh 0)), (3, .ref o), (4, .int (nI i))] (by decide) rfl ?_
  refine zv_aload_n C dL_law_1662 1663 rfl 3 rfl ?_
  refine zv_aload_n C dL_law_1663 1664 rfl 1 rfl ?_
  refine zv_iload C dL_law_1664 1666 rfl 5 rfl ?_
  refine zv_iconst (v := 1) C dL_law_1666 1667 rfl (by decide) ?_
  refine zv_iadd (v := (nI (i + 1))) C dL_law_1667 1668 rfl (nI_1 i) ?_
  refine zv_sld C hA hX hsc dL_law_1668 1669 rfl (i + 1) rfl (by omega) hL (v := (xs (i + 1))) rfl ?_
  refine zv_callV (rest := []) (wr := ((cR cI cZ q h k (nI b) y (nI n) r f0 f1 f2 f3 f4 f5 f6 f7 f8 f9 f10 f11 f12 f13 (nI n1) r1 g0 g1 g2 g3 g4 g5 g6 g7 g8 g9 g10 g11 g12 g13 bp bn) ++ [(o, .inl (cJ, 1, .inr (.inl u)))])) C (k_X2_insultsAt_no l D cI cZ mh t n r y b m0 m1 m2 m3 m4 m5 m6 m7 m8 m9 m10 m11 m12 m13 (xs (i + 1)) hI.n16 (by first | assumption | omega)) (cwV 1 C.1.2.2.2.2 gL_law_X2_insultsAt rfl rfl rfl (by decide +kernel) ⟨Nat.le_of_ble_eq_true rfl, Nat.le_of_ble_eq_true rfl⟩) dL_law_1669 1672 rfl (ci := 2) 0 rfl rfl rfl rfl (Nat.le_of_ble_eq_true rfl) ⟨(by show kc + 1 + 0 ≤ 601024; omega), (by show ns + 6 + 0 ≤ 7293034; omega)⟩ [0, 1] rfl [33, 34, 35, 36, 37, 38, 39, 40, 41, 42, 43, 44, 45, 46, 47] rfl (by decide) [0, 1, 2, 3, 4, 5, 6, 7, 8, 9, 10, 11, 12, 13, 14, 15, 16, 17, 18, 19, 20, 21, 22, 23, 24, 25, 26, 27, 28, 29, 30, 31, 32, 48] rfl (by decide) (by decide +kernel) (fun v w hv => ?_)
  obtain ⟨rfl, rfl⟩ := hv
  refine zv_go rfl rfl (st' := [.int 0]) rfl (kc' := kc + 1) rfl (ns' := ns + 6) rfl ?_
  refine zv_perm [0, 1, 2, 3, 4, 5, 6, 7, 8, 9, 10, 11, 12, 13, 14, 15, 16, 17, 18, 19, 20, 21, 22, 23, 24, 25, 26, 27, 28, 29, 30, 31, 32, 34, 35, 36, 37, 38, 39, 40, 41, 42, 43, 44, 45, 46, 47, 48, 33] (ws' := ((cR cI cZ q h k (nI b) y (nI n) r f0 f1 f2 f3 f4 f5 f6 f7 f8 f9 f10 f11 f12 f13 (nI n1) r1 g0 g1 g2 g3 g4 g5 g6 g7 g8 g9 g10 g11 g12 g13 bp bn) ++ ((cM cI cZ mh 1 (nI n) r y (nI b) m0 m1 m2 m3 m4 m5 m6 m7 m8 m9 m10 m11 m12 m13) ++ [(o, .inl (cJ, 1, .inr (.inl u)))]))) (by decide) rfl ?_
  refine zv_istore C dL_law_1672 1674 rfl [(6, .int 0), (5, .int 1), (0, .ref sc), (1, .ref (q 0)), (2, .ref (mh 0)), (3, .ref o), (4, .int (nI i))] (by decide) rfl ?_
  refine zv_aload_n C dL_law_1674 1675 rfl 4 rfl ?_
  refine zv_callVR (rest := []) C (k_X2_thrown l D cI cZ mh 1 n r y b m0 m1 m2 m3 m4 m5 m6 m7 m8 m9 m10 m11 m12 m13 ) (cwV 0 C.1.2.2.2.2 gL_law_X2_thrown rfl rfl rfl (by decide +kernel) ⟨Nat.le_of_ble_eq_true rfl, Nat.le_of_ble_eq_true rfl⟩) dL_law_1675 1678 rfl (ci := 2) 0 rfl rfl rfl rfl (Nat.le_of_ble_eq_true rfl) ⟨(by show kc + 1 + 0 ≤ 601024; omega), (by show ns + 6 + 0 ≤ 7293034; omega)⟩ [0, 1] rfl [33, 34, 35, 36, 37, 38, 39, 40, 41, 42, 43, 44, 45, 46, 47] rfl (by decide) (fun v hv => ?_)
  subst hv
  refine zv_go rfl rfl (st' := [.int 1]) rfl (kc' := kc + 1) rfl (ns' := ns + 6) rfl ?_
  refine zv_iload C dL_law_1678 1680 rfl 1 rfl ?_
  refine zv_icmp_eq C dL_law_1680 1683 1685 rfl (by decide) (fun _ => ?_) (fun q => absurd (by decide) q)
  refine zv_iload C dL_law_1685 1687 rfl 1 rfl ?_
  refine zv_if_ne C dL_law_1687 1690 1702 rfl (by decide) (fun _ => ?_) (fun q => absurd q (by decide))
  refine zv_goto C dL_law_1702 1966 (by decide) ?_
  refine zv_widen (k' := kc + 17) (n' := ns + 168) (by omega) (by omega) ?_
  refine zv_sub [2, 3, 4, 5, 6] (lv' := [(0, .ref sc), (1, .ref (q 0)), (2, .ref (mh 0)), (3, .ref o), (4, .int (nI i))]) rfl ?_
  exact K n b y r 1 d f0 f1 f2 f3 f4 f5 f6 f7 f8 f9 f10 f11 f12 f13 n1 r1 g0 g1 g2 g3 g4 g5 g6 g7 g8 g9 g10 g11 g12 g13 bp bn u m0 m1 m2 m3 m4 m5 m6 m7 m8 m9 m10 m11 m12 m13 hI
set_option maxHeartbeats 4000000 in
set_option maxRecDepth 100000 in
theorem lc_insultsAt_ok {pP : Program} {l : Launch} {eE : Env} {sS : State} {mM : MethodId} {aA : Array Value} {bB : List Frame} {mT : Method} {cD : Code} {Q : State → Prop} {D : va_G} {cI cZ cJ : ClassId} {A : Nat → Prop} {sc L : Nat} {xs : Nat → Int32} {q h k mh : Nat → Nat} {o i kc ns : Nat} {n b : Nat} {y r t : Int32} {d : Nat → Nat} {f0 f1 f2 f3 f4 f5 f6 f7 f8 f9 f10 f11 f12 f13 : Nat → Int32} {n1 : Nat} {r1 : Int32} {g0 g1 g2 g3 g4 g5 g6 g7 g8 g9 g10 g11 g12 g13 bp bn : Nat → Int32} {u : Nat → Int64} {m0 m1 m2 m3 m4 m5 m6 m7 m8 m9 m10 m11 m12 m13 : Nat → Int32} (hl : l.stackTraces = false) (C : zv_C pP mM cD cL_law 9 sS aA wsL_law "RiverNamesLaw" A) (hA : A = fun q => sS.heap.size ≤ q) (hE : zx_E sS) (hX : va_X sc L xs sS sS.heap) (hsc : sc < sS.heap.size) (hi : i + 4 ≤ L) (hL : L ≤ 2048) (hkc : kc + 17 ≤ 601024) (hns : ns + 168 ≤ 7293034) (hI : LI n b r d f0 f1 f2 f3 f4 f5 f6 f7 f8 f9 f10 f11 f12 f13 bp bn m0 m1 m2 m3 m4 m5 m6 m7) (K : LK pP l eE sS mM aA bB mT cD Q D cI cZ cJ A sc q h k mh o i kc ns) (p : Nat) (hp : p < n) (e1 : xs (i + 1) = nI p) : zv_V pP l eE room_1 sS mM aA bB mT cD Q 9 D vwCl A A (tyJ cI cZ cJ) ((cR cI cZ q h k (nI b) y (nI n) r f0 f1 f2 f3 f4 f5 f6 f7 f8 f9 f10 f11 f12 f13 (nI n1) r1 g0 g1 g2 g3 g4 g5 g6 g7 g8 g9 g10 g11 g12 g13 bp bn) ++ ((cM cI cZ mh t (nI n) r y (nI b) m0 m1 m2 m3 m4 m5 m6 m7 m8 m9 m10 m11 m12 m13) ++ [(o, .inl (cJ, 1, .inr (.inl u)))])) kc ns 1649 [(0, .ref sc), (1, .ref (q 0)), (2, .ref (mh 0)), (3, .ref o), (4, .int (nI i))] [] := by
  refine zv_aload_n C dL_law_1649 1650 rfl 1 rfl ?_
  refine zv_aload_n C dL_law_1650 1651 rfl 0 rfl ?_
  refine zv_iload C dL_law_1651 1653 rfl 4 rfl ?_
  refine zv_iconst (v := 1) C dL_law_1653 1654 rfl (by decide) ?_
  refine zv_iadd (v := (nI (i + 1))) C dL_law_1654 1655 rfl (nI_1 i) ?_
  refine zv_sld C hA hX hsc dL_law_1655 1656 rfl (i + 1) rfl (by omega) hL (v := (nI p)) e1 ?_
  refine zv_aload_n C dL_law_1656 1657 rfl 3 rfl ?_
  refine zv_callW (rest := []) (wr := (cM cI cZ mh t (nI n) r y (nI b) m0 m1 m2 m3 m4 m5 m6 m7 m8 m9 m10 m11 m12 m13)) C (k_L_insultsAt_ok l D cI cZ cJ q h k b y n r f0 f1 f2 f3 f4 f5 f6 f7 f8 f9 f10 f11 f12 f13 n1 r1 g0 g1 g2 g3 g4 g5 g6 g7 g8 g9 g10 g11 g12 g13 bp bn o u p hI.n16 hI.b16 hI.brg (by first | assumption | omega)) (vx_cwSW 3 C.1.2.2.2.2 gL_law_L_insultsAt rfl rfl rfl (by decide +kernel) ⟨Nat.le_of_ble_eq_true rfl, Nat.le_of_ble_eq_true rfl⟩) dL_law_1657 1660 rfl rfl rfl (Nat.le_of_ble_eq_true rfl) ⟨(by show kc + 0 ≤ 601024; omega), (by show ns + 0 ≤ 7293034; omega)⟩ [0, 1, 2] rfl [0, 1, 2, 3, 4, 5, 6, 7, 8, 9, 10, 11, 12, 13, 14, 15, 16, 17, 18, 19, 20, 21, 22, 23, 24, 25, 26, 27, 28, 29, 30, 31, 32, 48] rfl (by decide) [33, 34, 35, 36, 37, 38, 39, 40, 41, 42, 43, 44, 45, 46, 47] rfl (by decide) (by decide +kernel) (fun v w hv => ?_)
  obtain ⟨uo_1, rfl, rfl, hu⟩ := hv
  refine zv_go rfl rfl (st' := [.int 0]) rfl (kc' := kc) rfl (ns' := ns) rfl ?_
  refine zv_perm [15, 16, 17, 18, 19, 20, 21, 22, 23, 24, 25, 26, 27, 28, 29, 30, 31, 32, 33, 34, 35, 36, 37, 38, 39, 40, 41, 42, 43, 44, 45, 46, 47, 0, 1, 2, 3, 4, 5, 6, 7, 8, 9, 10, 11, 12, 13, 14, 48] (ws' := ((cR cI cZ q h k (nI b) y (nI n) r f0 f1 f2 f3 f4 f5 f6 f7 f8 f9 f10 f11 f12 f13 (nI n1) r1 g0 g1 g2 g3 g4 g5 g6 g7 g8 g9 g10 g11 g12 g13 bp bn) ++ ((cM cI cZ mh t (nI n) r y (nI b) m0 m1 m2 m3 m4 m5 m6 m7 m8 m9 m10 m11 m12 m13) ++ [(o, .inl (cJ, 1, .inr (.inl uo_1)))]))) (by decide) rfl ?_
  refine zv_istore C dL_law_1660 1662 rfl [(5, .int 0), (0, .ref sc), (1, .ref (q 0)), (2, .ref (mh 0)), (3, .ref o), (4, .int (nI i))] (by decide) rfl ?_
  refine zv_aload_n C dL_law_1662 1663 rfl 3 rfl ?_
  refine zv_aload_n C dL_law_1663 1664 rfl 1 rfl ?_
  refine zv_iload C dL_law_1664 1666 rfl 5 rfl ?_
  refine zv_iconst (v := 1) C dL_law_1666 1667 rfl (by decide) ?_
  refine zv_iadd (v := (nI (i + 1))) C dL_law_1667 1668 rfl (nI_1 i) ?_
  refine zv_sld C hA hX hsc dL_law_1668 1669 rfl (i + 1) rfl (by omega) hL (v := (nI p)) e1 ?_
  refine zv_callV (rest := []) (wr := ((cR cI cZ q h k (nI b) y (nI n) r f0 f1 f2 f3 f4 f5 f6 f7 f8 f9 f10 f11 f12 f13 (nI n1) r1 g0 g1 g2 g3 g4 g5 g6 g7 g8 g9 g10 g11 g12 g13 bp bn) ++ [(o, .inl (cJ, 1, .inr (.inl uo_1)))])) C (k_X2_insultsAt_ok l D cI cZ mh t n r y b m0 m1 m2 m3 m4 m5 m6 m7 m8 m9 m10 m11 m12 m13 p f1 d hI.n16 hI.depM hI.b16 hI.brgM (by first | assumption | omega)) (cwV 1 C.1.2.2.2.2 gL_law_X2_insultsAt rfl rfl rfl (by decide +kernel) ⟨Nat.le_of_ble_eq_true rfl, Nat.le_of_ble_eq_true rfl⟩) dL_law_1669 1672 rfl (ci := 2) 0 rfl rfl rfl rfl (Nat.le_of_ble_eq_true rfl) ⟨(by show kc + 0 ≤ 601024; omega), (by show ns + 0 ≤ 7293034; omega)⟩ [0, 1] rfl [33, 34, 35, 36, 37, 38, 39, 40, 41, 42, 43, 44, 45, 46, 47] rfl (by decide) [0, 1, 2, 3, 4, 5, 6, 7, 8, 9, 10, 11, 12, 13, 14, 15, 16, 17, 18, 19, 20, 21, 22, 23, 24, 25, 26, 27, 28, 29, 30, 31, 32, 48] rfl (by decide) (by decide +kernel) (fun v w hv => ?_)
  obtain ⟨eg8_2, eg9_2, eg10_2, eg11_2, rfl, rfl⟩ := hv
  refine zv_go rfl rfl (st' := [.int (nI (inP m6 m7 (nmS n m0 m1 m2 m3 m5 r) p b))]) rfl (kc' := kc) rfl (ns' := ns) rfl ?_
  refine zv_perm [0, 1, 2, 3, 4, 5, 6, 7, 8, 9, 10, 11, 12, 13, 14, 15, 16, 17, 18, 19, 20, 21, 22, 23, 24, 25, 26, 27, 28, 29, 30, 31, 32, 34, 35, 36, 37, 38, 39, 40, 41, 42, 43, 44, 45, 46, 47, 48, 33] (ws' := ((cR cI cZ q h k (nI b) y (nI n) r f0 f1 f2 f3 f4 f5 f6 f7 f8 f9 f10 f11 f12 f13 (nI n1) r1 g0 g1 g2 g3 g4 g5 g6 g7 g8 g9 g10 g11 g12 g13 bp bn) ++ ((cM cI cZ mh 0 (nI n) r y (nI b) m0 m1 m2 m3 m4 m5 m6 m7 eg8_2 eg9_2 eg10_2 eg11_2 m12 m13) ++ [(o, .inl (cJ, 1, .inr (.inl uo_1)))]))) (by decide) rfl ?_
  refine zv_istore C dL_law_1672 1674 rfl [(6, .int (nI (inP m6 m7 (nmS n m0 m1 m2 m3 m5 r) p b))), (5, .int 0), (0, .ref sc), (1, .ref (q 0)), (2, .ref (mh 0)), (3, .ref o), (4, .int (nI i))] (by decide) rfl ?_
  refine zv_aload_n C dL_law_1674 1675 rfl 4 rfl ?_
  refine zv_callVR (rest := []) C (k_X2_thrown l D cI cZ mh 0 n r y b m0 m1 m2 m3 m4 m5 m6 m7 eg8_2 eg9_2 eg10_2 eg11_2 m12 m13 ) (cwV 0 C.1.2.2.2.2 gL_law_X2_thrown rfl rfl rfl (by decide +kernel) ⟨Nat.le_of_ble_eq_true rfl, Nat.le_of_ble_eq_true rfl⟩) dL_law_1675 1678 rfl (ci := 2) 0 rfl rfl rfl rfl (Nat.le_of_ble_eq_true rfl) ⟨(by show kc + 0 ≤ 601024; omega), (by show ns + 0 ≤ 7293034; omega)⟩ [0, 1] rfl [33, 34, 35, 36, 37, 38, 39, 40, 41, 42, 43, 44, 45, 46, 47] rfl (by decide) (fun v hv => ?_)
  subst hv
  refine zv_go rfl rfl (st' := [.int 0]) rfl (kc' := kc) rfl (ns' := ns) rfl ?_
  refine zv_iload C dL_law_1678 1680 rfl 1 rfl ?_
  refine zv_icmp_eq C dL_law_1680 1683 1685 rfl (by decide) (fun _ => ?_) (fun q => absurd (by decide) q)
  refine zv_iload C dL_law_1685 1687 rfl 1 rfl ?_
  refine zv_if_ne C dL_law_1687 1690 1702 rfl (by decide) (fun q => absurd (by decide) q) (fun _ => ?_)
  refine zv_aload_n C dL_law_1690 1691 rfl 5 rfl ?_
  refine zv_iconst (v := 0) C dL_law_1691 1692 rfl (by decide) ?_
  refine zv_lald (v := (uo_1 0)) C dL_law_1692 1693 rfl 48 2 0 rfl rfl (by decide) (by decide) (by decide) rfl ?_
  refine zv_iload C dL_law_1693 1695 rfl 0 rfl ?_
  refine zv_i2l C dL_law_1695 1696 rfl ?_
  refine zv_lcmpE C dL_law_1696 1697 rfl (hu.trans (congrArg Int32.toInt64 (congrArg nI (hI.vInP p)))) ?_
  refine zv_if_eq C dL_law_1697 1700 1702 rfl (by decide) (fun _ => ?_) (fun q => absurd (by decide) q)
  refine zv_goto C dL_law_1702 1966 (by decide) ?_
  refine zv_widen (k' := kc + 17) (n' := ns + 168) (by omega) (by omega) ?_
  refine zv_sub [2, 3, 4, 5, 6] (lv' := [(0, .ref sc), (1, .ref (q 0)), (2, .ref (mh 0)), (3, .ref o), (4, .int (nI i))]) rfl ?_
  exact K n b y r 0 d f0 f1 f2 f3 f4 f5 f6 f7 f8 f9 f10 f11 f12 f13 n1 r1 g0 g1 g2 g3 g4 g5 g6 g7 g8 g9 g10 g11 g12 g13 bp bn uo_1 m0 m1 m2 m3 m4 m5 m6 m7 eg8_2 eg9_2 eg10_2 eg11_2 m12 m13 hI
set_option maxHeartbeats 4000000 in
set_option maxRecDepth 100000 in
theorem lc_yearsUntilRenamed_no {pP : Program} {l : Launch} {eE : Env} {sS : State} {mM : MethodId} {aA : Array Value} {bB : List Frame} {mT : Method} {cD : Code} {Q : State → Prop} {D : va_G} {cI cZ cJ : ClassId} {A : Nat → Prop} {sc L : Nat} {xs : Nat → Int32} {q h k mh : Nat → Nat} {o i kc ns : Nat} {n b : Nat} {y r t : Int32} {d : Nat → Nat} {f0 f1 f2 f3 f4 f5 f6 f7 f8 f9 f10 f11 f12 f13 : Nat → Int32} {n1 : Nat} {r1 : Int32} {g0 g1 g2 g3 g4 g5 g6 g7 g8 g9 g10 g11 g12 g13 bp bn : Nat → Int32} {u : Nat → Int64} {m0 m1 m2 m3 m4 m5 m6 m7 m8 m9 m10 m11 m12 m13 : Nat → Int32} (hl : l.stackTraces = false) (C : zv_C pP mM cD cL_law 9 sS aA wsL_law "RiverNamesLaw" A) (hA : A = fun q => sS.heap.size ≤ q) (hE : zx_E sS) (hX : va_X sc L xs sS sS.heap) (hsc : sc < sS.heap.size) (hi : i + 4 ≤ L) (hL : L ≤ 2048) (hkc : kc + 17 ≤ 601024) (hns : ns + 168 ≤ 7293034) (hI : LI n b r d f0 f1 f2 f3 f4 f5 f6 f7 f8 f9 f10 f11 f12 f13 bp bn m0 m1 m2 m3 m4 m5 m6 m7) (K : LK pP l eE sS mM aA bB mT cD Q D cI cZ cJ A sc q h k mh o i kc ns) (hf : isP n (xs (i + 1)) = false) : zv_V pP l eE room_1 sS mM aA bB mT cD Q 9 D vwCl A A (tyJ cI cZ cJ) ((cR cI cZ q h k (nI b) y (nI n) r f0 f1 f2 f3 f4 f5 f6 f7 f8 f9 f10 f11 f12 f13 (nI n1) r1 g0 g1 g2 g3 g4 g5 g6 g7 g8 g9 g10 g11 g12 g13 bp bn) ++ ((cM cI cZ mh t (nI n) r y (nI b) m0 m1 m2 m3 m4 m5 m6 m7 m8 m9 m10 m11 m12 m13) ++ [(o, .inl (cJ, 1, .inr (.inl u)))])) kc ns 1773 [(0, .ref sc), (1, .ref (q 0)), (2, .ref (mh 0)), (3, .ref o), (4, .int (nI i))] [] := by
  refine zv_aload_n C dL_law_1773 1774 rfl 1 rfl ?_
  refine zv_aload_n C dL_law_1774 1775 rfl 0 rfl ?_
  refine zv_iload C dL_law_1775 1777 rfl 4 rfl ?_
  refine zv_iconst (v := 1) C dL_law_1777 1778 rfl (by decide) ?_
  refine zv_iadd (v := (nI (i + 1))) C dL_law_1778 1779 rfl (nI_1 i) ?_
  refine zv_sld C hA hX hsc dL_law_1779 1780 rfl (i + 1) rfl (by omega) hL (v := (xs (i + 1))) rfl ?_
  refine zv_aload_n C dL_law_1780 1781 rfl 3 rfl ?_
  refine zv_callWE (rest := []) C hA hE (k_L_yearsUntilRenamed_t l D cI cZ cJ q h k b y n r f0 f1 f2 f3 f4 f5 f6 f7 f8 f9 f10 f11 f12 f13 n1 r1 g0 g1 g2 g3 g4 g5 g6 g7 g8 g9 g10 g11 g12 g13 bp bn o u (xs (i + 1)) hI.n16 (by first | assumption | omega) hl) (vx_cwSW 3 C.1.2.2.2.2 gL_law_L_yearsUntilRenamed rfl rfl rfl (by decide +kernel) ⟨Nat.le_of_ble_eq_true rfl, Nat.le_of_ble_eq_true rfl⟩) dL_law_1781 1784 rfl rfl rfl (Nat.le_of_ble_eq_true rfl) ⟨(by show kc + 1 ≤ 601024; omega), (by show ns + 6 ≤ 7293034; omega)⟩ [0, 1, 2] rfl [0, 1, 2, 3, 4, 5, 6, 7, 8, 9, 10, 11, 12, 13, 14, 15, 16, 17, 18, 19, 20, 21, 22, 23, 24, 25, 26, 27, 28, 29, 30, 31, 32, 48] rfl (by decide) (fun v hv => ?_)
  subst hv
  refine zv_go rfl rfl (st' := [.int 1]) rfl (kc' := kc + 1) rfl (ns' := ns + 6) rfl ?_
  refine zv_istore C dL_law_1784 1786 rfl [(5, .int 1), (0, .ref sc), (1, .ref (q 0)), (2, .ref (mh 0)), (3, .ref o), (4, .int (nI i))] (by decide) rfl ?_
  refine zv_aload_n C dL_law_1786 1787 rfl 3 rfl ?_
  refine zv_aload_n C dL_law_1787 1788 rfl 1 rfl ?_
  refine zv_iload C dL_law_1788 1790 rfl 5 rfl ?_
  refine zv_iconst (v := 1) C dL_law_1790 1791 rfl (by decide) ?_
  refine zv_iadd (v := (nI (i + 1))) C dL_law_1791 1792 rfl (nI_1 i) ?_
  refine zv_sld C hA hX hsc dL_law_1792 1793 rfl (i + 1) rfl (by omega) hL (v := (xs (i + 1))) rfl ?_
  refine zv_callV (rest := []) (wr := ((cR cI cZ q h k (nI b) y (nI n) r f0 f1 f2 f3 f4 f5 f6 f7 f8 f9 f10 f11 f12 f13 (nI n1) r1 g0 g1 g2 g3 g4 g5 g6 g7 g8 g9 g10 g11 g12 g13 bp bn) ++ [(o, .inl (cJ, 1, .inr (.inl u)))])) C (k_X2_yearsUntilRenamed_no l D cI cZ mh t n r y b m0 m1 m2 m3 m4 m5 m6 m7 m8 m9 m10 m11 m12 m13 (xs (i + 1)) hI.n16 (by first | assumption | omega)) (cwV 1 C.1.2.2.2.2 gL_law_X2_yearsUntilRenamed rfl rfl rfl (by decide +kernel) ⟨Nat.le_of_ble_eq_true rfl, Nat.le_of_ble_eq_true rfl⟩) dL_law_1793 1796 rfl (ci := 2) 0 rfl rfl rfl rfl (Nat.le_of_ble_eq_true rfl) ⟨(by show kc + 1 + 0 ≤ 601024; omega), (by show ns + 6 + 0 ≤ 7293034; omega)⟩ [0, 1] rfl [33, 34, 35, 36, 37, 38, 39, 40, 41, 42, 43, 44, 45, 46, 47] rfl (by decide) [0, 1, 2, 3, 4, 5, 6, 7, 8, 9, 10, 11, 12, 13, 14, 15, 16, 17, 18, 19, 20, 21, 22, 23, 24, 25, 26, 27, 28, 29, 30, 31, 32, 48] rfl (by decide) (by decide +kernel) (fun v w hv => ?_)
  obtain ⟨rfl, rfl⟩ := hv
  refine zv_go rfl rfl (st' := [.int 0]) rfl (kc' := kc + 1) rfl (ns' := ns + 6) rfl ?_
  refine zv_perm [0, 1, 2, 3, 4, 5, 6, 7, 8, 9, 10, 11, 12, 13, 14, 15, 16, 17, 18, 19, 20, 21, 22, 23, 24, 25, 26, 27, 28, 29, 30, 31, 32, 34, 35, 36, 37, 38, 39, 40, 41, 42, 43, 44, 45, 46, 47, 48, 33] (ws' := ((cR cI cZ q h k (nI b) y (nI n) r f0 f1 f2 f3 f4 f5 f6 f7 f8 f9 f10 f11 f12 f13 (nI n1) r1 g0 g1 g2 g3 g4 g5 g6 g7 g8 g9 g10 g11 g12 g13 bp bn) ++ ((cM cI cZ mh 1 (nI n) r y (nI b) m0 m1 m2 m3 m4 m5 m6 m7 m8 m9 m10 m11 m12 m13) ++ [(o, .inl (cJ, 1, .inr (.inl u)))]))) (by decide) rfl ?_
  refine zv_istore C dL_law_1796 1798 rfl [(6, .int 0), (5, .int 1), (0, .ref sc), (1, .ref (q 0)), (2, .ref (mh 0)), (3, .ref o), (4, .int (nI i))] (by decide) rfl ?_
  refine zv_aload_n C dL_law_1798 1799 rfl 4 rfl ?_
  refine zv_callVR (rest := []) C (k_X2_thrown l D cI cZ mh 1 n r y b m0 m1 m2 m3 m4 m5 m6 m7 m8 m9 m10 m11 m12 m13 ) (cwV 0 C.1.2.2.2.2 gL_law_X2_thrown rfl rfl rfl (by decide +kernel) ⟨Nat.le_of_ble_eq_true rfl, Nat.le_of_ble_eq_true rfl⟩) dL_law_1799 1802 rfl (ci := 2) 0 rfl rfl rfl rfl (Nat.le_of_ble_eq_true rfl) ⟨(by show kc + 1 + 0 ≤ 601024; omega), (by show ns + 6 + 0 ≤ 7293034; omega)⟩ [0, 1] rfl [33, 34, 35, 36, 37, 38, 39, 40, 41, 42, 43, 44, 45, 46, 47] rfl (by decide) (fun v hv => ?_)
  subst hv
  refine zv_go rfl rfl (st' := [.int 1]) rfl (kc' := kc + 1) rfl (ns' := ns + 6) rfl ?_
  refine zv_iload C dL_law_1802 1804 rfl 1 rfl ?_
  refine zv_icmp_eq C dL_law_1804 1807 1809 rfl (by decide) (fun _ => ?_) (fun q => absurd (by decide) q)
  refine zv_iload C dL_law_1809 1811 rfl 1 rfl ?_
  refine zv_if_ne C dL_law_1811 1814 1826 rfl (by decide) (fun _ => ?_) (fun q => absurd q (by decide))
  refine zv_goto C dL_law_1826 1966 (by decide) ?_
  refine zv_widen (k' := kc + 17) (n' := ns + 168) (by omega) (by omega) ?_
  refine zv_sub [2, 3, 4, 5, 6] (lv' := [(0, .ref sc), (1, .ref (q 0)), (2, .ref (mh 0)), (3, .ref o), (4, .int (nI i))]) rfl ?_
  exact K n b y r 1 d f0 f1 f2 f3 f4 f5 f6 f7 f8 f9 f10 f11 f12 f13 n1 r1 g0 g1 g2 g3 g4 g5 g6 g7 g8 g9 g10 g11 g12 g13 bp bn u m0 m1 m2 m3 m4 m5 m6 m7 m8 m9 m10 m11 m12 m13 hI
set_option maxHeartbeats 4000000 in
set_option maxRecDepth 100000 in
theorem lc_yearsUntilRenamed_ok {pP : Program} {l : Launch} {eE : Env} {sS : State} {mM : MethodId} {aA : Array Value} {bB : List Frame} {mT : Method} {cD : Code} {Q : State → Prop} {D : va_G} {cI cZ cJ : ClassId} {A : Nat → Prop} {sc L : Nat} {xs : Nat → Int32} {q h k mh : Nat → Nat} {o i kc ns : Nat} {n b : Nat} {y r t : Int32} {d : Nat → Nat} {f0 f1 f2 f3 f4 f5 f6 f7 f8 f9 f10 f11 f12 f13 : Nat → Int32} {n1 : Nat} {r1 : Int32} {g0 g1 g2 g3 g4 g5 g6 g7 g8 g9 g10 g11 g12 g13 bp bn : Nat → Int32} {u : Nat → Int64} {m0 m1 m2 m3 m4 m5 m6 m7 m8 m9 m10 m11 m12 m13 : Nat → Int32} (hl : l.stackTraces = false) (C : zv_C pP mM cD cL_law 9 sS aA wsL_law "RiverNamesLaw" A) (hA : A = fun q => sS.heap.size ≤ q) (hE : zx_E sS) (hX : va_X sc L xs sS sS.heap) (hsc : sc < sS.heap.size) (hi : i + 4 ≤ L) (hL : L ≤ 2048) (hkc : kc + 17 ≤ 601024) (hns : ns + 168 ≤ 7293034) (hI : LI n b r d f0 f1 f2 f3 f4 f5 f6 f7 f8 f9 f10 f11 f12 f13 bp bn m0 m1 m2 m3 m4 m5 m6 m7) (K : LK pP l eE sS mM aA bB mT cD Q D cI cZ cJ A sc q h k mh o i kc ns) (p : Nat) (hp : p < n) (e1 : xs (i + 1) = nI p) : zv_V pP l eE room_1 sS mM aA bB mT cD Q 9 D vwCl A A (tyJ cI cZ cJ) ((cR cI cZ q h k (nI b) y (nI n) r f0 f1 f2 f3 f4 f5 f6 f7 f8 f9 f10 f11 f12 f13 (nI n1) r1 g0 g1 g2 g3 g4 g5 g6 g7 g8 g9 g10 g11 g12 g13 bp bn) ++ ((cM cI cZ mh t (nI n) r y (nI b) m0 m1 m2 m3 m4 m5 m6 m7 m8 m9 m10 m11 m12 m13) ++ [(o, .inl (cJ, 1, .inr (.inl u)))])) kc ns 1773 [(0, .ref sc), (1, .ref (q 0)), (2, .ref (mh 0)), (3, .ref o), (4, .int (nI i))] [] := by
  refine zv_aload_n C dL_law_1773 1774 rfl 1 rfl ?_
  refine zv_aload_n C dL_law_1774 1775 rfl 0 rfl ?_
  refine zv_iload C dL_law_1775 1777 rfl 4 rfl ?_
  refine zv_iconst (v := 1) C dL_law_1777 1778 rfl (by decide) ?_
  refine zv_iadd (v := (nI (i + 1))) C dL_law_1778 1779 rfl (nI_1 i) ?_
  refine zv_sld C hA hX hsc dL_law_1779 1780 rfl (i + 1) rfl (by omega) hL (v := (nI p)) e1 ?_
  refine zv_aload_n C dL_law_1780 1781 rfl 3 rfl ?_
  refine zv_callW (rest := []) (wr := (cM cI cZ mh t (nI n) r y (nI b) m0 m1 m2 m3 m4 m5 m6 m7 m8 m9 m10 m11 m12 m13)) C (k_L_yearsUntilRenamed_ok l D cI cZ cJ q h k b y n r f0 f1 f2 f3 f4 f5 f6 f7 f8 f9 f10 f11 f12 f13 n1 r1 g0 g1 g2 g3 g4 g5 g6 g7 g8 g9 g10 g11 g12 g13 bp bn o u p d hI.n16 hI.dep hI.wat hI.stl hI.z2 hI.z6 hI.swlI (by first | assumption | omega)) (vx_cwSW 3 C.1.2.2.2.2 gL_law_L_yearsUntilRenamed rfl rfl rfl (by decide +kernel) ⟨Nat.le_of_ble_eq_true rfl, Nat.le_of_ble_eq_true rfl⟩) dL_law_1781 1784 rfl rfl rfl (Nat.le_of_ble_eq_true rfl) ⟨(by show kc + 0 ≤ 601024; omega), (by show ns + 0 ≤ 7293034; omega)⟩ [0, 1, 2] rfl [0, 1, 2, 3, 4, 5, 6, 7, 8, 9, 10, 11, 12, 13, 14, 15, 16, 17, 18, 19, 20, 21, 22, 23, 24, 25, 26, 27, 28, 29, 30, 31, 32, 48] rfl (by decide) [33, 34, 35, 36, 37, 38, 39, 40, 41, 42, 43, 44, 45, 46, 47] rfl (by decide) (by decide +kernel) (fun v w hv => ?_)
  obtain ⟨tn_1, tr_1, tg_1, uo_1, rfl, rfl, hu⟩ := hv
  refine zv_go rfl rfl (st' := [.int 0]) rfl (kc' := kc) rfl (ns' := ns) rfl ?_
  refine zv_perm [15, 16, 17, 18, 19, 20, 21, 22, 23, 24, 25, 26, 27, 28, 29, 30, 31, 32, 33, 34, 35, 36, 37, 38, 39, 40, 41, 42, 43, 44, 45, 46, 47, 0, 1, 2, 3, 4, 5, 6, 7, 8, 9, 10, 11, 12, 13, 14, 48] (ws' := ((cR cI cZ q h k (nI b) y (nI n) r f0 f1 f2 f3 f4 f5 f6 f7 f8 f9 f10 f11 f12 f13 (nI tn_1) tr_1 (tg_1 0) (tg_1 1) (tg_1 2) (tg_1 3) (tg_1 4) (tg_1 5) (tg_1 6) (tg_1 7) (tg_1 8) (tg_1 9) (tg_1 10) (tg_1 11) (tg_1 12) (tg_1 13) bp bn) ++ ((cM cI cZ mh t (nI n) r y (nI b) m0 m1 m2 m3 m4 m5 m6 m7 m8 m9 m10 m11 m12 m13) ++ [(o, .inl (cJ, 1, .inr (.inl uo_1)))]))) (by decide) rfl ?_
  refine zv_istore C dL_law_1784 1786 rfl [(5, .int 0), (0, .ref sc), (1, .ref (q 0)), (2, .ref (mh 0)), (3, .ref o), (4, .int (nI i))] (by decide) rfl ?_
  refine zv_aload_n C dL_law_1786 1787 rfl 3 rfl ?_
  refine zv_aload_n C dL_law_1787 1788 rfl 1 rfl ?_
  refine zv_iload C dL_law_1788 1790 rfl 5 rfl ?_
  refine zv_iconst (v := 1) C dL_law_1790 1791 rfl (by decide) ?_
  refine zv_iadd (v := (nI (i + 1))) C dL_law_1791 1792 rfl (nI_1 i) ?_
  refine zv_sld C hA hX hsc dL_law_1792 1793 rfl (i + 1) rfl (by omega) hL (v := (nI p)) e1 ?_
  refine zv_callV (rest := []) (wr := ((cR cI cZ q h k (nI b) y (nI n) r f0 f1 f2 f3 f4 f5 f6 f7 f8 f9 f10 f11 f12 f13 (nI tn_1) tr_1 (tg_1 0) (tg_1 1) (tg_1 2) (tg_1 3) (tg_1 4) (tg_1 5) (tg_1 6) (tg_1 7) (tg_1 8) (tg_1 9) (tg_1 10) (tg_1 11) (tg_1 12) (tg_1 13) bp bn) ++ [(o, .inl (cJ, 1, .inr (.inl uo_1)))])) C (k_X2_yearsUntilRenamed_ok l D cI cZ mh t n r y b m0 m1 m2 m3 m4 m5 m6 m7 m8 m9 m10 m11 m12 m13 p f1 d hI.n16 hI.depM (by first | assumption | omega)) (cwV 1 C.1.2.2.2.2 gL_law_X2_yearsUntilRenamed rfl rfl rfl (by decide +kernel) ⟨Nat.le_of_ble_eq_true rfl, Nat.le_of_ble_eq_true rfl⟩) dL_law_1793 1796 rfl (ci := 2) 0 rfl rfl rfl rfl (Nat.le_of_ble_eq_true rfl) ⟨(by show kc + 0 ≤ 601024; omega), (by show ns + 0 ≤ 7293034; omega)⟩ [0, 1] rfl [33, 34, 35, 36, 37, 38, 39, 40, 41, 42, 43, 44, 45, 46, 47] rfl (by decide) [0, 1, 2, 3, 4, 5, 6, 7, 8, 9, 10, 11, 12, 13, 14, 15, 16, 17, 18, 19, 20, 21, 22, 23, 24, 25, 26, 27, 28, 29, 30, 31, 32, 48] rfl (by decide) (by decide +kernel) (fun v w hv => ?_)
  obtain ⟨eg3_2, eg8_2, eg9_2, eg10_2, eg11_2, eg12_2, eg13_2, rfl, rfl, hm1⟩ := hv
  refine zv_go rfl rfl (st' := [.int (utl (anY n m0 m1 m2 m3 m4 m5 r p) 50)]) rfl (kc' := kc) rfl (ns' := ns) rfl ?_
  refine zv_perm [0, 1, 2, 3, 4, 5, 6, 7, 8, 9, 10, 11, 12, 13, 14, 15, 16, 17, 18, 19, 20, 21, 22, 23, 24, 25, 26, 27, 28, 29, 30, 31, 32, 34, 35, 36, 37, 38, 39, 40, 41, 42, 43, 44, 45, 46, 47, 48, 33] (ws' := ((cR cI cZ q h k (nI b) y (nI n) r f0 f1 f2 f3 f4 f5 f6 f7 f8 f9 f10 f11 f12 f13 (nI tn_1) tr_1 (tg_1 0) (tg_1 1) (tg_1 2) (tg_1 3) (tg_1 4) (tg_1 5) (tg_1 6) (tg_1 7) (tg_1 8) (tg_1 9) (tg_1 10) (tg_1 11) (tg_1 12) (tg_1 13) bp bn) ++ ((cM cI cZ mh 0 (nI n) r y (nI b) m0 m1 m2 eg3_2 m4 m5 m6 m7 eg8_2 eg9_2 eg10_2 eg11_2 eg12_2 eg13_2) ++ [(o, .inl (cJ, 1, .inr (.inl uo_1)))]))) (by decide) rfl ?_
  refine zv_istore C dL_law_1796 1798 rfl [(6, .int (utl (anY n m0 m1 m2 m3 m4 m5 r p) 50)), (5, .int 0), (0, .ref sc), (1, .ref (q 0)), (2, .ref (mh 0)), (3, .ref o), (4, .int (nI i))] (by decide) rfl ?_
  refine zv_aload_n C dL_law_1798 1799 rfl 4 rfl ?_
  refine zv_callVR (rest := []) C (k_X2_thrown l D cI cZ mh 0 n r y b m0 m1 m2 eg3_2 m4 m5 m6 m7 eg8_2 eg9_2 eg10_2 eg11_2 eg12_2 eg13_2 ) (cwV 0 C.1.2.2.2.2 gL_law_X2_thrown rfl rfl rfl (by decide +kernel) ⟨Nat.le_of_ble_eq_true rfl, Nat.le_of_ble_eq_true rfl⟩) dL_law_1799 1802 rfl (ci := 2) 0 rfl rfl rfl rfl (Nat.le_of_ble_eq_true rfl) ⟨(by show kc + 0 ≤ 601024; omega), (by show ns + 0 ≤ 7293034; omega)⟩ [0, 1] rfl [33, 34, 35, 36, 37, 38, 39, 40, 41, 42, 43, 44, 45, 46, 47] rfl (by decide) (fun v hv => ?_)
  subst hv
  refine zv_go rfl rfl (st' := [.int 0]) rfl (kc' := kc) rfl (ns' := ns) rfl ?_
  refine zv_iload C dL_law_1802 1804 rfl 1 rfl ?_
  refine zv_icmp_eq C dL_law_1804 1807 1809 rfl (by decide) (fun _ => ?_) (fun q => absurd (by decide) q)
  refine zv_iload C dL_law_1809 1811 rfl 1 rfl ?_
  refine zv_if_ne C dL_law_1811 1814 1826 rfl (by decide) (fun q => absurd (by decide) q) (fun _ => ?_)
  refine zv_aload_n C dL_law_1814 1815 rfl 5 rfl ?_
  refine zv_iconst (v := 0) C dL_law_1815 1816 rfl (by decide) ?_
  refine zv_lald (v := (uo_1 0)) C dL_law_1816 1817 rfl 48 2 0 rfl rfl (by decide) (by decide) (by decide) rfl ?_
  refine zv_iload C dL_law_1817 1819 rfl 0 rfl ?_
  refine zv_i2l C dL_law_1819 1820 rfl ?_
  refine zv_lcmpE C dL_law_1820 1821 rfl (hu.trans (congrArg Int32.toInt64 (hI.vUtl p))) ?_
  refine zv_if_eq C dL_law_1821 1824 1826 rfl (by decide) (fun _ => ?_) (fun q => absurd (by decide) q)
  refine zv_goto C dL_law_1826 1966 (by decide) ?_
  refine zv_widen (k' := kc + 17) (n' := ns + 168) (by omega) (by omega) ?_
  refine zv_sub [2, 3, 4, 5, 6] (lv' := [(0, .ref sc), (1, .ref (q 0)), (2, .ref (mh 0)), (3, .ref o), (4, .int (nI i))]) rfl ?_
  exact K n b y r 0 d f0 f1 f2 f3 f4 f5 f6 f7 f8 f9 f10 f11 f12 f13 tn_1 tr_1 (tg_1 0) (tg_1 1) (tg_1 2) (tg_1 3) (tg_1 4) (tg_1 5) (tg_1 6) (tg_1 7) (tg_1 8) (tg_1 9) (tg_1 10) (tg_1 11) (tg_1 12) (tg_1 13) bp bn uo_1 m0 m1 m2 eg3_2 m4 m5 m6 m7 eg8_2 eg9_2 eg10_2 eg11_2 eg12_2 eg13_2 (hI.keep3 hm1)
set_option maxHeartbeats 4000000 in
set_option maxRecDepth 100000 in
theorem lc_renamedByDelta_no {pP : Program} {l : Launch} {eE : Env} {sS : State} {mM : MethodId} {aA : Array Value} {bB : List Frame} {mT : Method} {cD : Code} {Q : State → Prop} {D : va_G} {cI cZ cJ : ClassId} {A : Nat → Prop} {sc L : Nat} {xs : Nat → Int32} {q h k mh : Nat → Nat} {o i kc ns : Nat} {n b : Nat} {y r t : Int32} {d : Nat → Nat} {f0 f1 f2 f3 f4 f5 f6 f7 f8 f9 f10 f11 f12 f13 : Nat → Int32} {n1 : Nat} {r1 : Int32} {g0 g1 g2 g3 g4 g5 g6 g7 g8 g9 g10 g11 g12 g13 bp bn : Nat → Int32} {u : Nat → Int64} {m0 m1 m2 m3 m4 m5 m6 m7 m8 m9 m10 m11 m12 m13 : Nat → Int32} (hl : l.stackTraces = false) (C : zv_C pP mM cD cL_law 9 sS aA wsL_law "RiverNamesLaw" A) (hA : A = fun q => sS.heap.size ≤ q) (hE : zx_E sS) (hX : va_X sc L xs sS sS.heap) (hsc : sc < sS.heap.size) (hi : i + 4 ≤ L) (hL : L ≤ 2048) (hkc : kc + 17 ≤ 601024) (hns : ns + 168 ≤ 7293034) (hI : LI n b r d f0 f1 f2 f3 f4 f5 f6 f7 f8 f9 f10 f11 f12 f13 bp bn m0 m1 m2 m3 m4 m5 m6 m7) (K : LK pP l eE sS mM aA bB mT cD Q D cI cZ cJ A sc q h k mh o i kc ns) (hf : isP n (xs (i + 1)) = false) : zv_V pP l eE room_1 sS mM aA bB mT cD Q 9 D vwCl A A (tyJ cI cZ cJ) ((cR cI cZ q h k (nI b) y (nI n) r f0 f1 f2 f3 f4 f5 f6 f7 f8 f9 f10 f11 f12 f13 (nI n1) r1 g0 g1 g2 g3 g4 g5 g6 g7 g8 g9 g10 g11 g12 g13 bp bn) ++ ((cM cI cZ mh t (nI n) r y (nI b) m0 m1 m2 m3 m4 m5 m6 m7 m8 m9 m10 m11 m12 m13) ++ [(o, .inl (cJ, 1, .inr (.inl u)))])) kc ns 1842 [(0, .ref sc), (1, .ref (q 0)), (2, .ref (mh 0)), (3, .ref o), (4, .int (nI i))] [] := by
  refine zv_aload_n C dL_law_1842 1843 rfl 1 rfl ?_
  refine zv_aload_n C dL_law_1843 1844 rfl 0 rfl ?_
  refine zv_iload C dL_law_1844 1846 rfl 4 rfl ?_
  refine zv_iconst (v := 1) C dL_law_1846 1847 rfl (by decide) ?_
  refine zv_iadd (v := (nI (i + 1))) C dL_law_1847 1848 rfl (nI_1 i) ?_
  refine zv_sld C hA hX hsc dL_law_1848 1849 rfl (i + 1) rfl (by omega) hL (v := (xs (i + 1))) rfl ?_
  refine zv_aload_n C dL_law_1849 1850 rfl 3 rfl ?_
  refine zv_callWE (rest := []) C hA hE (k_L_renamedByDelta_t l D cI cZ cJ q h k b y n r f0 f1 f2 f3 f4 f5 f6 f7 f8 f9 f10 f11 f12 f13 n1 r1 g0 g1 g2 g3 g4 g5 g6 g7 g8 g9 g10 g11 g12 g13 bp bn o u (xs (i + 1)) hI.n16 (by first | assumption | omega) hl) (vx_cwSW 3 C.1.2.2.2.2 gL_law_L_renamedByDelta rfl rfl rfl (by decide +kernel) ⟨Nat.le_of_ble_eq_true rfl, Nat.le_of_ble_eq_true rfl⟩) dL_law_1850 1853 rfl rfl rfl (Nat.le_of_ble_eq_true rfl) ⟨(by show kc + 1 ≤ 601024; omega), (by show ns + 6 ≤ 7293034; omega)⟩ [0, 1, 2] rfl [0, 1, 2, 3, 4, 5, 6, 7, 8, 9, 10, 11, 12, 13, 14, 15, 16, 17, 18, 19, 20, 21, 22, 23, 24, 25, 26, 27, 28, 29, 30, 31, 32, 48] rfl (by decide) (fun v hv => ?_)
  subst hv
  refine zv_go rfl rfl (st' := [.int 1]) rfl (kc' := kc + 1) rfl (ns' := ns + 6) rfl ?_
  refine zv_istore C dL_law_1853 1855 rfl [(5, .int 1), (0, .ref sc), (1, .ref (q 0)), (2, .ref (mh 0)), (3, .ref o), (4, .int (nI i))] (by decide) rfl ?_
  refine zv_aload_n C dL_law_1855 1856 rfl 3 rfl ?_
  refine zv_aload_n C dL_law_1856 1857 rfl 1 rfl ?_
  refine zv_iload C dL_law_1857 1859 rfl 5 rfl ?_
  refine zv_iconst (v := 1) C dL_law_1859 1860 rfl (by decide) ?_
  refine zv_iadd (v := (nI (i + 1))) C dL_law_1860 1861 rfl (nI_1 i) ?_
  refine zv_sld C hA hX hsc dL_law_1861 1862 rfl (i + 1) rfl (by omega) hL (v := (xs (i + 1))) rfl ?_
  refine zv_callV (rest := []) (wr := ((cR cI cZ q h k (nI b) y (nI n) r f0 f1 f2 f3 f4 f5 f6 f7 f8 f9 f10 f11 f12 f13 (nI n1) r1 g0 g1 g2 g3 g4 g5 g6 g7 g8 g9 g10 g11 g12 g13 bp bn) ++ [(o, .inl (cJ, 1, .inr (.inl u)))])) C (k_X2_renamedByDelta_no l D cI cZ mh t n r y b m0 m1 m2 m3 m4 m5 m6 m7 m8 m9 m10 m11 m12 m13 (xs (i + 1)) hI.n16 (by first | assumption | omega)) (cwV 1 C.1.2.2.2.2 gL_law_X2_renamedByDelta rfl rfl rfl (by decide +kernel) ⟨Nat.le_of_ble_eq_true rfl, Nat.le_of_ble_eq_true rfl⟩) dL_law_1862 1865 rfl (ci := 2) 0 rfl rfl rfl rfl (Nat.le_of_ble_eq_true rfl) ⟨(by show kc + 1 + 0 ≤ 601024; omega), (by show ns + 6 + 0 ≤ 7293034; omega)⟩ [0, 1] rfl [33, 34, 35, 36, 37, 38, 39, 40, 41, 42, 43, 44, 45, 46, 47] rfl (by decide) [0, 1, 2, 3, 4, 5, 6, 7, 8, 9, 10, 11, 12, 13, 14, 15, 16, 17, 18, 19, 20, 21, 22, 23, 24, 25, 26, 27, 28, 29, 30, 31, 32, 48] rfl (by decide) (by decide +kernel) (fun v w hv => ?_)
  obtain ⟨rfl, rfl⟩ := hv
  refine zv_go rfl rfl (st' := [.int 0]) rfl (kc' := kc + 1) rfl (ns' := ns + 6) rfl ?_
  refine zv_perm [0, 1, 2, 3, 4, 5, 6, 7, 8, 9, 10, 11, 12, 13, 14, 15, 16, 17, 18, 19, 20, 21, 22, 23, 24, 25, 26, 27, 28, 29, 30, 31, 32, 34, 35, 36, 37, 38, 39, 40, 41, 42, 43, 44, 45, 46, 47, 48, 33] (ws' := ((cR cI cZ q h k (nI b) y (nI n) r f0 f1 f2 f3 f4 f5 f6 f7 f8 f9 f10 f11 f12 f13 (nI n1) r1 g0 g1 g2 g3 g4 g5 g6 g7 g8 g9 g10 g11 g12 g13 bp bn) ++ ((cM cI cZ mh 1 (nI n) r y (nI b) m0 m1 m2 m3 m4 m5 m6 m7 m8 m9 m10 m11 m12 m13) ++ [(o, .inl (cJ, 1, .inr (.inl u)))]))) (by decide) rfl ?_
  refine zv_istore C dL_law_1865 1867 rfl [(6, .int 0), (5, .int 1), (0, .ref sc), (1, .ref (q 0)), (2, .ref (mh 0)), (3, .ref o), (4, .int (nI i))] (by decide) rfl ?_
  refine zv_aload_n C dL_law_1867 1868 rfl 4 rfl ?_
  refine zv_callVR (rest := []) C (k_X2_thrown l D cI cZ mh 1 n r y b m0 m1 m2 m3 m4 m5 m6 m7 m8 m9 m10 m11 m12 m13 ) (cwV 0 C.1.2.2.2.2 gL_law_X2_thrown rfl rfl rfl (by decide +kernel) ⟨Nat.le_of_ble_eq_true rfl, Nat.le_of_ble_eq_true rfl⟩) dL_law_1868 1871 rfl (ci := 2) 0 rfl rfl rfl rfl (Nat.le_of_ble_eq_true rfl) ⟨(by show kc + 1 + 0 ≤ 601024; omega), (by show ns + 6 + 0 ≤ 7293034; omega)⟩ [0, 1] rfl [33, 34, 35, 36, 37, 38, 39, 40, 41, 42, 43, 44, 45, 46, 47] rfl (by decide) (fun v hv => ?_)
  subst hv
  refine zv_go rfl rfl (st' := [.int 1]) rfl (kc' := kc + 1) rfl (ns' := ns + 6) rfl ?_
  refine zv_iload C dL_law_1871 1873 rfl 1 rfl ?_
  refine zv_icmp_eq C dL_law_1873 1876 1878 rfl (by decide) (fun _ => ?_) (fun q => absurd (by decide) q)
  refine zv_iload C dL_law_1878 1880 rfl 1 rfl ?_
  refine zv_if_ne C dL_law_1880 1883 1895 rfl (by decide) (fun _ => ?_) (fun q => absurd q (by decide))
  refine zv_goto C dL_law_1895 1966 (by decide) ?_
  refine zv_widen (k' := kc + 17) (n' := ns + 168) (by omega) (by omega) ?_
  refine zv_sub [2, 3, 4, 5, 6] (lv' := [(0, .ref sc), (1, .ref (q 0)), (2, .ref (mh 0)), (3, .ref o), (4, .int (nI i))]) rfl ?_
  exact K n b y r 1 d f0 f1 f2 f3 f4 f5 f6 f7 f8 f9 f10 f11 f12 f13 n1 r1 g0 g1 g2 g3 g4 g5 g6 g7 g8 g9 g10 g11 g12 g13 bp bn u m0 m1 m2 m3 m4 m5 m6 m7 m8 m9 m10 m11 m12 m13 hI
set_option maxHeartbeats 4000000 in
set_option maxRecDepth 100000 in
theorem lc_renamedByDelta_ok {pP : Program} {l : Launch} {eE : Env} {sS : State} {mM : MethodId} {aA : Array Value} {bB : List Frame} {mT : Method} {cD : Code} {Q : State → Prop} {D : va_G} {cI cZ cJ : ClassId} {A : Nat → Prop} {sc L : Nat} {xs : Nat → Int32} {q h k mh : Nat → Nat} {o i kc ns : Nat} {n b : Nat} {y r t : Int32} {d : Nat → Nat} {f0 f1 f2 f3 f4 f5 f6 f7 f8 f9 f10 f11 f12 f13 : Nat → Int32} {n1 : Nat} {r1 : Int32} {g0 g1 g2 g3 g4 g5 g6 g7 g8 g9 g10 g11 g12 g13 bp bn : Nat → Int32} {u : Nat → Int64} {m0 m1 m2 m3 m4 m5 m6 m7 m8 m9 m10 m11 m12 m13 : Nat → Int32} (hl : l.stackTraces = false) (C : zv_C pP mM cD cL_law 9 sS aA wsL_law "RiverNamesLaw" A) (hA : A = fun q => sS.heap.size ≤ q) (hE : zx_E sS) (hX : va_X sc L xs sS sS.heap) (hsc : sc < sS.heap.size) (hi : i + 4 ≤ L) (hL : L ≤ 2048) (hkc : kc + 17 ≤ 601024) (hns : ns + 168 ≤ 7293034) (hI : LI n b r d f0 f1 f2 f3 f4 f5 f6 f7 f8 f9 f10 f11 f12 f13 bp bn m0 m1 m2 m3 m4 m5 m6 m7) (K : LK pP l eE sS mM aA bB mT cD Q D cI cZ cJ A sc q h k mh o i kc ns) (p : Nat) (hp : p < n) (e1 : xs (i + 1) = nI p) : zv_V pP l eE room_1 sS mM aA bB mT cD Q 9 D vwCl A A (tyJ cI cZ cJ) ((cR cI cZ q h k (nI b) y (nI n) r f0 f1 f2 f3 f4 f5 f6 f7 f8 f9 f10 f11 f12 f13 (nI n1) r1 g0 g1 g2 g3 g4 g5 g6 g7 g8 g9 g10 g11 g12 g13 bp bn) ++ ((cM cI cZ mh t (nI n) r y (nI b) m0 m1 m2 m3 m4 m5 m6 m7 m8 m9 m10 m11 m12 m13) ++ [(o, .inl (cJ, 1, .inr (.inl u)))])) kc ns 1842 [(0, .ref sc), (1, .ref (q 0)), (2, .ref (mh 0)), (3, .ref o), (4, .int (nI i))] [] := by
  refine zv_aload_n C dL_law_1842 1843 rfl 1 rfl ?_
  refine zv_aload_n C dL_law_1843 1844 rfl 0 rfl ?_
  refine zv_iload C dL_law_1844 1846 rfl 4 rfl ?_
  refine zv_iconst (v := 1) C dL_law_1846 1847 rfl (by decide) ?_
  refine zv_iadd (v := (nI (i + 1))) C dL_law_1847 1848 rfl (nI_1 i) ?_
  refine zv_sld C hA hX hsc dL_law_1848 1849 rfl (i + 1) rfl (by omega) hL (v := (nI p)) e1 ?_
  refine zv_aload_n C dL_law_1849 1850 rfl 3 rfl ?_
  refine zv_callW (rest := []) (wr := (cM cI cZ mh t (nI n) r y (nI b) m0 m1 m2 m3 m4 m5 m6 m7 m8 m9 m10 m11 m12 m13)) C (k_L_renamedByDelta_ok l D cI cZ cJ q h k b y n r f0 f1 f2 f3 f4 f5 f6 f7 f8 f9 f10 f11 f12 f13 n1 r1 g0 g1 g2 g3 g4 g5 g6 g7 g8 g9 g10 g11 g12 g13 bp bn o u p d hI.n16 hI.dep hI.wat hI.stl hI.z2 hI.z6 (by first | assumption | omega)) (vx_cwSW 3 C.1.2.2.2.2 gL_law_L_renamedByDelta rfl rfl rfl (by decide +kernel) ⟨Nat.le_of_ble_eq_true rfl, Nat.le_of_ble_eq_true rfl⟩) dL_law_1850 1853 rfl rfl rfl (Nat.le_of_ble_eq_true rfl) ⟨(by show kc + 0 ≤ 601024; omega), (by show ns + 0 ≤ 7293034; omega)⟩ [0, 1, 2] rfl [0, 1, 2, 3, 4, 5, 6, 7, 8, 9, 10, 11, 12, 13, 14, 15, 16, 17, 18, 19, 20, 21, 22, 23, 24, 25, 26, 27, 28, 29, 30, 31, 32, 48] rfl (by decide) [33, 34, 35, 36, 37, 38, 39, 40, 41, 42, 43, 44, 45, 46, 47] rfl (by decide) (by decide +kernel) (fun v w hv => ?_)
  obtain ⟨tn_1, tr_1, tg_1, uo_1, rfl, rfl, hu⟩ := hv
  refine zv_go rfl rfl (st' := [.int 0]) rfl (kc' := kc) rfl (ns' := ns) rfl ?_
  refine zv_perm [15, 16, 17, 18, 19, 20, 21, 22, 23, 24, 25, 26, 27, 28, 29, 30, 31, 32, 33, 34, 35, 36, 37, 38, 39, 40, 41, 42, 43, 44, 45, 46, 47, 0, 1, 2, 3, 4, 5, 6, 7, 8, 9, 10, 11, 12, 13, 14, 48] (ws' := ((cR cI cZ q h k (nI b) y (nI n) r f0 f1 f2 f3 f4 f5 f6 f7 f8 f9 f10 f11 f12 f13 (nI tn_1) tr_1 (tg_1 0) (tg_1 1) (tg_1 2) (tg_1 3) (tg_1 4) (tg_1 5) (tg_1 6) (tg_1 7) (tg_1 8) (tg_1 9) (tg_1 10) (tg_1 11) (tg_1 12) (tg_1 13) bp bn) ++ ((cM cI cZ mh t (nI n) r y (nI b) m0 m1 m2 m3 m4 m5 m6 m7 m8 m9 m10 m11 m12 m13) ++ [(o, .inl (cJ, 1, .inr (.inl uo_1)))]))) (by decide) rfl ?_
  refine zv_istore C dL_law_1853 1855 rfl [(5, .int 0), (0, .ref sc), (1, .ref (q 0)), (2, .ref (mh 0)), (3, .ref o), (4, .int (nI i))] (by decide) rfl ?_
  refine zv_aload_n C dL_law_1855 1856 rfl 3 rfl ?_
  refine zv_aload_n C dL_law_1856 1857 rfl 1 rfl ?_
  refine zv_iload C dL_law_1857 1859 rfl 5 rfl ?_
  refine zv_iconst (v := 1) C dL_law_1859 1860 rfl (by decide) ?_
  refine zv_iadd (v := (nI (i + 1))) C dL_law_1860 1861 rfl (nI_1 i) ?_
  refine zv_sld C hA hX hsc dL_law_1861 1862 rfl (i + 1) rfl (by omega) hL (v := (nI p)) e1 ?_
  refine zv_callV (rest := []) (wr := ((cR cI cZ q h k (nI b) y (nI n) r f0 f1 f2 f3 f4 f5 f6 f7 f8 f9 f10 f11 f12 f13 (nI tn_1) tr_1 (tg_1 0) (tg_1 1) (tg_1 2) (tg_1 3) (tg_1 4) (tg_1 5) (tg_1 6) (tg_1 7) (tg_1 8) (tg_1 9) (tg_1 10) (tg_1 11) (tg_1 12) (tg_1 13) bp bn) ++ [(o, .inl (cJ, 1, .inr (.inl uo_1)))])) C (k_X2_renamedByDelta_ok l D cI cZ mh t n r y b m0 m1 m2 m3 m4 m5 m6 m7 m8 m9 m10 m11 m12 m13 p f1 d hI.n16 hI.depM (by first | assumption | omega) (hI.zm5 p)) (cwV 1 C.1.2.2.2.2 gL_law_X2_renamedByDelta rfl rfl rfl (by decide +kernel) ⟨Nat.le_of_ble_eq_true rfl, Nat.le_of_ble_eq_true rfl⟩) dL_law_1862 1865 rfl (ci := 2) 0 rfl rfl rfl rfl (Nat.le_of_ble_eq_true rfl) ⟨(by show kc + 0 ≤ 601024; omega), (by show ns + 0 ≤ 7293034; omega)⟩ [0, 1] rfl [33, 34, 35, 36, 37, 38, 39, 40, 41, 42, 43, 44, 45, 46, 47] rfl (by decide) [0, 1, 2, 3, 4, 5, 6, 7, 8, 9, 10, 11, 12, 13, 14, 15, 16, 17, 18, 19, 20, 21, 22, 23, 24, 25, 26, 27, 28, 29, 30, 31, 32, 48] rfl (by decide) (by decide +kernel) (fun v w hv => ?_)
  obtain ⟨eg5_2, eg8_2, eg9_2, eg10_2, eg11_2, eg12_2, rfl, rfl, hm1⟩ := hv
  refine zv_go rfl rfl (st' := [.int (nI (cne (nmS n m0 m1 m2 m3 (upd m5 p (tg (m5 p))) r) (nmS n m0 m1 m2 m3 m5 r) n))]) rfl (kc' := kc) rfl (ns' := ns) rfl ?_
  refine zv_perm [0, 1, 2, 3, 4, 5, 6, 7, 8, 9, 10, 11, 12, 13, 14, 15, 16, 17, 18, 19, 20, 21, 22, 23, 24, 25, 26, 27, 28, 29, 30, 31, 32, 34, 35, 36, 37, 38, 39, 40, 41, 42, 43, 44, 45, 46, 47, 48, 33] (ws' := ((cR cI cZ q h k (nI b) y (nI n) r f0 f1 f2 f3 f4 f5 f6 f7 f8 f9 f10 f11 f12 f13 (nI tn_1) tr_1 (tg_1 0) (tg_1 1) (tg_1 2) (tg_1 3) (tg_1 4) (tg_1 5) (tg_1 6) (tg_1 7) (tg_1 8) (tg_1 9) (tg_1 10) (tg_1 11) (tg_1 12) (tg_1 13) bp bn) ++ ((cM cI cZ mh 0 (nI n) r y (nI b) m0 m1 m2 m3 m4 eg5_2 m6 m7 eg8_2 eg9_2 eg10_2 eg11_2 eg12_2 m13) ++ [(o, .inl (cJ, 1, .inr (.inl uo_1)))]))) (by decide) rfl ?_
  refine zv_istore C dL_law_1865 1867 rfl [(6, .int (nI (cne (nmS n m0 m1 m2 m3 (upd m5 p (tg (m5 p))) r) (nmS n m0 m1 m2 m3 m5 r) n))), (5, .int 0), (0, .ref sc), (1, .ref (q 0)), (2, .ref (mh 0)), (3, .ref o), (4, .int (nI i))] (by decide) rfl ?_
  refine zv_aload_n C dL_law_1867 1868 rfl 4 rfl ?_
  refine zv_callVR (rest := []) C (k_X2_thrown l D cI cZ mh 0 n r y b m0 m1 m2 m3 m4 eg5_2 m6 m7 eg8_2 eg9_2 eg10_2 eg11_2 eg12_2 m13 ) (cwV 0 C.1.2.2.2.2 gL_law_X2_thrown rfl rfl rfl (by decide +kernel) ⟨Nat.le_of_ble_eq_true rfl, Nat.le_of_ble_eq_true rfl⟩) dL_law_1868 1871 rfl (ci := 2) 0 rfl rfl rfl rfl (Nat.le_of_ble_eq_true rfl) ⟨(by show kc + 0 ≤ 601024; omega), (by show ns + 0 ≤ 7293034; omega)⟩ [0, 1] rfl [33, 34, 35, 36, 37, 38, 39, 40, 41, 42, 43, 44, 45, 46, 47] rfl (by decide) (fun v hv => ?_)
  subst hv
  refine zv_go rfl rfl (st' := [.int 0]) rfl (kc' := kc) rfl (ns' := ns) rfl ?_
  refine zv_iload C dL_law_1871 1873 rfl 1 rfl ?_
  refine zv_icmp_eq C dL_law_1873 1876 1878 rfl (by decide) (fun _ => ?_) (fun q => absurd (by decide) q)
  refine zv_iload C dL_law_1878 1880 rfl 1 rfl ?_
  refine zv_if_ne C dL_law_1880 1883 1895 rfl (by decide) (fun q => absurd (by decide) q) (fun _ => ?_)
  refine zv_aload_n C dL_law_1883 1884 rfl 5 rfl ?_
  refine zv_iconst (v := 0) C dL_law_1884 1885 rfl (by decide) ?_
  refine zv_lald (v := (uo_1 0)) C dL_law_1885 1886 rfl 48 2 0 rfl rfl (by decide) (by decide) (by decide) rfl ?_
  refine zv_iload C dL_law_1886 1888 rfl 0 rfl ?_
  refine zv_i2l C dL_law_1888 1889 rfl ?_
  refine zv_lcmpE C dL_law_1889 1890 rfl (hu.trans (congrArg Int32.toInt64 (congrArg nI (hI.vDel hp)))) ?_
  refine zv_if_eq C dL_law_1890 1893 1895 rfl (by decide) (fun _ => ?_) (fun q => absurd (by decide) q)
  refine zv_goto C dL_law_1895 1966 (by decide) ?_
  refine zv_widen (k' := kc + 17) (n' := ns + 168) (by omega) (by omega) ?_
  refine zv_sub [2, 3, 4, 5, 6] (lv' := [(0, .ref sc), (1, .ref (q 0)), (2, .ref (mh 0)), (3, .ref o), (4, .int (nI i))]) rfl ?_
  exact K n b y r 0 d f0 f1 f2 f3 f4 f5 f6 f7 f8 f9 f10 f11 f12 f13 tn_1 tr_1 (tg_1 0) (tg_1 1) (tg_1 2) (tg_1 3) (tg_1 4) (tg_1 5) (tg_1 6) (tg_1 7) (tg_1 8) (tg_1 9) (tg_1 10) (tg_1 11) (tg_1 12) (tg_1 13) bp bn uo_1 m0 m1 m2 m3 m4 eg5_2 m6 m7 eg8_2 eg9_2 eg10_2 eg11_2 eg12_2 m13 (by subst hm1; exact hI)
set_option maxHeartbeats 4000000 in
set_option maxRecDepth 100000 in
theorem lc_turnDelta_no {pP : Program} {l : Launch} {eE : Env} {sS : State} {mM : MethodId} {aA : Array Value} {bB : List Frame} {mT : Method} {cD : Code} {Q : State → Prop} {D : va_G} {cI cZ cJ : ClassId} {A : Nat → Prop} {sc L : Nat} {xs : Nat → Int32} {q h k mh : Nat → Nat} {o i kc ns : Nat} {n b : Nat} {y r t : Int32} {d : Nat → Nat} {f0 f1 f2 f3 f4 f5 f6 f7 f8 f9 f10 f11 f12 f13 : Nat → Int32} {n1 : Nat} {r1 : Int32} {g0 g1 g2 g3 g4 g5 g6 g7 g8 g9 g10 g11 g12 g13 bp bn : Nat → Int32} {u : Nat → Int64} {m0 m1 m2 m3 m4 m5 m6 m7 m8 m9 m10 m11 m12 m13 : Nat → Int32} (hl : l.stackTraces = false) (C : zv_C pP mM cD cL_law 9 sS aA wsL_law "RiverNamesLaw" A) (hA : A = fun q => sS.heap.size ≤ q) (hE : zx_E sS) (hX : va_X sc L xs sS sS.heap) (hsc : sc < sS.heap.size) (hi : i + 4 ≤ L) (hL : L ≤ 2048) (hkc : kc + 17 ≤ 601024) (hns : ns + 168 ≤ 7293034) (hI : LI n b r d f0 f1 f2 f3 f4 f5 f6 f7 f8 f9 f10 f11 f12 f13 bp bn m0 m1 m2 m3 m4 m5 m6 m7) (K : LK pP l eE sS mM aA bB mT cD Q D cI cZ cJ A sc q h k mh o i kc ns) (hf : isP n (xs (i + 1)) = false) : zv_V pP l eE room_1 sS mM aA bB mT cD Q 9 D vwCl A A (tyJ cI cZ cJ) ((cR cI cZ q h k (nI b) y (nI n) r f0 f1 f2 f3 f4 f5 f6 f7 f8 f9 f10 f11 f12 f13 (nI n1) r1 g0 g1 g2 g3 g4 g5 g6 g7 g8 g9 g10 g11 g12 g13 bp bn) ++ ((cM cI cZ mh t (nI n) r y (nI b) m0 m1 m2 m3 m4 m5 m6 m7 m8 m9 m10 m11 m12 m13) ++ [(o, .inl (cJ, 1, .inr (.inl u)))])) kc ns 392 [(0, .ref sc), (1, .ref (q 0)), (2, .ref (mh 0)), (3, .ref o), (4, .int (nI i))] [] := by
  refine zv_aload_n C dL_law_392 393 rfl 1 rfl ?_
  refine zv_aload_n C dL_law_393 394 rfl 0 rfl ?_
  refine zv_iload C dL_law_394 396 rfl 4 rfl ?_
  refine zv_iconst (v := 1) C dL_law_396 397 rfl (by decide) ?_
  refine zv_iadd (v := (nI (i + 1))) C dL_law_397 398 rfl (nI_1 i) ?_
  refine zv_sld C hA hX hsc dL_law_398 399 rfl (i + 1) rfl (by omega) hL (v := (xs (i + 1))) rfl ?_
  refine zv_aload_n C dL_law_399 400 rfl 3 rfl ?_
  refine zv_callWE (rest := []) C hA hE (k_L_turnDelta_t l D cI cZ cJ q h k b y n r f0 f1 f2 f3 f4 f5 f6 f7 f8 f9 f10 f11 f12 f13 n1 r1 g0 g1 g2 g3 g4 g5 g6 g7 g8 g9 g10 g11 g12 g13 bp bn o u (xs (i + 1)) hI.n16 (by first | assumption | omega) hl) (vx_cwSW 3 C.1.2.2.2.2 gL_law_L_turnDelta rfl rfl rfl (by decide +kernel) ⟨Nat.le_of_ble_eq_true rfl, Nat.le_of_ble_eq_true rfl⟩) dL_law_400 403 rfl rfl rfl (Nat.le_of_ble_eq_true rfl) ⟨(by show kc + 1 ≤ 601024; omega), (by show ns + 6 ≤ 7293034; omega)⟩ [0, 1, 2] rfl [0, 1, 2, 3, 4, 5, 6, 7, 8, 9, 10, 11, 12, 13, 14, 15, 16, 17, 18, 19, 20, 21, 22, 23, 24, 25, 26, 27, 28, 29, 30, 31, 32, 48] rfl (by decide) (fun v hv => ?_)
  subst hv
  refine zv_go rfl rfl (st' := [.int 1]) rfl (kc' := kc + 1) rfl (ns' := ns + 6) rfl ?_
  refine zv_istore C dL_law_403 405 rfl [(5, .int 1), (0, .ref sc), (1, .ref (q 0)), (2, .ref (mh 0)), (3, .ref o), (4, .int (nI i))] (by decide) rfl ?_
  refine zv_aload_n C dL_law_405 406 rfl 3 rfl ?_
  refine zv_aload_n C dL_law_406 407 rfl 1 rfl ?_
  refine zv_iload C dL_law_407 409 rfl 5 rfl ?_
  refine zv_iconst (v := 1) C dL_law_409 410 rfl (by decide) ?_
  refine zv_iadd (v := (nI (i + 1))) C dL_law_410 411 rfl (nI_1 i) ?_
  refine zv_sld C hA hX hsc dL_law_411 412 rfl (i + 1) rfl (by omega) hL (v := (xs (i + 1))) rfl ?_
  refine zv_callV (rest := []) (wr := ((cR cI cZ q h k (nI b) y (nI n) r f0 f1 f2 f3 f4 f5 f6 f7 f8 f9 f10 f11 f12 f13 (nI n1) r1 g0 g1 g2 g3 g4 g5 g6 g7 g8 g9 g10 g11 g12 g13 bp bn) ++ [(o, .inl (cJ, 1, .inr (.inl u)))])) C (k_X2_turnDelta_no l D cI cZ mh t n r y b m0 m1 m2 m3 m4 m5 m6 m7 m8 m9 m10 m11 m12 m13 (xs (i + 1)) hI.n16 (by first | assumption | omega)) (cwV 1 C.1.2.2.2.2 gL_law_X2_turnDelta rfl rfl rfl (by decide +kernel) ⟨Nat.le_of_ble_eq_true rfl, Nat.le_of_ble_eq_true rfl⟩) dL_law_412 415 rfl (ci := 2) 0 rfl rfl rfl rfl (Nat.le_of_ble_eq_true rfl) ⟨(by show kc + 1 + 0 ≤ 601024; omega), (by show ns + 6 + 0 ≤ 7293034; omega)⟩ [0, 1] rfl [33, 34, 35, 36, 37, 38, 39, 40, 41, 42, 43, 44, 45, 46, 47] rfl (by decide) [0, 1, 2, 3, 4, 5, 6, 7, 8, 9, 10, 11, 12, 13, 14, 15, 16, 17, 18, 19, 20, 21, 22, 23, 24, 25, 26, 27, 28, 29, 30, 31, 32, 48] rfl (by decide) (by decide +kernel) (fun v w hv => ?_)
  obtain ⟨rfl, rfl⟩ := hv
  refine zv_go rfl rfl (st' := [.int 0]) rfl (kc' := kc + 1) rfl (ns' := ns + 6) rfl ?_
  refine zv_perm [0, 1, 2, 3, 4, 5, 6, 7, 8, 9, 10, 11, 12, 13, 14, 15, 16, 17, 18, 19, 20, 21, 22, 23, 24, 25, 26, 27, 28, 29, 30, 31, 32, 34, 35, 36, 37, 38, 39, 40, 41, 42, 43, 44, 45, 46, 47, 48, 33] (ws' := ((cR cI cZ q h k (nI b) y (nI n) r f0 f1 f2 f3 f4 f5 f6 f7 f8 f9 f10 f11 f12 f13 (nI n1) r1 g0 g1 g2 g3 g4 g5 g6 g7 g8 g9 g10 g11 g12 g13 bp bn) ++ ((cM cI cZ mh 1 (nI n) r y (nI b) m0 m1 m2 m3 m4 m5 m6 m7 m8 m9 m10 m11 m12 m13) ++ [(o, .inl (cJ, 1, .inr (.inl u)))]))) (by decide) rfl ?_
  refine zv_istore C dL_law_415 417 rfl [(6, .int 0), (5, .int 1), (0, .ref sc), (1, .ref (q 0)), (2, .ref (mh 0)), (3, .ref o), (4, .int (nI i))] (by decide) rfl ?_
  refine zv_aload_n C dL_law_417 418 rfl 4 rfl ?_
  refine zv_callVR (rest := []) C (k_X2_thrown l D cI cZ mh 1 n r y b m0 m1 m2 m3 m4 m5 m6 m7 m8 m9 m10 m11 m12 m13 ) (cwV 0 C.1.2.2.2.2 gL_law_X2_thrown rfl rfl rfl (by decide +kernel) ⟨Nat.le_of_ble_eq_true rfl, Nat.le_of_ble_eq_true rfl⟩) dL_law_418 421 rfl (ci := 2) 0 rfl rfl rfl rfl (Nat.le_of_ble_eq_true rfl) ⟨(by show kc + 1 + 0 ≤ 601024; omega), (by show ns + 6 + 0 ≤ 7293034; omega)⟩ [0, 1] rfl [33, 34, 35, 36, 37, 38, 39, 40, 41, 42, 43, 44, 45, 46, 47] rfl (by decide) (fun v hv => ?_)
  subst hv
  refine zv_go rfl rfl (st' := [.int 1]) rfl (kc' := kc + 1) rfl (ns' := ns + 6) rfl ?_
  refine zv_iload C dL_law_421 423 rfl 1 rfl ?_
  refine zv_icmp_eq C dL_law_423 426 428 rfl (by decide) (fun _ => ?_) (fun q => absurd (by decide) q)
  refine zv_iload C dL_law_428 430 rfl 1 rfl ?_
  refine zv_if_ne C dL_law_430 433 452 rfl (by decide) (fun _ => ?_) (fun q => absurd q (by decide))
  refine zv_goto C dL_law_452 1966 (by decide) ?_
  refine zv_widen (k' := kc + 17) (n' := ns + 168) (by omega) (by omega) ?_
  refine zv_sub [2, 3, 4, 5, 6] (lv' := [(0, .ref sc), (1, .ref (q 0)), (2, .ref (mh 0)), (3, .ref o), (4, .int (nI i))]) rfl ?_
  exact K n b y r 1 d f0 f1 f2 f3 f4 f5 f6 f7 f8 f9 f10 f11 f12 f13 n1 r1 g0 g1 g2 g3 g4 g5 g6 g7 g8 g9 g10 g11 g12 g13 bp bn u m0 m1 m2 m3 m4 m5 m6 m7 m8 m9 m10 m11 m12 m13 hI
set_option maxHeartbeats 4000000 in
set_option maxRecDepth 100000 in
theorem lc_turnDelta_ok {pP : Program} {l : Launch} {eE : Env} {sS : State} {mM : MethodId} {aA : Array Value} {bB : List Frame} {mT : Method} {cD : Code} {Q : State → Prop} {D : va_G} {cI cZ cJ : ClassId} {A : Nat → Prop} {sc L : Nat} {xs : Nat → Int32} {q h k mh : Nat → Nat} {o i kc ns : Nat} {n b : Nat} {y r t : Int32} {d : Nat → Nat} {f0 f1 f2 f3 f4 f5 f6 f7 f8 f9 f10 f11 f12 f13 : Nat → Int32} {n1 : Nat} {r1 : Int32} {g0 g1 g2 g3 g4 g5 g6 g7 g8 g9 g10 g11 g12 g13 bp bn : Nat → Int32} {u : Nat → Int64} {m0 m1 m2 m3 m4 m5 m6 m7 m8 m9 m10 m11 m12 m13 : Nat → Int32} (hl : l.stackTraces = false) (C : zv_C pP mM cD cL_law 9 sS aA wsL_law "RiverNamesLaw" A) (hA : A = fun q => sS.heap.size ≤ q) (hE : zx_E sS) (hX : va_X sc L xs sS sS.heap) (hsc : sc < sS.heap.size) (hi : i + 4 ≤ L) (hL : L ≤ 2048) (hkc : kc + 17 ≤ 601024) (hns : ns + 168 ≤ 7293034) (hI : LI n b r d f0 f1 f2 f3 f4 f5 f6 f7 f8 f9 f10 f11 f12 f13 bp bn m0 m1 m2 m3 m4 m5 m6 m7) (K : LK pP l eE sS mM aA bB mT cD Q D cI cZ cJ A sc q h k mh o i kc ns) (p : Nat) (hp : p < n) (e1 : xs (i + 1) = nI p) : zv_V pP l eE room_1 sS mM aA bB mT cD Q 9 D vwCl A A (tyJ cI cZ cJ) ((cR cI cZ q h k (nI b) y (nI n) r f0 f1 f2 f3 f4 f5 f6 f7 f8 f9 f10 f11 f12 f13 (nI n1) r1 g0 g1 g2 g3 g4 g5 g6 g7 g8 g9 g10 g11 g12 g13 bp bn) ++ ((cM cI cZ mh t (nI n) r y (nI b) m0 m1 m2 m3 m4 m5 m6 m7 m8 m9 m10 m11 m12 m13) ++ [(o, .inl (cJ, 1, .inr (.inl u)))])) kc ns 392 [(0, .ref sc), (1, .ref (q 0)), (2, .ref (mh 0)), (3, .ref o), (4, .int (nI i))] [] := by
  refine zv_aload_n C dL_law_392 393 rfl 1 rfl ?_
  refine zv_aload_n C dL_law_393 394 rfl 0 rfl ?_
  refine zv_iload C dL_law_394 396 rfl 4 rfl ?_
  refine zv_iconst (v := 1) C dL_law_396 397 rfl (by decide) ?_
  refine zv_iadd (v := (nI (i + 1))) C dL_law_397 398 rfl (nI_1 i) ?_
  refine zv_sld C hA hX hsc dL_law_398 399 rfl (i + 1) rfl (by omega) hL (v := (nI p)) e1 ?_
  refine zv_aload_n C dL_law_399 400 rfl 3 rfl ?_
  refine zv_callW (rest := []) (wr := (cM cI cZ mh t (nI n) r y (nI b) m0 m1 m2 m3 m4 m5 m6 m7 m8 m9 m10 m11 m12 m13)) C (k_L_turnDelta_ok l D cI cZ cJ q h k b y n r f0 f1 f2 f3 f4 f5 f6 f7 f8 f9 f10 f11 f12 f13 n1 r1 g0 g1 g2 g3 g4 g5 g6 g7 g8 g9 g10 g11 g12 g13 bp bn o u p d hI.n16 hI.dep (by first | assumption | omega)) (vx_cwSW 3 C.1.2.2.2.2 gL_law_L_turnDelta rfl rfl rfl (by decide +kernel) ⟨Nat.le_of_ble_eq_true rfl, Nat.le_of_ble_eq_true rfl⟩) dL_law_400 403 rfl rfl rfl (Nat.le_of_ble_eq_true rfl) ⟨(by show kc + 0 ≤ 601024; omega), (by show ns + 0 ≤ 7293034; omega)⟩ [0, 1, 2] rfl [0, 1, 2, 3, 4, 5, 6, 7, 8, 9, 10, 11, 12, 13, 14, 15, 16, 17, 18, 19, 20, 21, 22, 23, 24, 25, 26, 27, 28, 29, 30, 31, 32, 48] rfl (by decide) [33, 34, 35, 36, 37, 38, 39, 40, 41, 42, 43, 44, 45, 46, 47] rfl (by decide) (by decide +kernel) (fun v w hv => ?_)
  obtain ⟨v7_1, v8_1, v9_1, v10_1, v11_1, v12_1, v13_1, uo_1, rfl, rfl, hu, hw1⟩ := hv
  refine zv_go rfl rfl (st' := [.int 0]) rfl (kc' := kc) rfl (ns' := ns) rfl ?_
  refine zv_perm [15, 16, 17, 18, 19, 20, 21, 22, 23, 24, 25, 26, 27, 28, 29, 30, 31, 32, 33, 34, 35, 36, 37, 38, 39, 40, 41, 42, 43, 44, 45, 46, 47, 0, 1, 2, 3, 4, 5, 6, 7, 8, 9, 10, 11, 12, 13, 14, 48] (ws' := ((cR cI cZ q h k (nI b) y (nI n) r f0 f1 f2 f3 f4 f5 (upd f6 p (tg (f6 p))) v7_1 v8_1 v9_1 v10_1 v11_1 v12_1 v13_1 (nI n1) r1 g0 g1 g2 g3 g4 g5 g6 g7 g8 g9 g10 g11 g12 g13 bp bn) ++ ((cM cI cZ mh t (nI n) r y (nI b) m0 m1 m2 m3 m4 m5 m6 m7 m8 m9 m10 m11 m12 m13) ++ [(o, .inl (cJ, 1, .inr (.inl uo_1)))]))) (by decide) rfl ?_
  refine zv_istore C dL_law_403 405 rfl [(5, .int 0), (0, .ref sc), (1, .ref (q 0)), (2, .ref (mh 0)), (3, .ref o), (4, .int (nI i))] (by decide) rfl ?_
  refine zv_aload_n C dL_law_405 406 rfl 3 rfl ?_
  refine zv_aload_n C dL_law_406 407 rfl 1 rfl ?_
  refine zv_iload C dL_law_407 409 rfl 5 rfl ?_
  refine zv_iconst (v := 1) C dL_law_409 410 rfl (by decide) ?_
  refine zv_iadd (v := (nI (i + 1))) C dL_law_410 411 rfl (nI_1 i) ?_
  refine zv_sld C hA hX hsc dL_law_411 412 rfl (i + 1) rfl (by omega) hL (v := (nI p)) e1 ?_
  refine zv_callV (rest := []) (wr := ((cR cI cZ q h k (nI b) y (nI n) r f0 f1 f2 f3 f4 f5 (upd f6 p (tg (f6 p))) v7_1 v8_1 v9_1 v10_1 v11_1 v12_1 v13_1 (nI n1) r1 g0 g1 g2 g3 g4 g5 g6 g7 g8 g9 g10 g11 g12 g13 bp bn) ++ [(o, .inl (cJ, 1, .inr (.inl uo_1)))])) C (k_X2_turnDelta_ok l D cI cZ mh t n r y b m0 m1 m2 m3 m4 m5 m6 m7 m8 m9 m10 m11 m12 m13 p hI.n16 (by first | assumption | omega)) (cwV 1 C.1.2.2.2.2 gL_law_X2_turnDelta rfl rfl rfl (by decide +kernel) ⟨Nat.le_of_ble_eq_true rfl, Nat.le_of_ble_eq_true rfl⟩) dL_law_412 415 rfl (ci := 2) 0 rfl rfl rfl rfl (Nat.le_of_ble_eq_true rfl) ⟨(by show kc + 0 ≤ 601024; omega), (by show ns + 0 ≤ 7293034; omega)⟩ [0, 1] rfl [33, 34, 35, 36, 37, 38, 39, 40, 41, 42, 43, 44, 45, 46, 47] rfl (by decide) [0, 1, 2, 3, 4, 5, 6, 7, 8, 9, 10, 11, 12, 13, 14, 15, 16, 17, 18, 19, 20, 21, 22, 23, 24, 25, 26, 27, 28, 29, 30, 31, 32, 48] rfl (by decide) (by decide +kernel) (fun v w hv => ?_)
  obtain ⟨rfl, rfl⟩ := hv
  refine zv_go rfl rfl (st' := [.int (tg (m5 p))]) rfl (kc' := kc) rfl (ns' := ns) rfl ?_
  refine zv_perm [0, 1, 2, 3, 4, 5, 6, 7, 8, 9, 10, 11, 12, 13, 14, 15, 16, 17, 18, 19, 20, 21, 22, 23, 24, 25, 26, 27, 28, 29, 30, 31, 32, 34, 35, 36, 37, 38, 39, 40, 41, 42, 43, 44, 45, 46, 47, 48, 33] (ws' := ((cR cI cZ q h k (nI b) y (nI n) r f0 f1 f2 f3 f4 f5 (upd f6 p (tg (f6 p))) v7_1 v8_1 v9_1 v10_1 v11_1 v12_1 v13_1 (nI n1) r1 g0 g1 g2 g3 g4 g5 g6 g7 g8 g9 g10 g11 g12 g13 bp bn) ++ ((cM cI cZ mh 0 (nI n) r y (nI b) m0 m1 m2 m3 m4 (upd m5 p (tg (m5 p))) m6 m7 m8 m9 m10 m11 m12 m13) ++ [(o, .inl (cJ, 1, .inr (.inl uo_1)))]))) (by decide) rfl ?_
  refine zv_istore C dL_law_415 417 rfl [(6, .int (tg (m5 p))), (5, .int 0), (0, .ref sc), (1, .ref (q 0)), (2, .ref (mh 0)), (3, .ref o), (4, .int (nI i))] (by decide) rfl ?_
  refine zv_aload_n C dL_law_417 418 rfl 4 rfl ?_
  refine zv_callVR (rest := []) C (k_X2_thrown l D cI cZ mh 0 n r y b m0 m1 m2 m3 m4 (upd m5 p (tg (m5 p))) m6 m7 m8 m9 m10 m11 m12 m13 ) (cwV 0 C.1.2.2.2.2 gL_law_X2_thrown rfl rfl rfl (by decide +kernel) ⟨Nat.le_of_ble_eq_true rfl, Nat.le_of_ble_eq_true rfl⟩) dL_law_418 421 rfl (ci := 2) 0 rfl rfl rfl rfl (Nat.le_of_ble_eq_true rfl) ⟨(by show kc + 0 ≤ 601024; omega), (by show ns + 0 ≤ 7293034; omega)⟩ [0, 1] rfl [33, 34, 35, 36, 37, 38, 39, 40, 41, 42, 43, 44, 45, 46, 47] rfl (by decide) (fun v hv => ?_)
  subst hv
  refine zv_go rfl rfl (st' := [.int 0]) rfl (kc' := kc) rfl (ns' := ns) rfl ?_
  refine zv_iload C dL_law_421 423 rfl 1 rfl ?_
  refine zv_icmp_eq C dL_law_423 426 428 rfl (by decide) (fun _ => ?_) (fun q => absurd (by decide) q)
  refine zv_iload C dL_law_428 430 rfl 1 rfl ?_
  refine zv_if_ne C dL_law_430 433 452 rfl (by decide) (fun q => absurd (by decide) q) (fun _ => ?_)
  refine zv_aload_n C dL_law_433 434 rfl 5 rfl ?_
  refine zv_iconst (v := 0) C dL_law_434 435 rfl (by decide) ?_
  refine zv_lald (v := (uo_1 0)) C dL_law_435 436 rfl 48 2 0 rfl rfl (by decide) (by decide) (by decide) rfl ?_
  refine zv_iload C dL_law_436 438 rfl 0 rfl ?_
  refine zv_if_eq C dL_law_438 441 445 rfl (by decide) (fun c1 => ?_) (fun c1 => ?_)
  · refine zv_lconst (v := 0) C dL_law_445 446 rfl rfl ?_
    refine zv_lcmpE C dL_law_446 447 rfl (hu.trans ((congrArg bitL (congrArg tg (hI.E p hp).2.2.2.2.1.symm)).trans (bitL_y c1))) ?_
    refine zv_if_eq C dL_law_447 450 452 rfl (by decide) (fun _ => ?_) (fun q => absurd (by decide) q)
    refine zv_goto C dL_law_452 1966 (by decide) ?_
    refine zv_widen (k' := kc + 17) (n' := ns + 168) (by omega) (by omega) ?_
    refine zv_sub [2, 3, 4, 5, 6] (lv' := [(0, .ref sc), (1, .ref (q 0)), (2, .ref (mh 0)), (3, .ref o), (4, .int (nI i))]) rfl ?_
    exact K n b y r 0 d f0 f1 f2 f3 f4 f5 (upd f6 p (tg (f6 p))) v7_1 v8_1 v9_1 v10_1 v11_1 v12_1 v13_1 n1 r1 g0 g1 g2 g3 g4 g5 g6 g7 g8 g9 g10 g11 g12 g13 bp bn uo_1 m0 m1 m2 m3 m4 (upd m5 p (tg (m5 p))) m6 m7 m8 m9 m10 m11 m12 m13 (hI.turn hp hw1)
  · refine zv_lconst (v := 1) C dL_law_441 442 rfl rfl ?_
    refine zv_goto C dL_law_442 446 (by decide) ?_
    refine zv_lcmpE C dL_law_446 447 rfl (hu.trans ((congrArg bitL (congrArg tg (hI.E p hp).2.2.2.2.1.symm)).trans (bitL_n c1))) ?_
    refine zv_if_eq C dL_law_447 450 452 rfl (by decide) (fun _ => ?_) (fun q => absurd (by decide) q)
    refine zv_goto C dL_law_452 1966 (by decide) ?_
    refine zv_widen (k' := kc + 17) (n' := ns + 168) (by omega) (by omega) ?_
    refine zv_sub [2, 3, 4, 5, 6] (lv' := [(0, .ref sc), (1, .ref (q 0)), (2, .ref (mh 0)), (3, .ref o), (4, .int (nI i))]) rfl ?_
    exact K n b y r 0 d f0 f1 f2 f3 f4 f5 (upd f6 p (tg (f6 p))) v7_1 v8_1 v9_1 v10_1 v11_1 v12_1 v13_1 n1 r1 g0 g1 g2 g3 g4 g5 g6 g7 g8 g9 g10 g11 g12 g13 bp bn uo_1 m0 m1 m2 m3 m4 (upd m5 p (tg (m5 p))) m6 m7 m8 m9 m10 m11 m12 m13 (hI.turn hp hw1)
set_option maxHeartbeats 4000000 in
set_option maxRecDepth 100000 in
theorem lc_placeOf_no {pP : Program} {l : Launch} {eE : Env} {sS : State} {mM : MethodId} {aA : Array Value} {bB : List Frame} {mT : Method} {cD : Code} {Q : State → Prop} {D : va_G} {cI cZ cJ : ClassId} {A : Nat → Prop} {sc L : Nat} {xs : Nat → Int32} {q h k mh : Nat → Nat} {o i kc ns : Nat} {n b : Nat} {y r t : Int32} {d : Nat → Nat} {f0 f1 f2 f3 f4 f5 f6 f7 f8 f9 f10 f11 f12 f13 : Nat → Int32} {n1 : Nat} {r1 : Int32} {g0 g1 g2 g3 g4 g5 g6 g7 g8 g9 g10 g11 g12 g13 bp bn : Nat → Int32} {u : Nat → Int64} {m0 m1 m2 m3 m4 m5 m6 m7 m8 m9 m10 m11 m12 m13 : Nat → Int32} (hl : l.stackTraces = false) (C : zv_C pP mM cD cL_law 9 sS aA wsL_law "RiverNamesLaw" A) (hA : A = fun q => sS.heap.size ≤ q) (hE : zx_E sS) (hX : va_X sc L xs sS sS.heap) (hsc : sc < sS.heap.size) (hi : i + 4 ≤ L) (hL : L ≤ 2048) (hkc : kc + 17 ≤ 601024) (hns : ns + 168 ≤ 7293034) (hI : LI n b r d f0 f1 f2 f3 f4 f5 f6 f7 f8 f9 f10 f11 f12 f13 bp bn m0 m1 m2 m3 m4 m5 m6 m7) (K : LK pP l eE sS mM aA bB mT cD Q D cI cZ cJ A sc q h k mh o i kc ns) (hf : isP b (xs (i + 1)) = false) : zv_V pP l eE room_1 sS mM aA bB mT cD Q 9 D vwCl A A (tyJ cI cZ cJ) ((cR cI cZ q h k (nI b) y (nI n) r f0 f1 f2 f3 f4 f5 f6 f7 f8 f9 f10 f11 f12 f13 (nI n1) r1 g0 g1 g2 g3 g4 g5 g6 g7 g8 g9 g10 g11 g12 g13 bp bn) ++ ((cM cI cZ mh t (nI n) r y (nI b) m0 m1 m2 m3 m4 m5 m6 m7 m8 m9 m10 m11 m12 m13) ++ [(o, .inl (cJ, 1, .inr (.inl u)))])) kc ns 1461 [(0, .ref sc), (1, .ref (q 0)), (2, .ref (mh 0)), (3, .ref o), (4, .int (nI i))] [] := by
  refine zv_aload_n C dL_law_1461 1462 rfl 1 rfl ?_
  refine zv_aload_n C dL_law_1462 1463 rfl 0 rfl ?_
  refine zv_iload C dL_law_1463 1465 rfl 4 rfl ?_
  refine zv_iconst (v := 1) C dL_law_1465 1466 rfl (by decide) ?_
  refine zv_iadd (v := (nI (i + 1))) C dL_law_1466 1467 rfl (nI_1 i) ?_
  refine zv_sld C hA hX hsc dL_law_1467 1468 rfl (i + 1) rfl (by omega) hL (v := (xs (i + 1))) rfl ?_
  refine zv_aload_n C dL_law_1468 1469 rfl 3 rfl ?_
  refine zv_callWE (rest := []) C hA hE (k_L_placeOf_t l D cI cZ cJ q h k b y n r f0 f1 f2 f3 f4 f5 f6 f7 f8 f9 f10 f11 f12 f13 n1 r1 g0 g1 g2 g3 g4 g5 g6 g7 g8 g9 g10 g11 g12 g13 bp bn o u (xs (i + 1)) hI.b16 (by first | assumption | omega) hl) (vx_cwSW 3 C.1.2.2.2.2 gL_law_L_placeOf rfl rfl rfl (by decide +kernel) ⟨Nat.le_of_ble_eq_true rfl, Nat.le_of_ble_eq_true rfl⟩) dL_law_1469 1472 rfl rfl rfl (Nat.le_of_ble_eq_true rfl) ⟨(by show kc + 1 ≤ 601024; omega), (by show ns + 6 ≤ 7293034; omega)⟩ [0, 1, 2] rfl [0, 1, 2, 3, 4, 5, 6, 7, 8, 9, 10, 11, 12, 13, 14, 15, 16, 17, 18, 19, 20, 21, 22, 23, 24, 25, 26, 27, 28, 29, 30, 31, 32, 48] rfl (by decide) (fun v hv => ?_)
  subst hv
  refine zv_go rfl rfl (st' := [.int 1]) rfl (kc' := kc + 1) rfl (ns' := ns + 6) rfl ?_
  refine zv_istore C dL_law_1472 1474 rfl [(5, .int 1), (0, .ref sc), (1, .ref (q 0)), (2, .ref (mh 0)), (3, .ref o), (4, .int (nI i))] (by decide) rfl ?_
  refine zv_aload_n C dL_law_1474 1475 rfl 3 rfl ?_
  refine zv_aload_n C dL_law_1475 1476 rfl 1 rfl ?_
  refine zv_iload C dL_law_1476 1478 rfl 5 rfl ?_
  refine zv_iconst (v := 1) C dL_law_1478 1479 rfl (by decide) ?_
  refine zv_iadd (v := (nI (i + 1))) C dL_law_1479 1480 rfl (nI_1 i) ?_
  refine zv_sld C hA hX hsc dL_law_1480 1481 rfl (i + 1) rfl (by omega) hL (v := (xs (i + 1))) rfl ?_
  refine zv_callV (rest := []) (wr := ((cR cI cZ q h k (nI b) y (nI n) r f0 f1 f2 f3 f4 f5 f6 f7 f8 f9 f10 f11 f12 f13 (nI n1) r1 g0 g1 g2 g3 g4 g5 g6 g7 g8 g9 g10 g11 g12 g13 bp bn) ++ [(o, .inl (cJ, 1, .inr (.inl u)))])) C (k_X2_placeOf_no l D cI cZ mh t n r y b m0 m1 m2 m3 m4 m5 m6 m7 m8 m9 m10 m11 m12 m13 (xs (i + 1)) hI.b16 (by first | assumption | omega)) (cwV 1 C.1.2.2.2.2 gL_law_X2_placeOf rfl rfl rfl (by decide +kernel) ⟨Nat.le_of_ble_eq_true rfl, Nat.le_of_ble_eq_true rfl⟩) dL_law_1481 1484 rfl (ci := 2) 0 rfl rfl rfl rfl (Nat.le_of_ble_eq_true rfl) ⟨(by show kc + 1 + 0 ≤ 601024; omega), (by show ns + 6 + 0 ≤ 7293034; omega)⟩ [0, 1] rfl [33, 34, 35, 36, 37, 38, 39, 40, 41, 42, 43, 44, 45, 46, 47] rfl (by decide) [0, 1, 2, 3, 4, 5, 6, 7, 8, 9, 10, 11, 12, 13, 14, 15, 16, 17, 18, 19, 20, 21, 22, 23, 24, 25, 26, 27, 28, 29, 30, 31, 32, 48] rfl (by decide) (by decide +kernel) (fun v w hv => ?_)
  obtain ⟨rfl, rfl⟩ := hv
  refine zv_go rfl rfl (st' := [.int 0]) rfl (kc' := kc + 1) rfl (ns' := ns + 6) rfl ?_
  refine zv_perm [0, 1, 2, 3, 4, 5, 6, 7, 8, 9, 10, 11, 12, 13, 14, 15, 16, 17, 18, 19, 20, 21, 22, 23, 24, 25, 26, 27, 28, 29, 30, 31, 32, 34, 35, 36, 37, 38, 39, 40, 41, 42, 43, 44, 45, 46, 47, 48, 33] (ws' := ((cR cI cZ q h k (nI b) y (nI n) r f0 f1 f2 f3 f4 f5 f6 f7 f8 f9 f10 f11 f12 f13 (nI n1) r1 g0 g1 g2 g3 g4 g5 g6 g7 g8 g9 g10 g11 g12 g13 bp bn) ++ ((cM cI cZ mh 1 (nI n) r y (nI b) m0 m1 m2 m3 m4 m5 m6 m7 m8 m9 m10 m11 m12 m13) ++ [(o, .inl (cJ, 1, .inr (.inl u)))]))) (by decide) rfl ?_
  refine zv_istore C dL_law_1484 1486 rfl [(6, .int 0), (5, .int 1), (0, .ref sc), (1, .ref (q 0)), (2, .ref (mh 0)), (3, .ref o), (4, .int (nI i))] (by decide) rfl ?_
  refine zv_aload_n C dL_law_1486 1487 rfl 4 rfl ?_
  refine zv_callVR (rest := []) C (k_X2_thrown l D cI cZ mh 1 n r y b m0 m1 m2 m3 m4 m5 m6 m7 m8 m9 m10 m11 m12 m13 ) (cwV 0 C.1.2.2.2.2 gL_law_X2_thrown rfl rfl rfl (by decide +kernel) ⟨Nat.le_of_ble_eq_true rfl, Nat.le_of_ble_eq_true rfl⟩) dL_law_1487 1490 rfl (ci := 2) 0 rfl rfl rfl rfl (Nat.le_of_ble_eq_true rfl) ⟨(by show kc + 1 + 0 ≤ 601024; omega), (by show ns + 6 + 0 ≤ 7293034; omega)⟩ [0, 1] rfl [33, 34, 35, 36, 37, 38, 39, 40, 41, 42, 43, 44, 45, 46, 47] rfl (by decide) (fun v hv => ?_)
  subst hv
  refine zv_go rfl rfl (st' := [.int 1]) rfl (kc' := kc + 1) rfl (ns' := ns + 6) rfl ?_
  refine zv_iload C dL_law_1490 1492 rfl 1 rfl ?_
  refine zv_icmp_eq C dL_law_1492 1495 1497 rfl (by decide) (fun _ => ?_) (fun q => absurd (by decide) q)
  refine zv_iload C dL_law_1497 1499 rfl 1 rfl ?_
  refine zv_if_ne C dL_law_1499 1502 1514 rfl (by decide) (fun _ => ?_) (fun q => absurd q (by decide))
  refine zv_goto C dL_law_1514 1966 (by decide) ?_
  refine zv_widen (k' := kc + 17) (n' := ns + 168) (by omega) (by omega) ?_
  refine zv_sub [2, 3, 4, 5, 6] (lv' := [(0, .ref sc), (1, .ref (q 0)), (2, .ref (mh 0)), (3, .ref o), (4, .int (nI i))]) rfl ?_
  exact K n b y r 1 d f0 f1 f2 f3 f4 f5 f6 f7 f8 f9 f10 f11 f12 f13 n1 r1 g0 g1 g2 g3 g4 g5 g6 g7 g8 g9 g10 g11 g12 g13 bp bn u m0 m1 m2 m3 m4 m5 m6 m7 m8 m9 m10 m11 m12 m13 hI
set_option maxHeartbeats 4000000 in
set_option maxRecDepth 100000 in
theorem lc_placeOf_ok {pP : Program} {l : Launch} {eE : Env} {sS : State} {mM : MethodId} {aA : Array Value} {bB : List Frame} {mT : Method} {cD : Code} {Q : State → Prop} {D : va_G} {cI cZ cJ : ClassId} {A : Nat → Prop} {sc L : Nat} {xs : Nat → Int32} {q h k mh : Nat → Nat} {o i kc ns : Nat} {n b : Nat} {y r t : Int32} {d : Nat → Nat} {f0 f1 f2 f3 f4 f5 f6 f7 f8 f9 f10 f11 f12 f13 : Nat → Int32} {n1 : Nat} {r1 : Int32} {g0 g1 g2 g3 g4 g5 g6 g7 g8 g9 g10 g11 g12 g13 bp bn : Nat → Int32} {u : Nat → Int64} {m0 m1 m2 m3 m4 m5 m6 m7 m8 m9 m10 m11 m12 m13 : Nat → Int32} (hl : l.stackTraces = false) (C : zv_C pP mM cD cL_law 9 sS aA wsL_law "RiverNamesLaw" A) (hA : A = fun q => sS.heap.size ≤ q) (hE : zx_E sS) (hX : va_X sc L xs sS sS.heap) (hsc : sc < sS.heap.size) (hi : i + 4 ≤ L) (hL : L ≤ 2048) (hkc : kc + 17 ≤ 601024) (hns : ns + 168 ≤ 7293034) (hI : LI n b r d f0 f1 f2 f3 f4 f5 f6 f7 f8 f9 f10 f11 f12 f13 bp bn m0 m1 m2 m3 m4 m5 m6 m7) (K : LK pP l eE sS mM aA bB mT cD Q D cI cZ cJ A sc q h k mh o i kc ns) (p : Nat) (hp : p < b) (e1 : xs (i + 1) = nI p) : zv_V pP l eE room_1 sS mM aA bB mT cD Q 9 D vwCl A A (tyJ cI cZ cJ) ((cR cI cZ q h k (nI b) y (nI n) r f0 f1 f2 f3 f4 f5 f6 f7 f8 f9 f10 f11 f12 f13 (nI n1) r1 g0 g1 g2 g3 g4 g5 g6 g7 g8 g9 g10 g11 g12 g13 bp bn) ++ ((cM cI cZ mh t (nI n) r y (nI b) m0 m1 m2 m3 m4 m5 m6 m7 m8 m9 m10 m11 m12 m13) ++ [(o, .inl (cJ, 1, .inr (.inl u)))])) kc ns 1461 [(0, .ref sc), (1, .ref (q 0)), (2, .ref (mh 0)), (3, .ref o), (4, .int (nI i))] [] := by
  refine zv_aload_n C dL_law_1461 1462 rfl 1 rfl ?_
  refine zv_aload_n C dL_law_1462 1463 rfl 0 rfl ?_
  refine zv_iload C dL_law_1463 1465 rfl 4 rfl ?_
  refine zv_iconst (v := 1) C dL_law_1465 1466 rfl (by decide) ?_
  refine zv_iadd (v := (nI (i + 1))) C dL_law_1466 1467 rfl (nI_1 i) ?_
  refine zv_sld C hA hX hsc dL_law_1467 1468 rfl (i + 1) rfl (by omega) hL (v := (nI p)) e1 ?_
  refine zv_aload_n C dL_law_1468 1469 rfl 3 rfl ?_
  refine zv_callW (rest := []) (wr := (cM cI cZ mh t (nI n) r y (nI b) m0 m1 m2 m3 m4 m5 m6 m7 m8 m9 m10 m11 m12 m13)) C (k_L_placeOf_ok l D cI cZ cJ q h k b y n r f0 f1 f2 f3 f4 f5 f6 f7 f8 f9 f10 f11 f12 f13 n1 r1 g0 g1 g2 g3 g4 g5 g6 g7 g8 g9 g10 g11 g12 g13 bp bn o u p hI.b16 (by first | assumption | omega)) (vx_cwSW 3 C.1.2.2.2.2 gL_law_L_placeOf rfl rfl rfl (by decide +kernel) ⟨Nat.le_of_ble_eq_true rfl, Nat.le_of_ble_eq_true rfl⟩) dL_law_1469 1472 rfl rfl rfl (Nat.le_of_ble_eq_true rfl) ⟨(by show kc + 0 ≤ 601024; omega), (by show ns + 0 ≤ 7293034; omega)⟩ [0, 1, 2] rfl [0, 1, 2, 3, 4, 5, 6, 7, 8, 9, 10, 11, 12, 13, 14, 15, 16, 17, 18, 19, 20, 21, 22, 23, 24, 25, 26, 27, 28, 29, 30, 31, 32, 48] rfl (by decide) [33, 34, 35, 36, 37, 38, 39, 40, 41, 42, 43, 44, 45, 46, 47] rfl (by decide) (by decide +kernel) (fun v w hv => ?_)
  obtain ⟨uo_1, rfl, rfl, hu⟩ := hv
  refine zv_go rfl rfl (st' := [.int 0]) rfl (kc' := kc) rfl (ns' := ns) rfl ?_
  refine zv_perm [15, 16, 17, 18, 19, 20, 21, 22, 23, 24, 25, 26, 27, 28, 29, 30, 31, 32, 33, 34, 35, 36, 37, 38, 39, 40, 41, 42, 43, 44, 45, 46, 47, 0, 1, 2, 3, 4, 5, 6, 7, 8, 9, 10, 11, 12, 13, 14, 48] (ws' := ((cR cI cZ q h k (nI b) y (nI n) r f0 f1 f2 f3 f4 f5 f6 f7 f8 f9 f10 f11 f12 f13 (nI n1) r1 g0 g1 g2 g3 g4 g5 g6 g7 g8 g9 g10 g11 g12 g13 bp bn) ++ ((cM cI cZ mh t (nI n) r y (nI b) m0 m1 m2 m3 m4 m5 m6 m7 m8 m9 m10 m11 m12 m13) ++ [(o, .inl (cJ, 1, .inr (.inl uo_1)))]))) (by decide) rfl ?_
  refine zv_istore C dL_law_1472 1474 rfl [(5, .int 0), (0, .ref sc), (1, .ref (q 0)), (2, .ref (mh 0)), (3, .ref o), (4, .int (nI i))] (by decide) rfl ?_
  refine zv_aload_n C dL_law_1474 1475 rfl 3 rfl ?_
  refine zv_aload_n C dL_law_1475 1476 rfl 1 rfl ?_
  refine zv_iload C dL_law_1476 1478 rfl 5 rfl ?_
  refine zv_iconst (v := 1) C dL_law_1478 1479 rfl (by decide) ?_
  refine zv_iadd (v := (nI (i + 1))) C dL_law_1479 1480 rfl (nI_1 i) ?_
  refine zv_sld C hA hX hsc dL_law_1480 1481 rfl (i + 1) rfl (by omega) hL (v := (nI p)) e1 ?_
  refine zv_callV (rest := []) (wr := ((cR cI cZ q h k (nI b) y (nI n) r f0 f1 f2 f3 f4 f5 f6 f7 f8 f9 f10 f11 f12 f13 (nI n1) r1 g0 g1 g2 g3 g4 g5 g6 g7 g8 g9 g10 g11 g12 g13 bp bn) ++ [(o, .inl (cJ, 1, .inr (.inl uo_1)))])) C (k_X2_placeOf_ok l D cI cZ mh t n r y b m0 m1 m2 m3 m4 m5 m6 m7 m8 m9 m10 m11 m12 m13 p hI.b16 (by first | assumption | omega)) (cwV 1 C.1.2.2.2.2 gL_law_X2_placeOf rfl rfl rfl (by decide +kernel) ⟨Nat.le_of_ble_eq_true rfl, Nat.le_of_ble_eq_true rfl⟩) dL_law_1481 1484 rfl (ci := 2) 0 rfl rfl rfl rfl (Nat.le_of_ble_eq_true rfl) ⟨(by show kc + 0 ≤ 601024; omega), (by show ns + 0 ≤ 7293034; omega)⟩ [0, 1] rfl [33, 34, 35, 36, 37, 38, 39, 40, 41, 42, 43, 44, 45, 46, 47] rfl (by decide) [0, 1, 2, 3, 4, 5, 6, 7, 8, 9, 10, 11, 12, 13, 14, 15, 16, 17, 18, 19, 20, 21, 22, 23, 24, 25, 26, 27, 28, 29, 30, 31, 32, 48] rfl (by decide) (by decide +kernel) (fun v w hv => ?_)
  obtain ⟨rfl, rfl⟩ := hv
  refine zv_go rfl rfl (st' := [.int (m6 p)]) rfl (kc' := kc) rfl (ns' := ns) rfl ?_
  refine zv_perm [0, 1, 2, 3, 4, 5, 6, 7, 8, 9, 10, 11, 12, 13, 14, 15, 16, 17, 18, 19, 20, 21, 22, 23, 24, 25, 26, 27, 28, 29, 30, 31, 32, 34, 35, 36, 37, 38, 39, 40, 41, 42, 43, 44, 45, 46, 47, 48, 33] (ws' := ((cR cI cZ q h k (nI b) y (nI n) r f0 f1 f2 f3 f4 f5 f6 f7 f8 f9 f10 f11 f12 f13 (nI n1) r1 g0 g1 g2 g3 g4 g5 g6 g7 g8 g9 g10 g11 g12 g13 bp bn) ++ ((cM cI cZ mh 0 (nI n) r y (nI b) m0 m1 m2 m3 m4 m5 m6 m7 m8 m9 m10 m11 m12 m13) ++ [(o, .inl (cJ, 1, .inr (.inl uo_1)))]))) (by decide) rfl ?_
  refine zv_istore C dL_law_1484 1486 rfl [(6, .int (m6 p)), (5, .int 0), (0, .ref sc), (1, .ref (q 0)), (2, .ref (mh 0)), (3, .ref o), (4, .int (nI i))] (by decide) rfl ?_
  refine zv_aload_n C dL_law_1486 1487 rfl 4 rfl ?_
  refine zv_callVR (rest := []) C (k_X2_thrown l D cI cZ mh 0 n r y b m0 m1 m2 m3 m4 m5 m6 m7 m8 m9 m10 m11 m12 m13 ) (cwV 0 C.1.2.2.2.2 gL_law_X2_thrown rfl rfl rfl (by decide +kernel) ⟨Nat.le_of_ble_eq_true rfl, Nat.le_of_ble_eq_true rfl⟩) dL_law_1487 1490 rfl (ci := 2) 0 rfl rfl rfl rfl (Nat.le_of_ble_eq_true rfl) ⟨(by show kc + 0 ≤ 601024; omega), (by show ns + 0 ≤ 7293034; omega)⟩ [0, 1] rfl [33, 34, 35, 36, 37, 38, 39, 40, 41, 42, 43, 44, 45, 46, 47] rfl (by decide) (fun v hv => ?_)
  subst hv
  refine zv_go rfl rfl (st' := [.int 0]) rfl (kc' := kc) rfl (ns' := ns) rfl ?_
  refine zv_iload C dL_law_1490 1492 rfl 1 rfl ?_
  refine zv_icmp_eq C dL_law_1492 1495 1497 rfl (by decide) (fun _ => ?_) (fun q => absurd (by decide) q)
  refine zv_iload C dL_law_1497 1499 rfl 1 rfl ?_
  refine zv_if_ne C dL_law_1499 1502 1514 rfl (by decide) (fun q => absurd (by decide) q) (fun _ => ?_)
  refine zv_aload_n C dL_law_1502 1503 rfl 5 rfl ?_
  refine zv_iconst (v := 0) C dL_law_1503 1504 rfl (by decide) ?_
  refine zv_lald (v := (uo_1 0)) C dL_law_1504 1505 rfl 48 2 0 rfl rfl (by decide) (by decide) (by decide) rfl ?_
  refine zv_iload C dL_law_1505 1507 rfl 0 rfl ?_
  refine zv_i2l C dL_law_1507 1508 rfl ?_
  refine zv_lcmpE C dL_law_1508 1509 rfl (hu.trans (congrArg Int32.toInt64 (hI.F p hp).1.symm)) ?_
  refine zv_if_eq C dL_law_1509 1512 1514 rfl (by decide) (fun _ => ?_) (fun q => absurd (by decide) q)
  refine zv_goto C dL_law_1514 1966 (by decide) ?_
  refine zv_widen (k' := kc + 17) (n' := ns + 168) (by omega) (by omega) ?_
  refine zv_sub [2, 3, 4, 5, 6] (lv' := [(0, .ref sc), (1, .ref (q 0)), (2, .ref (mh 0)), (3, .ref o), (4, .int (nI i))]) rfl ?_
  exact K n b y r 0 d f0 f1 f2 f3 f4 f5 f6 f7 f8 f9 f10 f11 f12 f13 n1 r1 g0 g1 g2 g3 g4 g5 g6 g7 g8 g9 g10 g11 g12 g13 bp bn uo_1 m0 m1 m2 m3 m4 m5 m6 m7 m8 m9 m10 m11 m12 m13 hI
