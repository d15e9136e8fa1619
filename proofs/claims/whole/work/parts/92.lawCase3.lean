set_option maxHeartbeats 4000000 in
set_option maxRecDepth 100000 in
theorem lc_pass_ok {pP : Program} {l : Launch} {eE : Env} {sS : State} {mM : MethodId} {aA : Array Value} {bB : List Frame} {mT : Method} {cD : Code} {Q : State → Prop} {D : va_G} {cI cZ cJ : ClassId} {A : Nat → Prop} {sc L : Nat} {xs : Nat → Int32} {q h k mh : Nat → Nat} {o i kc ns : Nat} {n b : Nat} {y r t : Int32} {d : Nat → Nat} {f0 f1 f2 f3 f4 f5 f6 f7 f8 f9 f10 f11 f12 f13 : Nat → Int32} {n1 : Nat} {r1 : Int32} {g0 g1 g2 g3 g4 g5 g6 g7 g8 g9 g10 g11 g12 g13 bp bn : Nat → Int32} {u : Nat → Int64} {m0 m1 m2 m3 m4 m5 m6 m7 m8 m9 m10 m11 m12 m13 : Nat → Int32} (hl : l.stackTraces = false) (C : zv_C pP mM cD cL_law 9 sS aA wsL_law "RiverNamesLaw" A) (hA : A = fun q => sS.heap.size ≤ q) (hE : zx_E sS) (hX : va_X sc L xs sS sS.heap) (hsc : sc < sS.heap.size) (hi : i + 4 ≤ L) (hL : L ≤ 2048) (hkc : kc + 17 ≤ 601024) (hns : ns + 168 ≤ 7293034) (hI : LI n b r d f0 f1 f2 f3 f4 f5 f6 f7 f8 f9 f10 f11 f12 f13 bp bn m0 m1 m2 m3 m4 m5 m6 m7) (K : LK pP l eE sS mM aA bB mT cD Q D cI cZ cJ A sc q h k mh o i kc ns) (z : Nat) (hz1 : 1 ≤ z) (hz2 : z ≤ 50) (e1 : xs (i + 1) = nI z) : zv_V pP l eE room_1 sS mM aA bB mT cD Q 9 D vwCl A A (tyJ cI cZ cJ) ((cR cI cZ q h k (nI b) y (nI n) r f0 f1 f2 f3 f4 f5 f6 f7 f8 f9 f10 f11 f12 f13 (nI n1) r1 g0 g1 g2 g3 g4 g5 g6 g7 g8 g9 g10 g11 g12 g13 bp bn) ++ ((cM cI cZ mh t (nI n) r y (nI b) m0 m1 m2 m3 m4 m5 m6 m7 m8 m9 m10 m11 m12 m13) ++ [(o, .inl (cJ, 1, .inr (.inl u)))])) kc ns 567 [(0, .ref sc), (1, .ref (q 0)), (2, .ref (mh 0)), (3, .ref o), (4, .int (nI i))] [] := by
  refine zv_aload_n C dL_law_567 568 rfl 1 rfl ?_
  refine zv_aload_n C dL_law_568 569 rfl 0 rfl ?_
  refine zv_iload C dL_law_569 571 rfl 4 rfl ?_
  refine zv_iconst (v := 1) C dL_law_571 572 rfl (by decide) ?_
  refine zv_iadd (v := (nI (i + 1))) C dL_law_572 573 rfl (nI_1 i) ?_
  refine zv_sld C hA hX hsc dL_law_573 574 rfl (i + 1) rfl (by omega) hL (v := (nI z)) e1 ?_
  refine zv_aload_n C dL_law_574 575 rfl 3 rfl ?_
  refine zv_callW (rest := []) (wr := (cM cI cZ mh t (nI n) r y (nI b) m0 m1 m2 m3 m4 m5 m6 m7 m8 m9 m10 m11 m12 m13)) C (k_L_pass_ok l D cI cZ cJ q h k b y n r f0 f1 f2 f3 f4 f5 f6 f7 f8 f9 f10 f11 f12 f13 n1 r1 g0 g1 g2 g3 g4 g5 g6 g7 g8 g9 g10 g11 g12 g13 bp bn o u z (by first | assumption | omega) (by first | assumption | omega) d hI.n16 hI.dep hI.b16 hI.brg) (vx_cwSW 3 C.1.2.2.2.2 gL_law_L_pass rfl rfl rfl (by decide +kernel) ⟨Nat.le_of_ble_eq_true rfl, Nat.le_of_ble_eq_true rfl⟩) dL_law_575 578 rfl rfl rfl (Nat.le_of_ble_eq_true rfl) ⟨(by show kc + 0 ≤ 601024; omega), (by show ns + 0 ≤ 7293034; omega)⟩ [0, 1, 2] rfl [0, 1, 2, 3, 4, 5, 6, 7, 8, 9, 10, 11, 12, 13, 14, 15, 16, 17, 18, 19, 20, 21, 22, 23, 24, 25, 26, 27, 28, 29, 30, 31, 32, 48] rfl (by decide) [33, 34, 35, 36, 37, 38, 39, 40, 41, 42, 43, 44, 45, 46, 47] rfl (by decide) (by decide +kernel) (fun v w hv => ?_)
  obtain ⟨v4_1, v7_1, v8_1, v9_1, v10_1, v11_1, v12_1, v13_1, uo_1, rfl, rfl, hu, hw1, hw2, hw3⟩ := hv
  refine zv_go rfl rfl (st' := [.int 0]) rfl (kc' := kc) rfl (ns' := ns) rfl ?_
  refine zv_perm [15, 16, 17, 18, 19, 20, 21, 22, 23, 24, 25, 26, 27, 28, 29, 30, 31, 32, 33, 34, 35, 36, 37, 38, 39, 40, 41, 42, 43, 44, 45, 46, 47, 0, 1, 2, 3, 4, 5, 6, 7, 8, 9, 10, 11, 12, 13, 14, 48] (ws' := ((cR cI cZ q h k (nI b) (y + nI z) (nI n) r f0 f1 f2 f3 v4_1 f5 f6 v7_1 v8_1 v9_1 v10_1 v11_1 v12_1 v13_1 (nI n1) r1 g0 g1 g2 g3 g4 g5 g6 g7 g8 g9 g10 g11 g12 g13 bp bn) ++ ((cM cI cZ mh t (nI n) r y (nI b) m0 m1 m2 m3 m4 m5 m6 m7 m8 m9 m10 m11 m12 m13) ++ [(o, .inl (cJ, 1, .inr (.inl uo_1)))]))) (by decide) rfl ?_
  refine zv_istore C dL_law_578 580 rfl [(5, .int 0), (0, .ref sc), (1, .ref (q 0)), (2, .ref (mh 0)), (3, .ref o), (4, .int (nI i))] (by decide) rfl ?_
  refine zv_aload_n C dL_law_580 581 rfl 3 rfl ?_
  refine zv_aload_n C dL_law_581 582 rfl 1 rfl ?_
  refine zv_iload C dL_law_582 584 rfl 5 rfl ?_
  refine zv_iconst (v := 1) C dL_law_584 585 rfl (by decide) ?_
  refine zv_iadd (v := (nI (i + 1))) C dL_law_585 586 rfl (nI_1 i) ?_
  refine zv_sld C hA hX hsc dL_law_586 587 rfl (i + 1) rfl (by omega) hL (v := (nI z)) e1 ?_
  refine zv_callV (rest := []) (wr := ((cR cI cZ q h k (nI b) (y + nI z) (nI n) r f0 f1 f2 f3 v4_1 f5 f6 v7_1 v8_1 v9_1 v10_1 v11_1 v12_1 v13_1 (nI n1) r1 g0 g1 g2 g3 g4 g5 g6 g7 g8 g9 g10 g11 g12 g13 bp bn) ++ [(o, .inl (cJ, 1, .inr (.inl uo_1)))])) C (k_X2_pass_ok l D cI cZ mh t n r y b m0 m1 m2 m3 m4 m5 m6 m7 m8 m9 m10 m11 m12 m13 z (by first | assumption | omega) (by first | assumption | omega) f1 d hI.n16 hI.depM hI.b16 hI.brgM) (cwV 1 C.1.2.2.2.2 gL_law_X2_pass rfl rfl rfl (by decide +kernel) ⟨Nat.le_of_ble_eq_true rfl, Nat.le_of_ble_eq_true rfl⟩) dL_law_587 590 rfl (ci := 2) 0 rfl rfl rfl rfl (Nat.le_of_ble_eq_true rfl) ⟨(by show kc + 0 ≤ 601024; omega), (by show ns + 0 ≤ 7293034; omega)⟩ [0, 1] rfl [33, 34, 35, 36, 37, 38, 39, 40, 41, 42, 43, 44, 45, 46, 47] rfl (by decide) [0, 1, 2, 3, 4, 5, 6, 7, 8, 9, 10, 11, 12, 13, 14, 15, 16, 17, 18, 19, 20, 21, 22, 23, 24, 25, 26, 27, 28, 29, 30, 31, 32, 48] rfl (by decide) (by decide +kernel) (fun v w hv => ?_)
  obtain ⟨eg3_2, eg8_2, eg9_2, eg10_2, eg11_2, rfl, rfl, hm1, hm2⟩ := hv
  refine zv_go rfl rfl (st' := [.int (nI (inN m6 m7 (nmS n m0 m1 m2 (swN m1 m3 m4 z) m5 r) b))]) rfl (kc' := kc) rfl (ns' := ns) rfl ?_
  refine zv_perm [0, 1, 2, 3, 4, 5, 6, 7, 8, 9, 10, 11, 12, 13, 14, 15, 16, 17, 18, 19, 20, 21, 22, 23, 24, 25, 26, 27, 28, 29, 30, 31, 32, 34, 35, 36, 37, 38, 39, 40, 41, 42, 43, 44, 45, 46, 47, 48, 33] (ws' := ((cR cI cZ q h k (nI b) (y + nI z) (nI n) r f0 f1 f2 f3 v4_1 f5 f6 v7_1 v8_1 v9_1 v10_1 v11_1 v12_1 v13_1 (nI n1) r1 g0 g1 g2 g3 g4 g5 g6 g7 g8 g9 g10 g11 g12 g13 bp bn) ++ ((cM cI cZ mh 0 (nI n) r (y + nI z) (nI b) m0 m1 m2 eg3_2 m4 m5 m6 m7 eg8_2 eg9_2 eg10_2 eg11_2 m12 m13) ++ [(o, .inl (cJ, 1, .inr (.inl uo_1)))]))) (by decide) rfl ?_
  refine zv_istore C dL_law_590 592 rfl [(6, .int (nI (inN m6 m7 (nmS n m0 m1 m2 (swN m1 m3 m4 z) m5 r) b))), (5, .int 0), (0, .ref sc), (1, .ref (q 0)), (2, .ref (mh 0)), (3, .ref o), (4, .int (nI i))] (by decide) rfl ?_
  refine zv_aload_n C dL_law_592 593 rfl 4 rfl ?_
  refine zv_callVR (rest := []) C (k_X2_thrown l D cI cZ mh 0 n r (y + nI z) b m0 m1 m2 eg3_2 m4 m5 m6 m7 eg8_2 eg9_2 eg10_2 eg11_2 m12 m13 ) (cwV 0 C.1.2.2.2.2 gL_law_X2_thrown rfl rfl rfl (by decide +kernel) ⟨Nat.le_of_ble_eq_true rfl, Nat.le_of_ble_eq_true rfl⟩) dL_law_593 596 rfl (ci := 2) 0 rfl rfl rfl rfl (Nat.le_of_ble_eq_true rfl) ⟨(by show kc + 0 ≤ 601024; omega), (by show ns + 0 ≤ 7293034; omega)⟩ [0, 1] rfl [33, 34, 35, 36, 37, 38, 39, 40, 41, 42, 43, 44, 45, 46, 47] rfl (by decide) (fun v hv => ?_)
  subst hv
  refine zv_go rfl rfl (st' := [.int 0]) rfl (kc' := kc) rfl (ns' := ns) rfl ?_
  refine zv_iload C dL_law_596 598 rfl 1 rfl ?_
  refine zv_icmp_eq C dL_law_598 601 603 rfl (by decide) (fun _ => ?_) (fun q => absurd (by decide) q)
  refine zv_iload C dL_law_603 605 rfl 1 rfl ?_
  refine zv_if_ne C dL_law_605 608 620 rfl (by decide) (fun q => absurd (by decide) q) (fun _ => ?_)
  refine zv_aload_n C dL_law_608 609 rfl 5 rfl ?_
  refine zv_iconst (v := 0) C dL_law_609 610 rfl (by decide) ?_
  refine zv_lald (v := (uo_1 0)) C dL_law_610 611 rfl 48 2 0 rfl rfl (by decide) (by decide) (by decide) rfl ?_
  refine zv_iload C dL_law_611 613 rfl 0 rfl ?_
  refine zv_i2l C dL_law_613 614 rfl ?_
  refine zv_lcmpE C dL_law_614 615 rfl (hu.trans (congrArg Int32.toInt64 (congrArg nI (hI.vPass hz2 hw1 hw3)))) ?_
  refine zv_if_eq C dL_law_615 618 620 rfl (by decide) (fun _ => ?_) (fun q => absurd (by decide) q)
  refine zv_goto C dL_law_620 1966 (by decide) ?_
  refine zv_widen (k' := kc + 17) (n' := ns + 168) (by omega) (by omega) ?_
  refine zv_sub [2, 3, 4, 5, 6] (lv' := [(0, .ref sc), (1, .ref (q 0)), (2, .ref (mh 0)), (3, .ref o), (4, .int (nI i))]) rfl ?_
  exact K n b (y + nI z) r 0 d f0 f1 f2 f3 v4_1 f5 f6 v7_1 v8_1 v9_1 v10_1 v11_1 v12_1 v13_1 n1 r1 g0 g1 g2 g3 g4 g5 g6 g7 g8 g9 g10 g11 g12 g13 bp bn uo_1 m0 m1 m2 eg3_2 m4 m5 m6 m7 eg8_2 eg9_2 eg10_2 eg11_2 m12 m13 (hI.pass hz2 hw1 hw2 hm1 hw3)
set_option maxHeartbeats 4000000 in
set_option maxRecDepth 100000 in
theorem lc_nameIn_n1 {pP : Program} {l : Launch} {eE : Env} {sS : State} {mM : MethodId} {aA : Array Value} {bB : List Frame} {mT : Method} {cD : Code} {Q : State → Prop} {D : va_G} {cI cZ cJ : ClassId} {A : Nat → Prop} {sc L : Nat} {xs : Nat → Int32} {q h k mh : Nat → Nat} {o i kc ns : Nat} {n b : Nat} {y r t : Int32} {d : Nat → Nat} {f0 f1 f2 f3 f4 f5 f6 f7 f8 f9 f10 f11 f12 f13 : Nat → Int32} {n1 : Nat} {r1 : Int32} {g0 g1 g2 g3 g4 g5 g6 g7 g8 g9 g10 g11 g12 g13 bp bn : Nat → Int32} {u : Nat → Int64} {m0 m1 m2 m3 m4 m5 m6 m7 m8 m9 m10 m11 m12 m13 : Nat → Int32} (hl : l.stackTraces = false) (C : zv_C pP mM cD cL_law 9 sS aA wsL_law "RiverNamesLaw" A) (hA : A = fun q => sS.heap.size ≤ q) (hE : zx_E sS) (hX : va_X sc L xs sS sS.heap) (hsc : sc < sS.heap.size) (hi : i + 4 ≤ L) (hL : L ≤ 2048) (hkc : kc + 17 ≤ 601024) (hns : ns + 168 ≤ 7293034) (hI : LI n b r d f0 f1 f2 f3 f4 f5 f6 f7 f8 f9 f10 f11 f12 f13 bp bn m0 m1 m2 m3 m4 m5 m6 m7) (K : LK pP l eE sS mM aA bB mT cD Q D cI cZ cJ A sc q h k mh o i kc ns) (hf : isP n (xs (i + 1)) = false) : zv_V pP l eE room_1 sS mM aA bB mT cD Q 9 D vwCl A A (tyJ cI cZ cJ) ((cR cI cZ q h k (nI b) y (nI n) r f0 f1 f2 f3 f4 f5 f6 f7 f8 f9 f10 f11 f12 f13 (nI n1) r1 g0 g1 g2 g3 g4 g5 g6 g7 g8 g9 g10 g11 g12 g13 bp bn) ++ ((cM cI cZ mh t (nI n) r y (nI b) m0 m1 m2 m3 m4 m5 m6 m7 m8 m9 m10 m11 m12 m13) ++ [(o, .inl (cJ, 1, .inr (.inl u)))])) kc ns 1705 [(0, .ref sc), (1, .ref (q 0)), (2, .ref (mh 0)), (3, .ref o), (4, .int (nI i))] [] := by
  refine zv_aload_n C dL_law_1705 1706 rfl 1 rfl ?_
  refine zv_aload_n C dL_law_1706 1707 rfl 0 rfl ?_
  refine zv_iload C dL_law_1707 1709 rfl 4 rfl ?_
  refine zv_iconst (v := 1) C dL_law_1709 1710 rfl (by decide) ?_
  refine zv_iadd (v := (nI (i + 1))) C dL_law_1710 1711 rfl (nI_1 i) ?_
  refine zv_sld C hA hX hsc dL_law_1711 1712 rfl (i + 1) rfl (by omega) hL (v := (xs (i + 1))) rfl ?_
  refine zv_aload_n C dL_law_1712 1713 rfl 0 rfl ?_
  refine zv_iload C dL_law_1713 1715 rfl 4 rfl ?_
  refine zv_iconst (v := 2) C dL_law_1715 1716 rfl (by decide) ?_
  refine zv_iadd (v := (nI (i + 2))) C dL_law_1716 1717 rfl (nI_c i 2 2 rfl) ?_
  refine zv_sld C hA hX hsc dL_law_1717 1718 rfl (i + 2) rfl (by omega) hL (v := (xs (i + 2))) rfl ?_
  refine zv_aload_n C dL_law_1718 1719 rfl 3 rfl ?_
  refine zv_callWE (rest := []) C hA hE (k_L_nameIn_t1 l D cI cZ cJ q h k b y n r f0 f1 f2 f3 f4 f5 f6 f7 f8 f9 f10 f11 f12 f13 n1 r1 g0 g1 g2 g3 g4 g5 g6 g7 g8 g9 g10 g11 g12 g13 bp bn o u (xs (i + 1)) (xs (i + 2)) hI.n16 (by first | assumption | omega) hl) (vx_cwSW 4 C.1.2.2.2.2 gL_law_L_nameIn rfl rfl rfl (by decide +kernel) ⟨Nat.le_of_ble_eq_true rfl, Nat.le_of_ble_eq_true rfl⟩) dL_law_1719 1722 rfl rfl rfl (Nat.le_of_ble_eq_true rfl) ⟨(by show kc + 1 ≤ 601024; omega), (by show ns + 6 ≤ 7293034; omega)⟩ [0, 1, 2] rfl [0, 1, 2, 3, 4, 5, 6, 7, 8, 9, 10, 11, 12, 13, 14, 15, 16, 17, 18, 19, 20, 21, 22, 23, 24, 25, 26, 27, 28, 29, 30, 31, 32, 48] rfl (by decide) (fun v hv => ?_)
  subst hv
  refine zv_go rfl rfl (st' := [.int 1]) rfl (kc' := kc + 1) rfl (ns' := ns + 6) rfl ?_
  refine zv_istore C dL_law_1722 1724 rfl [(5, .int 1), (0, .ref sc), (1, .ref (q 0)), (2, .ref (mh 0)), (3, .ref o), (4, .int (nI i))] (by decide) rfl ?_
  refine zv_aload_n C dL_law_1724 1725 rfl 3 rfl ?_
  refine zv_aload_n C dL_law_1725 1726 rfl 1 rfl ?_
  refine zv_iload C dL_law_1726 1728 rfl 5 rfl ?_
  refine zv_iconst (v := 1) C dL_law_1728 1729 rfl (by decide) ?_
  refine zv_iadd (v := (nI (i + 1))) C dL_law_1729 1730 rfl (nI_1 i) ?_
  refine zv_sld C hA hX hsc dL_law_1730 1731 rfl (i + 1) rfl (by omega) hL (v := (xs (i + 1))) rfl ?_
  refine zv_aload_n C dL_law_1731 1732 rfl 1 rfl ?_
  refine zv_iload C dL_law_1732 1734 rfl 5 rfl ?_
  refine zv_iconst (v := 2) C dL_law_1734 1735 rfl (by decide) ?_
  refine zv_iadd (v := (nI (i + 2))) C dL_law_1735 1736 rfl (nI_c i 2 2 rfl) ?_
  refine zv_sld C hA hX hsc dL_law_1736 1737 rfl (i + 2) rfl (by omega) hL (v := (xs (i + 2))) rfl ?_
  refine zv_callV (rest := []) (wr := ((cR cI cZ q h k (nI b) y (nI n) r f0 f1 f2 f3 f4 f5 f6 f7 f8 f9 f10 f11 f12 f13 (nI n1) r1 g0 g1 g2 g3 g4 g5 g6 g7 g8 g9 g10 g11 g12 g13 bp bn) ++ [(o, .inl (cJ, 1, .inr (.inl u)))])) C (k_X2_nameIn_n1 l D cI cZ mh t n r y b m0 m1 m2 m3 m4 m5 m6 m7 m8 m9 m10 m11 m12 m13 (xs (i + 1)) (xs (i + 2)) hI.n16 (by first | assumption | omega)) (cwV 2 C.1.2.2.2.2 gL_law_X2_nameIn rfl rfl rfl (by decide +kernel) ⟨Nat.le_of_ble_eq_true rfl, Nat.le_of_ble_eq_true rfl⟩) dL_law_1737 1740 rfl (ci := 2) 0 rfl rfl rfl rfl (Nat.le_of_ble_eq_true rfl) ⟨(by show kc + 1 + 0 ≤ 601024; omega), (by show ns + 6 + 0 ≤ 7293034; omega)⟩ [0, 1] rfl [33, 34, 35, 36, 37, 38, 39, 40, 41, 42, 43, 44, 45, 46, 47] rfl (by decide) [0, 1, 2, 3, 4, 5, 6, 7, 8, 9, 10, 11, 12, 13, 14, 15, 16, 17, 18, 19, 20, 21, 22, 23, 24, 25, 26, 27, 28, 29, 30, 31, 32, 48] rfl (by decide) (by decide +kernel) (fun v w hv => ?_)
  obtain ⟨rfl, rfl⟩ := hv
  refine zv_go rfl rfl (st' := [.int 0]) rfl (kc' := kc + 1) rfl (ns' := ns + 6) rfl ?_
  refine zv_perm [0, 1, 2, 3, 4, 5, 6, 7, 8, 9, 10, 11, 12, 13, 14, 15, 16, 17, 18, 19, 20, 21, 22, 23, 24, 25, 26, 27, 28, 29, 30, 31, 32, 34, 35, 36, 37, 38, 39, 40, 41, 42, 43, 44, 45, 46, 47, 48, 33] (ws' := ((cR cI cZ q h k (nI b) y (nI n) r f0 f1 f2 f3 f4 f5 f6 f7 f8 f9 f10 f11 f12 f13 (nI n1) r1 g0 g1 g2 g3 g4 g5 g6 g7 g8 g9 g10 g11 g12 g13 bp bn) ++ ((cM cI cZ mh 1 (nI n) r y (nI b) m0 m1 m2 m3 m4 m5 m6 m7 m8 m9 m10 m11 m12 m13) ++ [(o, .inl (cJ, 1, .inr (.inl u)))]))) (by decide) rfl ?_
  refine zv_istore C dL_law_1740 1742 rfl [(6, .int 0), (5, .int 1), (0, .ref sc), (1, .ref (q 0)), (2, .ref (mh 0)), (3, .ref o), (4, .int (nI i))] (by decide) rfl ?_
  refine zv_aload_n C dL_law_1742 1743 rfl 4 rfl ?_
  refine zv_callVR (rest := []) C (k_X2_thrown l D cI cZ mh 1 n r y b m0 m1 m2 m3 m4 m5 m6 m7 m8 m9 m10 m11 m12 m13 ) (cwV 0 C.1.2.2.2.2 gL_law_X2_thrown rfl rfl rfl (by decide +kernel) ⟨Nat.le_of_ble_eq_true rfl, Nat.le_of_ble_eq_true rfl⟩) dL_law_1743 1746 rfl (ci := 2) 0 rfl rfl rfl rfl (Nat.le_of_ble_eq_true rfl) ⟨(by show kc + 1 + 0 ≤ 601024; omega), (by show ns + 6 + 0 ≤ 7293034; omega)⟩ [0, 1] rfl [33, 34, 35, 36, 37, 38, 39, 40, 41, 42, 43, 44, 45, 46, 47] rfl (by decide) (fun v hv => ?_)
  subst hv
  refine zv_go rfl rfl (st' := [.int 1]) rfl (kc' := kc + 1) rfl (ns' := ns + 6) rfl ?_
  refine zv_iload C dL_law_1746 1748 rfl 1 rfl ?_
  refine zv_icmp_eq C dL_law_1748 1751 1753 rfl (by decide) (fun _ => ?_) (fun q => absurd (by decide) q)
  refine zv_iload C dL_law_1753 1755 rfl 1 rfl ?_
  refine zv_if_ne C dL_law_1755 1758 1770 rfl (by decide) (fun _ => ?_) (fun q => absurd q (by decide))
  refine zv_goto C dL_law_1770 1966 (by decide) ?_
  refine zv_widen (k' := kc + 17) (n' := ns + 168) (by omega) (by omega) ?_
  refine zv_sub [2, 3, 4, 5, 6] (lv' := [(0, .ref sc), (1, .ref (q 0)), (2, .ref (mh 0)), (3, .ref o), (4, .int (nI i))]) rfl ?_
  exact K n b y r 1 d f0 f1 f2 f3 f4 f5 f6 f7 f8 f9 f10 f11 f12 f13 n1 r1 g0 g1 g2 g3 g4 g5 g6 g7 g8 g9 g10 g11 g12 g13 bp bn u m0 m1 m2 m3 m4 m5 m6 m7 m8 m9 m10 m11 m12 m13 hI
set_option maxHeartbeats 4000000 in
set_option maxRecDepth 100000 in
theorem lc_nameIn_n2 {pP : Program} {l : Launch} {eE : Env} {sS : State} {mM : MethodId} {aA : Array Value} {bB : List Frame} {mT : Method} {cD : Code} {Q : State → Prop} {D : va_G} {cI cZ cJ : ClassId} {A : Nat → Prop} {sc L : Nat} {xs : Nat → Int32} {q h k mh : Nat → Nat} {o i kc ns : Nat} {n b : Nat} {y r t : Int32} {d : Nat → Nat} {f0 f1 f2 f3 f4 f5 f6 f7 f8 f9 f10 f11 f12 f13 : Nat → Int32} {n1 : Nat} {r1 : Int32} {g0 g1 g2 g3 g4 g5 g6 g7 g8 g9 g10 g11 g12 g13 bp bn : Nat → Int32} {u : Nat → Int64} {m0 m1 m2 m3 m4 m5 m6 m7 m8 m9 m10 m11 m12 m13 : Nat → Int32} (hl : l.stackTraces = false) (C : zv_C pP mM cD cL_law 9 sS aA wsL_law "RiverNamesLaw" A) (hA : A = fun q => sS.heap.size ≤ q) (hE : zx_E sS) (hX : va_X sc L xs sS sS.heap) (hsc : sc < sS.heap.size) (hi : i + 4 ≤ L) (hL : L ≤ 2048) (hkc : kc + 17 ≤ 601024) (hns : ns + 168 ≤ 7293034) (hI : LI n b r d f0 f1 f2 f3 f4 f5 f6 f7 f8 f9 f10 f11 f12 f13 bp bn m0 m1 m2 m3 m4 m5 m6 m7) (K : LK pP l eE sS mM aA bB mT cD Q D cI cZ cJ A sc q h k mh o i kc ns) (p : Nat) (hp : p < n) (e1 : xs (i + 1) = nI p) (h1 : isI (xs (i + 2)) 1 50 = false) : zv_V pP l eE room_1 sS mM aA bB mT cD Q 9 D vwCl A A (tyJ cI cZ cJ) ((cR cI cZ q h k (nI b) y (nI n) r f0 f1 f2 f3 f4 f5 f6 f7 f8 f9 f10 f11 f12 f13 (nI n1) r1 g0 g1 g2 g3 g4 g5 g6 g7 g8 g9 g10 g11 g12 g13 bp bn) ++ ((cM cI cZ mh t (nI n) r y (nI b) m0 m1 m2 m3 m4 m5 m6 m7 m8 m9 m10 m11 m12 m13) ++ [(o, .inl (cJ, 1, .inr (.inl u)))])) kc ns 1705 [(0, .ref sc), (1, .ref (q 0)), (2, .ref (mh 0)), (3, .ref o), (4, .int (nI i))] [] := by
  refine zv_aload_n C dL_law_1705 1706 rfl 1 rfl ?_
  refine zv_aload_n C dL_law_1706 1707 rfl 0 rfl ?_
  refine zv_iload C dL_law_1707 1709 rfl 4 rfl ?_
  refine zv_iconst (v := 1) C dL_law_1709 1710 rfl (by decide) ?_
  refine zv_iadd (v := (nI (i + 1))) C dL_law_1710 1711 rfl (nI_1 i) ?_
  refine zv_sld C hA hX hsc dL_law_1711 1712 rfl (i + 1) rfl (by omega) hL (v := (nI p)) e1 ?_
  refine zv_aload_n C dL_law_1712 1713 rfl 0 rfl ?_
  refine zv_iload C dL_law_1713 1715 rfl 4 rfl ?_
  refine zv_iconst (v := 2) C dL_law_1715 1716 rfl (by decide) ?_
  refine zv_iadd (v := (nI (i + 2))) C dL_law_1716 1717 rfl (nI_c i 2 2 rfl) ?_
  refine zv_sld C hA hX hsc dL_law_1717 1718 rfl (i + 2) rfl (by omega) hL (v := (xs (i + 2))) rfl ?_
  refine zv_aload_n C dL_law_1718 1719 rfl 3 rfl ?_
  refine zv_callWE (rest := []) C hA hE (k_L_nameIn_t2 l D cI cZ cJ q h k b y n r f0 f1 f2 f3 f4 f5 f6 f7 f8 f9 f10 f11 f12 f13 n1 r1 g0 g1 g2 g3 g4 g5 g6 g7 g8 g9 g10 g11 g12 g13 bp bn o u p (xs (i + 2)) hI.n16 (by first | assumption | omega) (by first | assumption | omega) hl) (vx_cwSW 4 C.1.2.2.2.2 gL_law_L_nameIn rfl rfl rfl (by decide +kernel) ⟨Nat.le_of_ble_eq_true rfl, Nat.le_of_ble_eq_true rfl⟩) dL_law_1719 1722 rfl rfl rfl (Nat.le_of_ble_eq_true rfl) ⟨(by show kc + 1 ≤ 601024; omega), (by show ns + 6 ≤ 7293034; omega)⟩ [0, 1, 2] rfl [0, 1, 2, 3, 4, 5, 6, 7, 8, 9, 10, 11, 12, 13, 14, 15, 16, 17, 18, 19, 20, 21, 22, 23, 24, 25, 26, 27, 28, 29, 30, 31, 32, 48] rfl (by decide) (fun v hv => ?_)
  subst hv
  refine zv_go rfl rfl (st' := [.int 2]) rfl (kc' := kc + 1) rfl (ns' := ns + 6) rfl ?_
  refine zv_istore C dL_law_1722 1724 rfl [(5, .int 2), (0, .ref sc), (1, .ref (q 0)), (2, .ref (mh 0)), (3, .ref o), (4, .int (nI i))] (by decide) rfl ?_
  refine zv_aload_n C dL_law_1724 1725 rfl 3 rfl ?_
  refine zv_aload_n C dL_law_1725 1726 rfl 1 rfl ?_
  refine zv_iload C dL_law_1726 1728 rfl 5 rfl ?_
  refine zv_iconst (v := 1) C dL_law_1728 1729 rfl (by decide) ?_
  refine zv_iadd (v := (nI (i + 1))) C dL_law_1729 1730 rfl (nI_1 i) ?_
  refine zv_sld C hA hX hsc dL_law_1730 1731 rfl (i + 1) rfl (by omega) hL (v := (nI p)) e1 ?_
  refine zv_aload_n C dL_law_1731 1732 rfl 1 rfl ?_
  refine zv_iload C dL_law_1732 1734 rfl 5 rfl ?_
  refine zv_iconst (v := 2) C dL_law_1734 1735 rfl (by decide) ?_
  refine zv_iadd (v := (nI (i + 2))) C dL_law_1735 1736 rfl (nI_c i 2 2 rfl) ?_
  refine zv_sld C hA hX hsc dL_law_1736 1737 rfl (i + 2) rfl (by omega) hL (v := (xs (i + 2))) rfl ?_
  refine zv_callV (rest := []) (wr := ((cR cI cZ q h k (nI b) y (nI n) r f0 f1 f2 f3 f4 f5 f6 f7 f8 f9 f10 f11 f12 f13 (nI n1) r1 g0 g1 g2 g3 g4 g5 g6 g7 g8 g9 g10 g11 g12 g13 bp bn) ++ [(o, .inl (cJ, 1, .inr (.inl u)))])) C (k_X2_nameIn_n2 l D cI cZ mh t n r y b m0 m1 m2 m3 m4 m5 m6 m7 m8 m9 m10 m11 m12 m13 p (xs (i + 2)) hI.n16 (by first | assumption | omega) (by first | assumption | omega)) (cwV 2 C.1.2.2.2.2 gL_law_X2_nameIn rfl rfl rfl (by decide +kernel) ⟨Nat.le_of_ble_eq_true rfl, Nat.le_of_ble_eq_true rfl⟩) dL_law_1737 1740 rfl (ci := 2) 0 rfl rfl rfl rfl (Nat.le_of_ble_eq_true rfl) ⟨(by show kc + 1 + 0 ≤ 601024; omega), (by show ns + 6 + 0 ≤ 7293034; omega)⟩ [0, 1] rfl [33, 34, 35, 36, 37, 38, 39, 40, 41, 42, 43, 44, 45, 46, 47] rfl (by decide) [0, 1, 2, 3, 4, 5, 6, 7, 8, 9, 10, 11, 12, 13, 14, 15, 16, 17, 18, 19, 20, 21, 22, 23, 24, 25, 26, 27, 28, 29, 30, 31, 32, 48] rfl (by decide) (by decide +kernel) (fun v w hv => ?_)
  obtain ⟨rfl, rfl⟩ := hv
  refine zv_go rfl rfl (st' := [.int 0]) rfl (kc' := kc + 1) rfl (ns' := ns + 6) rfl ?_
  refine zv_perm [0, 1, 2, 3, 4, 5, 6, 7, 8, 9, 10, 11, 12, 13, 14, 15, 16, 17, 18, 19, 20, 21, 22, 23, 24, 25, 26, 27, 28, 29, 30, 31, 32, 34, 35, 36, 37, 38, 39, 40, 41, 42, 43, 44, 45, 46, 47, 48, 33] (ws' := ((cR cI cZ q h k (nI b) y (nI n) r f0 f1 f2 f3 f4 f5 f6 f7 f8 f9 f10 f11 f12 f13 (nI n1) r1 g0 g1 g2 g3 g4 g5 g6 g7 g8 g9 g10 g11 g12 g13 bp bn) ++ ((cM cI cZ mh 2 (nI n) r y (nI b) m0 m1 m2 m3 m4 m5 m6 m7 m8 m9 m10 m11 m12 m13) ++ [(o, .inl (cJ, 1, .inr (.inl u)))]))) (by decide) rfl ?_
  refine zv_istore C dL_law_1740 1742 rfl [(6, .int 0), (5, .int 2), (0, .ref sc), (1, .ref (q 0)), (2, .ref (mh 0)), (3, .ref o), (4, .int (nI i))] (by decide) rfl ?_
  refine zv_aload_n C dL_law_1742 1743 rfl 4 rfl ?_
  refine zv_callVR (rest := []) C (k_X2_thrown l D cI cZ mh 2 n r y b m0 m1 m2 m3 m4 m5 m6 m7 m8 m9 m10 m11 m12 m13 ) (cwV 0 C.1.2.2.2.2 gL_law_X2_thrown rfl rfl rfl (by decide +kernel) ⟨Nat.le_of_ble_eq_true rfl, Nat.le_of_ble_eq_true rfl⟩) dL_law_1743 1746 rfl (ci := 2) 0 rfl rfl rfl rfl (Nat.le_of_ble_eq_true rfl) ⟨(by show kc + 1 + 0 ≤ 601024; omega), (by show ns + 6 + 0 ≤ 7293034; omega)⟩ [0, 1] rfl [33, 34, 35, 36, 37, 38, 39, 40, 41, 42, 43, 44, 45, 46, 47] rfl (by decide) (fun v hv => ?_)
  subst hv
  refine zv_go rfl rfl (st' := [.int 2]) rfl (kc' := kc + 1) rfl (ns' := ns + 6) rfl ?_
  refine zv_iload C dL_law_1746 1748 rfl 1 rfl ?_
  refine zv_icmp_eq C dL_law_1748 1751 1753 rfl (by decide) (fun _ => ?_) (fun q => absurd (by decide) q)
  refine zv_iload C dL_law_1753 1755 rfl 1 rfl ?_
  refine zv_if_ne C dL_law_1755 1758 1770 rfl (by decide) (fun _ => ?_) (fun q => absurd q (by decide))
  refine zv_goto C dL_law_1770 1966 (by decide) ?_
  refine zv_widen (k' := kc + 17) (n' := ns + 168) (by omega) (by omega) ?_
  refine zv_sub [2, 3, 4, 5, 6] (lv' := [(0, .ref sc), (1, .ref (q 0)), (2, .ref (mh 0)), (3, .ref o), (4, .int (nI i))]) rfl ?_
  exact K n b y r 2 d f0 f1 f2 f3 f4 f5 f6 f7 f8 f9 f10 f11 f12 f13 n1 r1 g0 g1 g2 g3 g4 g5 g6 g7 g8 g9 g10 g11 g12 g13 bp bn u m0 m1 m2 m3 m4 m5 m6 m7 m8 m9 m10 m11 m12 m13 hI
set_option maxHeartbeats 4000000 in
set_option maxRecDepth 100000 in
theorem lc_nameIn_ok {pP : Program} {l : Launch} {eE : Env} {sS : State} {mM : MethodId} {aA : Array Value} {bB : List Frame} {mT : Method} {cD : Code} {Q : State → Prop} {D : va_G} {cI cZ cJ : ClassId} {A : Nat → Prop} {sc L : Nat} {xs : Nat → Int32} {q h k mh : Nat → Nat} {o i kc ns : Nat} {n b : Nat} {y r t : Int32} {d : Nat → Nat} {f0 f1 f2 f3 f4 f5 f6 f7 f8 f9 f10 f11 f12 f13 : Nat → Int32} {n1 : Nat} {r1 : Int32} {g0 g1 g2 g3 g4 g5 g6 g7 g8 g9 g10 g11 g12 g13 bp bn : Nat → Int32} {u : Nat → Int64} {m0 m1 m2 m3 m4 m5 m6 m7 m8 m9 m10 m11 m12 m13 : Nat → Int32} (hl : l.stackTraces = false) (C : zv_C pP mM cD cL_law 9 sS aA wsL_law "RiverNamesLaw" A) (hA : A = fun q => sS.heap.size ≤ q) (hE : zx_E sS) (hX : va_X sc L xs sS sS.heap) (hsc : sc < sS.heap.size) (hi : i + 4 ≤ L) (hL : L ≤ 2048) (hkc : kc + 17 ≤ 601024) (hns : ns + 168 ≤ 7293034) (hI : LI n b r d f0 f1 f2 f3 f4 f5 f6 f7 f8 f9 f10 f11 f12 f13 bp bn m0 m1 m2 m3 m4 m5 m6 m7) (K : LK pP l eE sS mM aA bB mT cD Q D cI cZ cJ A sc q h k mh o i kc ns) (p : Nat) (hp : p < n) (e1 : xs (i + 1) = nI p) (z : Nat) (hz1 : 1 ≤ z) (hz5 : z ≤ 50) (e2 : xs (i + 2) = nI z) : zv_V pP l eE room_1 sS mM aA bB mT cD Q 9 D vwCl A A (tyJ cI cZ cJ) ((cR cI cZ q h k (nI b) y (nI n) r f0 f1 f2 f3 f4 f5 f6 f7 f8 f9 f10 f11 f12 f13 (nI n1) r1 g0 g1 g2 g3 g4 g5 g6 g7 g8 g9 g10 g11 g12 g13 bp bn) ++ ((cM cI cZ mh t (nI n) r y (nI b) m0 m1 m2 m3 m4 m5 m6 m7 m8 m9 m10 m11 m12 m13) ++ [(o, .inl (cJ, 1, .inr (.inl u)))])) kc ns 1705 [(0, .ref sc), (1, .ref (q 0)), (2, .ref (mh 0)), (3, .ref o), (4, .int (nI i))] [] := by
  refine zv_aload_n C dL_law_1705 1706 rfl 1 rfl ?_
  refine zv_aload_n C dL_law_1706 1707 rfl 0 rfl ?_
  refine zv_iload C dL_law_1707 1709 rfl 4 rfl ?_
  refine zv_iconst (v := 1) C dL_law_1709 1710 rfl (by decide) ?_
  refine zv_iadd (v := (nI (i + 1))) C dL_law_1710 1711 rfl (nI_1 i) ?_
  refine zv_sld C hA hX hsc dL_law_1711 1712 rfl (i + 1) rfl (by omega) hL (v := (nI p)) e1 ?_
  refine zv_aload_n C dL_law_1712 1713 rfl 0 rfl ?_
  refine zv_iload C dL_law_1713 1715 rfl 4 rfl ?_
  refine zv_iconst (v := 2) C dL_law_1715 1716 rfl (by decide) ?_
  refine zv_iadd (v := (nI (i + 2))) C dL_law_1716 1717 rfl (nI_c i 2 2 rfl) ?_
  refine zv_sld C hA hX hsc dL_law_1717 1718 rfl (i + 2) rfl (by omega) hL (v := (nI z)) e2 ?_
  refine zv_aload_n C dL_law_1718 1719 rfl 3 rfl ?_
  refine zv_callW (rest := []) (wr := (cM cI cZ mh t (nI n) r y (nI b) m0 m1 m2 m3 m4 m5 m6 m7 m8 m9 m10 m11 m12 m13)) C (k_L_nameIn_ok l D cI cZ cJ q h k b y n r f0 f1 f2 f3 f4 f5 f6 f7 f8 f9 f10 f11 f12 f13 n1 r1 g0 g1 g2 g3 g4 g5 g6 g7 g8 g9 g10 g11 g12 g13 bp bn o u p z (by first | assumption | omega) (by first | assumption | omega) d hI.n16 hI.dep hI.wat hI.stl hI.z2 hI.z6 hI.swlI (by first | assumption | omega)) (vx_cwSW 4 C.1.2.2.2.2 gL_law_L_nameIn rfl rfl rfl (by decide +kernel) ⟨Nat.le_of_ble_eq_true rfl, Nat.le_of_ble_eq_true rfl⟩) dL_law_1719 1722 rfl rfl rfl (Nat.le_of_ble_eq_true rfl) ⟨(by show kc + 0 ≤ 601024; omega), (by show ns + 0 ≤ 7293034; omega)⟩ [0, 1, 2] rfl [0, 1, 2, 3, 4, 5, 6, 7, 8, 9, 10, 11, 12, 13, 14, 15, 16, 17, 18, 19, 20, 21, 22, 23, 24, 25, 26, 27, 28, 29, 30, 31, 32, 48] rfl (by decide) [33, 34, 35, 36, 37, 38, 39, 40, 41, 42, 43, 44, 45, 46, 47] rfl (by decide) (by decide +kernel) (fun v w hv => ?_)
  obtain ⟨tn_1, tr_1, tg_1, uo_1, rfl, rfl, hu⟩ := hv
  refine zv_go rfl rfl (st' := [.int 0]) rfl (kc' := kc) rfl (ns' := ns) rfl ?_
  refine zv_perm [15, 16, 17, 18, 19, 20, 21, 22, 23, 24, 25, 26, 27, 28, 29, 30, 31, 32, 33, 34, 35, 36, 37, 38, 39, 40, 41, 42, 43, 44, 45, 46, 47, 0, 1, 2, 3, 4, 5, 6, 7, 8, 9, 10, 11, 12, 13, 14, 48] (ws' := ((cR cI cZ q h k (nI b) y (nI n) r f0 f1 f2 f3 f4 f5 f6 f7 f8 f9 f10 f11 f12 f13 (nI tn_1) tr_1 (tg_1 0) (tg_1 1) (tg_1 2) (tg_1 3) (tg_1 4) (tg_1 5) (tg_1 6) (tg_1 7) (tg_1 8) (tg_1 9) (tg_1 10) (tg_1 11) (tg_1 12) (tg_1 13) bp bn) ++ ((cM cI cZ mh t (nI n) r y (nI b) m0 m1 m2 m3 m4 m5 m6 m7 m8 m9 m10 m11 m12 m13) ++ [(o, .inl (cJ, 1, .inr (.inl uo_1)))]))) (by decide) rfl ?_
  refine zv_istore C dL_law_1722 1724 rfl [(5, .int 0), (0, .ref sc), (1, .ref (q 0)), (2, .ref (mh 0)), (3, .ref o), (4, .int (nI i))] (by decide) rfl ?_
  refine zv_aload_n C dL_law_1724 1725 rfl 3 rfl ?_
  refine zv_aload_n C dL_law_1725 1726 rfl 1 rfl ?_
  refine zv_iload C dL_law_1726 1728 rfl 5 rfl ?_
  refine zv_iconst (v := 1) C dL_law_1728 1729 rfl (by decide) ?_
  refine zv_iadd (v := (nI (i + 1))) C dL_law_1729 1730 rfl (nI_1 i) ?_
  refine zv_sld C hA hX hsc dL_law_1730 1731 rfl (i + 1) rfl (by omega) hL (v := (nI p)) e1 ?_
  refine zv_aload_n C dL_law_1731 1732 rfl 1 rfl ?_
  refine zv_iload C dL_law_1732 1734 rfl 5 rfl ?_
  refine zv_iconst (v := 2) C dL_law_1734 1735 rfl (by decide) ?_
  refine zv_iadd (v := (nI (i + 2))) C dL_law_1735 1736 rfl (nI_c i 2 2 rfl) ?_
  refine zv_sld C hA hX hsc dL_law_1736 1737 rfl (i + 2) rfl (by omega) hL (v := (nI z)) e2 ?_
  refine zv_callV (rest := []) (wr := ((cR cI cZ q h k (nI b) y (nI n) r f0 f1 f2 f3 f4 f5 f6 f7 f8 f9 f10 f11 f12 f13 (nI tn_1) tr_1 (tg_1 0) (tg_1 1) (tg_1 2) (tg_1 3) (tg_1 4) (tg_1 5) (tg_1 6) (tg_1 7) (tg_1 8) (tg_1 9) (tg_1 10) (tg_1 11) (tg_1 12) (tg_1 13) bp bn) ++ [(o, .inl (cJ, 1, .inr (.inl uo_1)))])) C (k_X2_nameIn_ok l D cI cZ mh t n r y b m0 m1 m2 m3 m4 m5 m6 m7 m8 m9 m10 m11 m12 m13 p z (by first | assumption | omega) (by first | assumption | omega) f1 d hI.n16 hI.depM (by first | assumption | omega)) (cwV 2 C.1.2.2.2.2 gL_law_X2_nameIn rfl rfl rfl (by decide +kernel) ⟨Nat.le_of_ble_eq_true rfl, Nat.le_of_ble_eq_true rfl⟩) dL_law_1737 1740 rfl (ci := 2) 0 rfl rfl rfl rfl (Nat.le_of_ble_eq_true rfl) ⟨(by show kc + 0 ≤ 601024; omega), (by show ns + 0 ≤ 7293034; omega)⟩ [0, 1] rfl [33, 34, 35, 36, 37, 38, 39, 40, 41, 42, 43, 44, 45, 46, 47] rfl (by decide) [0, 1, 2, 3, 4, 5, 6, 7, 8, 9, 10, 11, 12, 13, 14, 15, 16, 17, 18, 19, 20, 21, 22, 23, 24, 25, 26, 27, 28, 29, 30, 31, 32, 48] rfl (by decide) (by decide +kernel) (fun v w hv => ?_)
  obtain ⟨eg3_2, eg8_2, eg9_2, eg10_2, eg11_2, eg13_2, rfl, rfl, hm1⟩ := hv
  refine zv_go rfl rfl (st' := [.int ((nmS n m0 m1 m2 (swN m1 m3 m4 z) m5 r) p)]) rfl (kc' := kc) rfl (ns' := ns) rfl ?_
  refine zv_perm [0, 1, 2, 3, 4, 5, 6, 7, 8, 9, 10, 11, 12, 13, 14, 15, 16, 17, 18, 19, 20, 21, 22, 23, 24, 25, 26, 27, 28, 29, 30, 31, 32, 34, 35, 36, 37, 38, 39, 40, 41, 42, 43, 44, 45, 46, 47, 48, 33] (ws' := ((cR cI cZ q h k (nI b) y (nI n) r f0 f1 f2 f3 f4 f5 f6 f7 f8 f9 f10 f11 f12 f13 (nI tn_1) tr_1 (tg_1 0) (tg_1 1) (tg_1 2) (tg_1 3) (tg_1 4) (tg_1 5) (tg_1 6) (tg_1 7) (tg_1 8) (tg_1 9) (tg_1 10) (tg_1 11) (tg_1 12) (tg_1 13) bp bn) ++ ((cM cI cZ mh 0 (nI n) r y (nI b) m0 m1 m2 eg3_2 m4 m5 m6 m7 eg8_2 eg9_2 eg10_2 eg11_2 m12 eg13_2) ++ [(o, .inl (cJ, 1, .inr (.inl uo_1)))]))) (by decide) rfl ?_
  refine zv_istore C dL_law_1740 1742 rfl [(6, .int ((nmS n m0 m1 m2 (swN m1 m3 m4 z) m5 r) p)), (5, .int 0), (0, .ref sc), (1, .ref (q 0)), (2, .ref (mh 0)), (3, .ref o), (4, .int (nI i))] (by decide) rfl ?_
  refine zv_aload_n C dL_law_1742 1743 rfl 4 rfl ?_
  refine zv_callVR (rest := []) C (k_X2_thrown l D cI cZ mh 0 n r y b m0 m1 m2 eg3_2 m4 m5 m6 m7 eg8_2 eg9_2 eg10_2 eg11_2 m12 eg13_2 ) (cwV 0 C.1.2.2.2.2 gL_law_X2_thrown rfl rfl rfl (by decide +kernel) ⟨Nat.le_of_ble_eq_true rfl, Nat.le_of_ble_eq_true rfl⟩) dL_law_1743 1746 rfl (ci := 2) 0 rfl rfl rfl rfl (Nat.le_of_ble_eq_true rfl) ⟨(by show kc + 0 ≤ 601024; omega), (by show ns + 0 ≤ 7293034; omega)⟩ [0, 1] rfl [33, 34, 35, 36, 37, 38, 39, 40, 41, 42, 43, 44, 45, 46, 47] rfl (by decide) (fun v hv => ?_)
  subst hv
  refine zv_go rfl rfl (st' := [.int 0]) rfl (kc' := kc) rfl (ns' := ns) rfl ?_
  refine zv_iload C dL_law_1746 1748 rfl 1 rfl ?_
  refine zv_icmp_eq C dL_law_1748 1751 1753 rfl (by decide) (fun _ => ?_) (fun q => absurd (by decide) q)
  refine zv_iload C dL_law_1753 1755 rfl 1 rfl ?_
  refine zv_if_ne C dL_law_1755 1758 1770 rfl (by decide) (fun q => absurd (by decide) q) (fun _ => ?_)
  refine zv_aload_n C dL_law_1758 1759 rfl 5 rfl ?_
  refine zv_iconst (v := 0) C dL_law_1759 1760 rfl (by decide) ?_
  refine zv_lald (v := (uo_1 0)) C dL_law_1760 1761 rfl 48 2 0 rfl rfl (by decide) (by decide) (by decide) rfl ?_
  refine zv_iload C dL_law_1761 1763 rfl 0 rfl ?_
  refine zv_i2l C dL_law_1763 1764 rfl ?_
  refine zv_lcmpE C dL_law_1764 1765 rfl (hu.trans (congrArg Int32.toInt64 (congrFun (hI.nmY z).symm p))) ?_
  refine zv_if_eq C dL_law_1765 1768 1770 rfl (by decide) (fun _ => ?_) (fun q => absurd (by decide) q)
  refine zv_goto C dL_law_1770 1966 (by decide) ?_
  refine zv_widen (k' := kc + 17) (n' := ns + 168) (by omega) (by omega) ?_
  refine zv_sub [2, 3, 4, 5, 6] (lv' := [(0, .ref sc), (1, .ref (q 0)), (2, .ref (mh 0)), (3, .ref o), (4, .int (nI i))]) rfl ?_
  exact K n b y r 0 d f0 f1 f2 f3 f4 f5 f6 f7 f8 f9 f10 f11 f12 f13 tn_1 tr_1 (tg_1 0) (tg_1 1) (tg_1 2) (tg_1 3) (tg_1 4) (tg_1 5) (tg_1 6) (tg_1 7) (tg_1 8) (tg_1 9) (tg_1 10) (tg_1 11) (tg_1 12) (tg_1 13) bp bn uo_1 m0 m1 m2 eg3_2 m4 m5 m6 m7 eg8_2 eg9_2 eg10_2 eg11_2 m12 eg13_2 (hI.keep3 hm1)
set_option maxHeartbeats 4000000 in
set_option maxRecDepth 100000 in
theorem lc_addPlace_no {pP : Program} {l : Launch} {eE : Env} {sS : State} {mM : MethodId} {aA : Array Value} {bB : List Frame} {mT : Method} {cD : Code} {Q : State → Prop} {D : va_G} {cI cZ cJ : ClassId} {A : Nat → Prop} {sc L : Nat} {xs : Nat → Int32} {q h k mh : Nat → Nat} {o i kc ns : Nat} {n b : Nat} {y r t : Int32} {d : Nat → Nat} {f0 f1 f2 f3 f4 f5 f6 f7 f8 f9 f10 f11 f12 f13 : Nat → Int32} {n1 : Nat} {r1 : Int32} {g0 g1 g2 g3 g4 g5 g6 g7 g8 g9 g10 g11 g12 g13 bp bn : Nat → Int32} {u : Nat → Int64} {m0 m1 m2 m3 m4 m5 m6 m7 m8 m9 m10 m11 m12 m13 : Nat → Int32} (hl : l.stackTraces = false) (C : zv_C pP mM cD cL_law 9 sS aA wsL_law "RiverNamesLaw" A) (hA : A = fun q => sS.heap.size ≤ q) (hE : zx_E sS) (hX : va_X sc L xs sS sS.heap) (hsc : sc < sS.heap.size) (hi : i + 4 ≤ L) (hL : L ≤ 2048) (hkc : kc + 17 ≤ 601024) (hns : ns + 168 ≤ 7293034) (hI : LI n b r d f0 f1 f2 f3 f4 f5 f6 f7 f8 f9 f10 f11 f12 f13 bp bn m0 m1 m2 m3 m4 m5 m6 m7) (K : LK pP l eE sS mM aA bB mT cD Q D cI cZ cJ A sc q h k mh o i kc ns) (h16 : n = 16) : zv_V pP l eE room_1 sS mM aA bB mT cD Q 9 D vwCl A A (tyJ cI cZ cJ) ((cR cI cZ q h k (nI b) y (nI n) r f0 f1 f2 f3 f4 f5 f6 f7 f8 f9 f10 f11 f12 f13 (nI n1) r1 g0 g1 g2 g3 g4 g5 g6 g7 g8 g9 g10 g11 g12 g13 bp bn) ++ ((cM cI cZ mh t (nI n) r y (nI b) m0 m1 m2 m3 m4 m5 m6 m7 m8 m9 m10 m11 m12 m13) ++ [(o, .inl (cJ, 1, .inr (.inl u)))])) kc ns 200 [(0, .ref sc), (1, .ref (q 0)), (2, .ref (mh 0)), (3, .ref o), (4, .int (nI i))] [] := by
  refine zv_aload_n C dL_law_200 201 rfl 1 rfl ?_
  refine zv_aload_n C dL_law_201 202 rfl 3 rfl ?_
  refine zv_callWE (rest := []) C hA hE (k_L_addPlace_t l D cI cZ cJ q h k b y n r f0 f1 f2 f3 f4 f5 f6 f7 f8 f9 f10 f11 f12 f13 n1 r1 g0 g1 g2 g3 g4 g5 g6 g7 g8 g9 g10 g11 g12 g13 bp bn o u (by first | assumption | omega) hl) (vx_cwSW 2 C.1.2.2.2.2 gL_law_L_addPlace rfl rfl rfl (by decide +kernel) ⟨Nat.le_of_ble_eq_true rfl, Nat.le_of_ble_eq_true rfl⟩) dL_law_202 205 rfl rfl rfl (Nat.le_of_ble_eq_true rfl) ⟨(by show kc + 1 ≤ 601024; omega), (by show ns + 6 ≤ 7293034; omega)⟩ [0, 1, 2] rfl [0, 1, 2, 3, 4, 5, 6, 7, 8, 9, 10, 11, 12, 13, 14, 15, 16, 17, 18, 19, 20, 21, 22, 23, 24, 25, 26, 27, 28, 29, 30, 31, 32, 48] rfl (by decide) (fun v hv => ?_)
  subst hv
  refine zv_go rfl rfl (st' := [.int 1]) rfl (kc' := kc + 1) rfl (ns' := ns + 6) rfl ?_
  refine zv_istore C dL_law_205 207 rfl [(5, .int 1), (0, .ref sc), (1, .ref (q 0)), (2, .ref (mh 0)), (3, .ref o), (4, .int (nI i))] (by decide) rfl ?_
  refine zv_aload_n C dL_law_207 208 rfl 3 rfl ?_
  refine zv_callV (rest := []) (wr := ((cR cI cZ q h k (nI b) y (nI n) r f0 f1 f2 f3 f4 f5 f6 f7 f8 f9 f10 f11 f12 f13 (nI n1) r1 g0 g1 g2 g3 g4 g5 g6 g7 g8 g9 g10 g11 g12 g13 bp bn) ++ [(o, .inl (cJ, 1, .inr (.inl u)))])) C (k_X2_addPlace_no l D cI cZ mh t n r y b m0 m1 m2 m3 m4 m5 m6 m7 m8 m9 m10 m11 m12 m13 (by first | assumption | omega)) (cwV 0 C.1.2.2.2.2 gL_law_X2_addPlace rfl rfl rfl (by decide +kernel) ⟨Nat.le_of_ble_eq_true rfl, Nat.le_of_ble_eq_true rfl⟩) dL_law_208 211 rfl (ci := 2) 0 rfl rfl rfl rfl (Nat.le_of_ble_eq_true rfl) ⟨(by show kc + 1 + 0 ≤ 601024; omega), (by show ns + 6 + 0 ≤ 7293034; omega)⟩ [0, 1] rfl [33, 34, 35, 36, 37, 38, 39, 40, 41, 42, 43, 44, 45, 46, 47] rfl (by decide) [0, 1, 2, 3, 4, 5, 6, 7, 8, 9, 10, 11, 12, 13, 14, 15, 16, 17, 18, 19, 20, 21, 22, 23, 24, 25, 26, 27, 28, 29, 30, 31, 32, 48] rfl (by decide) (by decide +kernel) (fun v w hv => ?_)
  obtain ⟨rfl, rfl⟩ := hv
  refine zv_go rfl rfl (st' := [.int 0]) rfl (kc' := kc + 1) rfl (ns' := ns + 6) rfl ?_
  refine zv_perm [0, 1, 2, 3, 4, 5, 6, 7, 8, 9, 10, 11, 12, 13, 14, 15, 16, 17, 18, 19, 20, 21, 22, 23, 24, 25, 26, 27, 28, 29, 30, 31, 32, 34, 35, 36, 37, 38, 39, 40, 41, 42, 43, 44, 45, 46, 47, 48, 33] (ws' := ((cR cI cZ q h k (nI b) y (nI n) r f0 f1 f2 f3 f4 f5 f6 f7 f8 f9 f10 f11 f12 f13 (nI n1) r1 g0 g1 g2 g3 g4 g5 g6 g7 g8 g9 g10 g11 g12 g13 bp bn) ++ ((cM cI cZ mh 1 (nI n) r y (nI b) m0 m1 m2 m3 m4 m5 m6 m7 m8 m9 m10 m11 m12 m13) ++ [(o, .inl (cJ, 1, .inr (.inl u)))]))) (by decide) rfl ?_
  refine zv_istore C dL_law_211 213 rfl [(6, .int 0), (5, .int 1), (0, .ref sc), (1, .ref (q 0)), (2, .ref (mh 0)), (3, .ref o), (4, .int (nI i))] (by decide) rfl ?_
  refine zv_aload_n C dL_law_213 214 rfl 4 rfl ?_
  refine zv_callVR (rest := []) C (k_X2_thrown l D cI cZ mh 1 n r y b m0 m1 m2 m3 m4 m5 m6 m7 m8 m9 m10 m11 m12 m13 ) (cwV 0 C.1.2.2.2.2 gL_law_X2_thrown rfl rfl rfl (by decide +kernel) ⟨Nat.le_of_ble_eq_true rfl, Nat.le_of_ble_eq_true rfl⟩) dL_law_214 217 rfl (ci := 2) 0 rfl rfl rfl rfl (Nat.le_of_ble_eq_true rfl) ⟨(by show kc + 1 + 0 ≤ 601024; omega), (by show ns + 6 + 0 ≤ 7293034; omega)⟩ [0, 1] rfl [33, 34, 35, 36, 37, 38, 39, 40, 41, 42, 43, 44, 45, 46, 47] rfl (by decide) (fun v hv => ?_)
  subst hv
  refine zv_go rfl rfl (st' := [.int 1]) rfl (kc' := kc + 1) rfl (ns' := ns + 6) rfl ?_
  refine zv_iload C dL_law_217 219 rfl 1 rfl ?_
  refine zv_icmp_eq C dL_law_219 222 224 rfl (by decide) (fun _ => ?_) (fun q => absurd (by decide) q)
  refine zv_iload C dL_law_224 226 rfl 1 rfl ?_
  refine zv_if_ne C dL_law_226 229 241 rfl (by decide) (fun _ => ?_) (fun q => absurd q (by decide))
  refine zv_goto C dL_law_241 1966 (by decide) ?_
  refine zv_widen (k' := kc + 17) (n' := ns + 168) (by omega) (by omega) ?_
  refine zv_sub [2, 3, 4, 5, 6] (lv' := [(0, .ref sc), (1, .ref (q 0)), (2, .ref (mh 0)), (3, .ref o), (4, .int (nI i))]) rfl ?_
  exact K n b y r 1 d f0 f1 f2 f3 f4 f5 f6 f7 f8 f9 f10 f11 f12 f13 n1 r1 g0 g1 g2 g3 g4 g5 g6 g7 g8 g9 g10 g11 g12 g13 bp bn u m0 m1 m2 m3 m4 m5 m6 m7 m8 m9 m10 m11 m12 m13 hI
set_option maxHeartbeats 4000000 in
set_option maxRecDepth 100000 in
theorem lc_addPlace_ok {pP : Program} {l : Launch} {eE : Env} {sS : State} {mM : MethodId} {aA : Array Value} {bB : List Frame} {mT : Method} {cD : Code} {Q : State → Prop} {D : va_G} {cI cZ cJ : ClassId} {A : Nat → Prop} {sc L : Nat} {xs : Nat → Int32} {q h k mh : Nat → Nat} {o i kc ns : Nat} {n b : Nat} {y r t : Int32} {d : Nat → Nat} {f0 f1 f2 f3 f4 f5 f6 f7 f8 f9 f10 f11 f12 f13 : Nat → Int32} {n1 : Nat} {r1 : Int32} {g0 g1 g2 g3 g4 g5 g6 g7 g8 g9 g10 g11 g12 g13 bp bn : Nat → Int32} {u : Nat → Int64} {m0 m1 m2 m3 m4 m5 m6 m7 m8 m9 m10 m11 m12 m13 : Nat → Int32} (hl : l.stackTraces = false) (C : zv_C pP mM cD cL_law 9 sS aA wsL_law "RiverNamesLaw" A) (hA : A = fun q => sS.heap.size ≤ q) (hE : zx_E sS) (hX : va_X sc L xs sS sS.heap) (hsc : sc < sS.heap.size) (hi : i + 4 ≤ L) (hL : L ≤ 2048) (hkc : kc + 17 ≤ 601024) (hns : ns + 168 ≤ 7293034) (hI : LI n b r d f0 f1 f2 f3 f4 f5 f6 f7 f8 f9 f10 f11 f12 f13 bp bn m0 m1 m2 m3 m4 m5 m6 m7) (K : LK pP l eE sS mM aA bB mT cD Q D cI cZ cJ A sc q h k mh o i kc ns) (h16 : n < 16) : zv_V pP l eE room_1 sS mM aA bB mT cD Q 9 D vwCl A A (tyJ cI cZ cJ) ((cR cI cZ q h k (nI b) y (nI n) r f0 f1 f2 f3 f4 f5 f6 f7 f8 f9 f10 f11 f12 f13 (nI n1) r1 g0 g1 g2 g3 g4 g5 g6 g7 g8 g9 g10 g11 g12 g13 bp bn) ++ ((cM cI cZ mh t (nI n) r y (nI b) m0 m1 m2 m3 m4 m5 m6 m7 m8 m9 m10 m11 m12 m13) ++ [(o, .inl (cJ, 1, .inr (.inl u)))])) kc ns 200 [(0, .ref sc), (1, .ref (q 0)), (2, .ref (mh 0)), (3, .ref o), (4, .int (nI i))] [] := by
  refine zv_aload_n C dL_law_200 201 rfl 1 rfl ?_
  refine zv_aload_n C dL_law_201 202 rfl 3 rfl ?_
  refine zv_callW (rest := []) (wr := (cM cI cZ mh t (nI n) r y (nI b) m0 m1 m2 m3 m4 m5 m6 m7 m8 m9 m10 m11 m12 m13)) C (k_L_addPlace_ok l D cI cZ cJ q h k b y n r f0 f1 f2 f3 f4 f5 f6 f7 f8 f9 f10 f11 f12 f13 n1 r1 g0 g1 g2 g3 g4 g5 g6 g7 g8 g9 g10 g11 g12 g13 bp bn o u (dAdd n d) (by first | assumption | omega) hI.depAdd) (vx_cwSW 2 C.1.2.2.2.2 gL_law_L_addPlace rfl rfl rfl (by decide +kernel) ⟨Nat.le_of_ble_eq_true rfl, Nat.le_of_ble_eq_true rfl⟩) dL_law_202 205 rfl rfl rfl (Nat.le_of_ble_eq_true rfl) ⟨(by show kc + 0 ≤ 601024; omega), (by show ns + 0 ≤ 7293034; omega)⟩ [0, 1, 2] rfl [0, 1, 2, 3, 4, 5, 6, 7, 8, 9, 10, 11, 12, 13, 14, 15, 16, 17, 18, 19, 20, 21, 22, 23, 24, 25, 26, 27, 28, 29, 30, 31, 32, 48] rfl (by decide) [33, 34, 35, 36, 37, 38, 39, 40, 41, 42, 43, 44, 45, 46, 47] rfl (by decide) (by decide +kernel) (fun v w hv => ?_)
  obtain ⟨v7_1, v8_1, v9_1, v10_1, v11_1, v12_1, v13_1, uo_1, rfl, rfl, hu, hw1⟩ := hv
  refine zv_go rfl rfl (st' := [.int 0]) rfl (kc' := kc) rfl (ns' := ns) rfl ?_
  refine zv_perm [15, 16, 17, 18, 19, 20, 21, 22, 23, 24, 25, 26, 27, 28, 29, 30, 31, 32, 33, 34, 35, 36, 37, 38, 39, 40, 41, 42, 43, 44, 45, 46, 47, 0, 1, 2, 3, 4, 5, 6, 7, 8, 9, 10, 11, 12, 13, 14, 48] (ws' := ((cR cI cZ q h k (nI b) y (nI (n + 1)) r (upd f0 n (-1)) f1 f2 f3 f4 f5 f6 v7_1 v8_1 v9_1 v10_1 v11_1 v12_1 v13_1 (nI n1) r1 g0 g1 g2 g3 g4 g5 g6 g7 g8 g9 g10 g11 g12 g13 bp bn) ++ ((cM cI cZ mh t (nI n) r y (nI b) m0 m1 m2 m3 m4 m5 m6 m7 m8 m9 m10 m11 m12 m13) ++ [(o, .inl (cJ, 1, .inr (.inl uo_1)))]))) (by decide) rfl ?_
  refine zv_istore C dL_law_205 207 rfl [(5, .int 0), (0, .ref sc), (1, .ref (q 0)), (2, .ref (mh 0)), (3, .ref o), (4, .int (nI i))] (by decide) rfl ?_
  refine zv_aload_n C dL_law_207 208 rfl 3 rfl ?_
  refine zv_callV (rest := []) (wr := ((cR cI cZ q h k (nI b) y (nI (n + 1)) r (upd f0 n (-1)) f1 f2 f3 f4 f5 f6 v7_1 v8_1 v9_1 v10_1 v11_1 v12_1 v13_1 (nI n1) r1 g0 g1 g2 g3 g4 g5 g6 g7 g8 g9 g10 g11 g12 g13 bp bn) ++ [(o, .inl (cJ, 1, .inr (.inl uo_1)))])) C (k_X2_addPlace_ok l D cI cZ mh t n r y b m0 m1 m2 m3 m4 m5 m6 m7 m8 m9 m10 m11 m12 m13 (by first | assumption | omega)) (cwV 0 C.1.2.2.2.2 gL_law_X2_addPlace rfl rfl rfl (by decide +kernel) ⟨Nat.le_of_ble_eq_true rfl, Nat.le_of_ble_eq_true rfl⟩) dL_law_208 211 rfl (ci := 2) 0 rfl rfl rfl rfl (Nat.le_of_ble_eq_true rfl) ⟨(by show kc + 0 ≤ 601024; omega), (by show ns + 0 ≤ 7293034; omega)⟩ [0, 1] rfl [33, 34, 35, 36, 37, 38, 39, 40, 41, 42, 43, 44, 45, 46, 47] rfl (by decide) [0, 1, 2, 3, 4, 5, 6, 7, 8, 9, 10, 11, 12, 13, 14, 15, 16, 17, 18, 19, 20, 21, 22, 23, 24, 25, 26, 27, 28, 29, 30, 31, 32, 48] rfl (by decide) (by decide +kernel) (fun v w hv => ?_)
  obtain ⟨rfl, rfl⟩ := hv
  refine zv_go rfl rfl (st' := [.int (nI n)]) rfl (kc' := kc) rfl (ns' := ns) rfl ?_
  refine zv_perm [0, 1, 2, 3, 4, 5, 6, 7, 8, 9, 10, 11, 12, 13, 14, 15, 16, 17, 18, 19, 20, 21, 22, 23, 24, 25, 26, 27, 28, 29, 30, 31, 32, 34, 35, 36, 37, 38, 39, 40, 41, 42, 43, 44, 45, 46, 47, 48, 33] (ws' := ((cR cI cZ q h k (nI b) y (nI (n + 1)) r (upd f0 n (-1)) f1 f2 f3 f4 f5 f6 v7_1 v8_1 v9_1 v10_1 v11_1 v12_1 v13_1 (nI n1) r1 g0 g1 g2 g3 g4 g5 g6 g7 g8 g9 g10 g11 g12 g13 bp bn) ++ ((cM cI cZ mh 0 (nI (n + 1)) r y (nI b) (upd m0 n (-1 : Int32)) (upd m1 n 0) (upd m2 n (-1 : Int32)) (upd m3 n 0) (upd m4 n 0) m5 m6 m7 m8 m9 m10 m11 m12 m13) ++ [(o, .inl (cJ, 1, .inr (.inl uo_1)))]))) (by decide) rfl ?_
  refine zv_istore C dL_law_211 213 rfl [(6, .int (nI n)), (5, .int 0), (0, .ref sc), (1, .ref (q 0)), (2, .ref (mh 0)), (3, .ref o), (4, .int (nI i))] (by decide) rfl ?_
  refine zv_aload_n C dL_law_213 214 rfl 4 rfl ?_
  refine zv_callVR (rest := []) C (k_X2_thrown l D cI cZ mh 0 (n + 1) r y b (upd m0 n (-1 : Int32)) (upd m1 n 0) (upd m2 n (-1 : Int32)) (upd m3 n 0) (upd m4 n 0) m5 m6 m7 m8 m9 m10 m11 m12 m13 ) (cwV 0 C.1.2.2.2.2 gL_law_X2_thrown rfl rfl rfl (by decide +kernel) ⟨Nat.le_of_ble_eq_true rfl, Nat.le_of_ble_eq_true rfl⟩) dL_law_214 217 rfl (ci := 2) 0 rfl rfl rfl rfl (Nat.le_of_ble_eq_true rfl) ⟨(by show kc + 0 ≤ 601024; omega), (by show ns + 0 ≤ 7293034; omega)⟩ [0, 1] rfl [33, 34, 35, 36, 37, 38, 39, 40, 41, 42, 43, 44, 45, 46, 47] rfl (by decide) (fun v hv => ?_)
  subst hv
  refine zv_go rfl rfl (st' := [.int 0]) rfl (kc' := kc) rfl (ns' := ns) rfl ?_
  refine zv_iload C dL_law_217 219 rfl 1 rfl ?_
  refine zv_icmp_eq C dL_law_219 222 224 rfl (by decide) (fun _ => ?_) (fun q => absurd (by decide) q)
  refine zv_iload C dL_law_224 226 rfl 1 rfl ?_
  refine zv_if_ne C dL_law_226 229 241 rfl (by decide) (fun q => absurd (by decide) q) (fun _ => ?_)
  refine zv_aload_n C dL_law_229 230 rfl 5 rfl ?_
  refine zv_iconst (v := 0) C dL_law_230 231 rfl (by decide) ?_
  refine zv_lald (v := (uo_1 0)) C dL_law_231 232 rfl 48 2 0 rfl rfl (by decide) (by decide) (by decide) rfl ?_
  refine zv_iload C dL_law_232 234 rfl 0 rfl ?_
  refine zv_i2l C dL_law_234 235 rfl ?_
  refine zv_lcmpE C dL_law_235 236 rfl (hu.trans (congrArg Int32.toInt64 rfl)) ?_
  refine zv_if_eq C dL_law_236 239 241 rfl (by decide) (fun _ => ?_) (fun q => absurd (by decide) q)
  refine zv_goto C dL_law_241 1966 (by decide) ?_
  refine zv_widen (k' := kc + 17) (n' := ns + 168) (by omega) (by omega) ?_
  refine zv_sub [2, 3, 4, 5, 6] (lv' := [(0, .ref sc), (1, .ref (q 0)), (2, .ref (mh 0)), (3, .ref o), (4, .int (nI i))]) rfl ?_
  exact K (n + 1) b y r 0 (dAdd n d) (upd f0 n (-1)) f1 f2 f3 f4 f5 f6 v7_1 v8_1 v9_1 v10_1 v11_1 v12_1 v13_1 n1 r1 g0 g1 g2 g3 g4 g5 g6 g7 g8 g9 g10 g11 g12 g13 bp bn uo_1 (upd m0 n (-1 : Int32)) (upd m1 n 0) (upd m2 n (-1 : Int32)) (upd m3 n 0) (upd m4 n 0) m5 m6 m7 m8 m9 m10 m11 m12 m13 (hI.addPlace hw1 h16)
set_option maxHeartbeats 4000000 in
set_option maxRecDepth 100000 in
theorem lc_addSpring_n1 {pP : Program} {l : Launch} {eE : Env} {sS : State} {mM : MethodId} {aA : Array Value} {bB : List Frame} {mT : Method} {cD : Code} {Q : State → Prop} {D : va_G} {cI cZ cJ : ClassId} {A : Nat → Prop} {sc L : Nat} {xs : Nat → Int32} {q h k mh : Nat → Nat} {o i kc ns : Nat} {n b : Nat} {y r t : Int32} {d : Nat → Nat} {f0 f1 f2 f3 f4 f5 f6 f7 f8 f9 f10 f11 f12 f13 : Nat → Int32} {n1 : Nat} {r1 : Int32} {g0 g1 g2 g3 g4 g5 g6 g7 g8 g9 g10 g11 g12 g13 bp bn : Nat → Int32} {u : Nat → Int64} {m0 m1 m2 m3 m4 m5 m6 m7 m8 m9 m10 m11 m12 m13 : Nat → Int32} (hl : l.stackTraces = false) (C : zv_C pP mM cD cL_law 9 sS aA wsL_law "RiverNamesLaw" A) (hA : A = fun q => sS.heap.size ≤ q) (hE : zx_E sS) (hX : va_X sc L xs sS sS.heap) (hsc : sc < sS.heap.size) (hi : i + 4 ≤ L) (hL : L ≤ 2048) (hkc : kc + 17 ≤ 601024) (hns : ns + 168 ≤ 7293034) (hI : LI n b r d f0 f1 f2 f3 f4 f5 f6 f7 f8 f9 f10 f11 f12 f13 bp bn m0 m1 m2 m3 m4 m5 m6 m7) (K : LK pP l eE sS mM aA bB mT cD Q D cI cZ cJ A sc q h k mh o i kc ns) (h1 : isI (xs (i + 1)) 0 9 = false) : zv_V pP l eE room_1 sS mM aA bB mT cD Q 9 D vwCl A A (tyJ cI cZ cJ) ((cR cI cZ q h k (nI b) y (nI n) r f0 f1 f2 f3 f4 f5 f6 f7 f8 f9 f10 f11 f12 f13 (nI n1) r1 g0 g1 g2 g3 g4 g5 g6 g7 g8 g9 g10 g11 g12 g13 bp bn) ++ ((cM cI cZ mh t (nI n) r y (nI b) m0 m1 m2 m3 m4 m5 m6 m7 m8 m9 m10 m11 m12 m13) ++ [(o, .inl (cJ, 1, .inr (.inl u)))])) kc ns 244 [(0, .ref sc), (1, .ref (q 0)), (2, .ref (mh 0)), (3, .ref o), (4, .int (nI i))] [] := by
  refine zv_aload_n C dL_law_244 245 rfl 1 rfl ?_
  refine zv_aload_n C dL_law_245 246 rfl 0 rfl ?_
  refine zv_iload C dL_law_246 248 rfl 4 rfl ?_
  refine zv_iconst (v := 1) C dL_law_248 249 rfl (by decide) ?_
  refine zv_iadd (v := (nI (i + 1))) C dL_law_249 250 rfl (nI_1 i) ?_
  refine zv_sld C hA hX hsc dL_law_250 251 rfl (i + 1) rfl (by omega) hL (v := (xs (i + 1))) rfl ?_
  refine zv_aload_n C dL_law_251 252 rfl 0 rfl ?_
  refine zv_iload C dL_law_252 254 rfl 4 rfl ?_
  refine zv_iconst (v := 2) C dL_law_254 255 rfl (by decide) ?_
  refine zv_iadd (v := (nI (i + 2))) C dL_law_255 256 rfl (nI_c i 2 2 rfl) ?_
  refine zv_sld C hA hX hsc dL_law_256 257 rfl (i + 2) rfl (by omega) hL (v := (xs (i + 2))) rfl ?_
  refine zv_aload_n C dL_law_257 258 rfl 0 rfl ?_
  refine zv_iload C dL_law_258 260 rfl 4 rfl ?_
  refine zv_iconst (v := 3) C dL_law_260 261 rfl (by decide) ?_
  refine zv_iadd (v := (nI (i + 3))) C dL_law_261 262 rfl (nI_c i 3 3 rfl) ?_
  refine zv_sld C hA hX hsc dL_law_262 263 rfl (i + 3) rfl (by omega) hL (v := (xs (i + 3))) rfl ?_
  refine zv_aload_n C dL_law_263 264 rfl 3 rfl ?_
  refine zv_callWE (rest := []) C hA hE (k_L_addSpring_t1 l D cI cZ cJ q h k b y n r f0 f1 f2 f3 f4 f5 f6 f7 f8 f9 f10 f11 f12 f13 n1 r1 g0 g1 g2 g3 g4 g5 g6 g7 g8 g9 g10 g11 g12 g13 bp bn o u (xs (i + 1)) (xs (i + 2)) (xs (i + 3)) (by first | assumption | omega) hl) (vx_cwSW 5 C.1.2.2.2.2 gL_law_L_addSpring rfl rfl rfl (by decide +kernel) ⟨Nat.le_of_ble_eq_true rfl, Nat.le_of_ble_eq_true rfl⟩) dL_law_264 267 rfl rfl rfl (Nat.le_of_ble_eq_true rfl) ⟨(by show kc + 1 ≤ 601024; omega), (by show ns + 6 ≤ 7293034; omega)⟩ [0, 1, 2] rfl [0, 1, 2, 3, 4, 5, 6, 7, 8, 9, 10, 11, 12, 13, 14, 15, 16, 17, 18, 19, 20, 21, 22, 23, 24, 25, 26, 27, 28, 29, 30, 31, 32, 48] rfl (by decide) (fun v hv => ?_)
  subst hv
  refine zv_go rfl rfl (st' := [.int 1]) rfl (kc' := kc + 1) rfl (ns' := ns + 6) rfl ?_
  refine zv_istore C dL_law_267 269 rfl [(5, .int 1), (0, .ref sc), (1, .ref (q 0)), (2, .ref (mh 0)), (3, .ref o), (4, .int (nI i))] (by decide) rfl ?_
  refine zv_aload_n C dL_law_269 270 rfl 3 rfl ?_
  refine zv_aload_n C dL_law_270 271 rfl 1 rfl ?_
  refine zv_iload C dL_law_271 273 rfl 5 rfl ?_
  refine zv_iconst (v := 1) C dL_law_273 274 rfl (by decide) ?_
  refine zv_iadd (v := (nI (i + 1))) C dL_law_274 275 rfl (nI_1 i) ?_
  refine zv_sld C hA hX hsc dL_law_275 276 rfl (i + 1) rfl (by omega) hL (v := (xs (i + 1))) rfl ?_
  refine zv_aload_n C dL_law_276 277 rfl 1 rfl ?_
  refine zv_iload C dL_law_277 279 rfl 5 rfl ?_
  refine zv_iconst (v := 2) C dL_law_279 280 rfl (by decide) ?_
  refine zv_iadd (v := (nI (i + 2))) C dL_law_280 281 rfl (nI_c i 2 2 rfl) ?_
  refine zv_sld C hA hX hsc dL_law_281 282 rfl (i + 2) rfl (by omega) hL (v := (xs (i + 2))) rfl ?_
  refine zv_aload_n C dL_law_282 283 rfl 1 rfl ?_
  refine zv_iload C dL_law_283 285 rfl 5 rfl ?_
  refine zv_iconst (v := 3) C dL_law_285 286 rfl (by decide) ?_
  refine zv_iadd (v := (nI (i + 3))) C dL_law_286 287 rfl (nI_c i 3 3 rfl) ?_
  refine zv_sld C hA hX hsc dL_law_287 288 rfl (i + 3) rfl (by omega) hL (v := (xs (i + 3))) rfl ?_
  refine zv_callV (rest := []) (wr := ((cR cI cZ q h k (nI b) y (nI n) r f0 f1 f2 f3 f4 f5 f6 f7 f8 f9 f10 f11 f12 f13 (nI n1) r1 g0 g1 g2 g3 g4 g5 g6 g7 g8 g9 g10 g11 g12 g13 bp bn) ++ [(o, .inl (cJ, 1, .inr (.inl u)))])) C (k_X2_addSpring_n1 l D cI cZ mh t n r y b m0 m1 m2 m3 m4 m5 m6 m7 m8 m9 m10 m11 m12 m13 (xs (i + 1)) (xs (i + 2)) (xs (i + 3)) (by first | assumption | omega)) (cwV 3 C.1.2.2.2.2 gL_law_X2_addSpring rfl rfl rfl (by decide +kernel) ⟨Nat.le_of_ble_eq_true rfl, Nat.le_of_ble_eq_true rfl⟩) dL_law_288 291 rfl (ci := 2) 0 rfl rfl rfl rfl (Nat.le_of_ble_eq_true rfl) ⟨(by show kc + 1 + 0 ≤ 601024; omega), (by show ns + 6 + 0 ≤ 7293034; omega)⟩ [0, 1] rfl [33, 34, 35, 36, 37, 38, 39, 40, 41, 42, 43, 44, 45, 46, 47] rfl (by decide) [0, 1, 2, 3, 4, 5, 6, 7, 8, 9, 10, 11, 12, 13, 14, 15, 16, 17, 18, 19, 20, 21, 22, 23, 24, 25, 26, 27, 28, 29, 30, 31, 32, 48] rfl (by decide) (by decide +kernel) (fun v w hv => ?_)
  obtain ⟨rfl, rfl⟩ := hv
  refine zv_go rfl rfl (st' := [.int 0]) rfl (kc' := kc + 1) rfl (ns' := ns + 6) rfl ?_
  refine zv_perm [0, 1, 2, 3, 4, 5, 6, 7, 8, 9, 10, 11, 12, 13, 14, 15, 16, 17, 18, 19, 20, 21, 22, 23, 24, 25, 26, 27, 28, 29, 30, 31, 32, 34, 35, 36, 37, 38, 39, 40, 41, 42, 43, 44, 45, 46, 47, 48, 33] (ws' := ((cR cI cZ q h k (nI b) y (nI n) r f0 f1 f2 f3 f4 f5 f6 f7 f8 f9 f10 f11 f12 f13 (nI n1) r1 g0 g1 g2 g3 g4 g5 g6 g7 g8 g9 g10 g11 g12 g13 bp bn) ++ ((cM cI cZ mh 1 (nI n) r y (nI b) m0 m1 m2 m3 m4 m5 m6 m7 m8 m9 m10 m11 m12 m13) ++ [(o, .inl (cJ, 1, .inr (.inl u)))]))) (by decide) rfl ?_
  refine zv_istore C dL_law_291 293 rfl [(6, .int 0), (5, .int 1), (0, .ref sc), (1, .ref (q 0)), (2, .ref (mh 0)), (3, .ref o), (4, .int (nI i))] (by decide) rfl ?_
  refine zv_aload_n C dL_law_293 294 rfl 4 rfl ?_
  refine zv_callVR (rest := []) C (k_X2_thrown l D cI cZ mh 1 n r y b m0 m1 m2 m3 m4 m5 m6 m7 m8 m9 m10 m11 m12 m13 ) (cwV 0 C.1.2.2.2.2 gL_law_X2_thrown rfl rfl rfl (by decide +kernel) ⟨Nat.le_of_ble_eq_true rfl, Nat.le_of_ble_eq_true rfl⟩) dL_law_294 297 rfl (ci := 2) 0 rfl rfl rfl rfl (Nat.le_of_ble_eq_true rfl) ⟨(by show kc + 1 + 0 ≤ 601024; omega), (by show ns + 6 + 0 ≤ 7293034; omega)⟩ [0, 1] rfl [33, 34, 35, 36, 37, 38, 39, 40, 41, 42, 43, 44, 45, 46, 47] rfl (by decide) (fun v hv => ?_)
  subst hv
  refine zv_go rfl rfl (st' := [.int 1]) rfl (kc' := kc + 1) rfl (ns' := ns + 6) rfl ?_
  refine zv_iload C dL_law_297 299 rfl 1 rfl ?_
  refine zv_icmp_eq C dL_law_299 302 304 rfl (by decide) (fun _ => ?_) (fun q => absurd (by decide) q)
  refine zv_iload C dL_law_304 306 rfl 1 rfl ?_
  refine zv_if_ne C dL_law_306 309 321 rfl (by decide) (fun _ => ?_) (fun q => absurd q (by decide))
  refine zv_goto C dL_law_321 1966 (by decide) ?_
  refine zv_widen (k' := kc + 17) (n' := ns + 168) (by omega) (by omega) ?_
  refine zv_sub [2, 3, 4, 5, 6] (lv' := [(0, .ref sc), (1, .ref (q 0)), (2, .ref (mh 0)), (3, .ref o), (4, .int (nI i))]) rfl ?_
  exact K n b y r 1 d f0 f1 f2 f3 f4 f5 f6 f7 f8 f9 f10 f11 f12 f13 n1 r1 g0 g1 g2 g3 g4 g5 g6 g7 g8 g9 g10 g11 g12 g13 bp bn u m0 m1 m2 m3 m4 m5 m6 m7 m8 m9 m10 m11 m12 m13 hI
set_option maxHeartbeats 4000000 in
set_option maxRecDepth 100000 in
theorem lc_addSpring_n2 {pP : Program} {l : Launch} {eE : Env} {sS : State} {mM : MethodId} {aA : Array Value} {bB : List Frame} {mT : Method} {cD : Code} {Q : State → Prop} {D : va_G} {cI cZ cJ : ClassId} {A : Nat → Prop} {sc L : Nat} {xs : Nat → Int32} {q h k mh : Nat → Nat} {o i kc ns : Nat} {n b : Nat} {y r t : Int32} {d : Nat → Nat} {f0 f1 f2 f3 f4 f5 f6 f7 f8 f9 f10 f11 f12 f13 : Nat → Int32} {n1 : Nat} {r1 : Int32} {g0 g1 g2 g3 g4 g5 g6 g7 g8 g9 g10 g11 g12 g13 bp bn : Nat → Int32} {u : Nat → Int64} {m0 m1 m2 m3 m4 m5 m6 m7 m8 m9 m10 m11 m12 m13 : Nat → Int32} (hl : l.stackTraces = false) (C : zv_C pP mM cD cL_law 9 sS aA wsL_law "RiverNamesLaw" A) (hA : A = fun q => sS.heap.size ≤ q) (hE : zx_E sS) (hX : va_X sc L xs sS sS.heap) (hsc : sc < sS.heap.size) (hi : i + 4 ≤ L) (hL : L ≤ 2048) (hkc : kc + 17 ≤ 601024) (hns : ns + 168 ≤ 7293034) (hI : LI n b r d f0 f1 f2 f3 f4 f5 f6 f7 f8 f9 f10 f11 f12 f13 bp bn m0 m1 m2 m3 m4 m5 m6 m7) (K : LK pP l eE sS mM aA bB mT cD Q D cI cZ cJ A sc q h k mh o i kc ns) (h1 : isI (xs (i + 1)) 0 9 = true) (h2 : isI (xs (i + 2)) 0 99 = false) : zv_V pP l eE room_1 sS mM aA bB mT cD Q 9 D vwCl A A (tyJ cI cZ cJ) ((cR cI cZ q h k (nI b) y (nI n) r f0 f1 f2 f3 f4 f5 f6 f7 f8 f9 f10 f11 f12 f13 (nI n1) r1 g0 g1 g2 g3 g4 g5 g6 g7 g8 g9 g10 g11 g12 g13 bp bn) ++ ((cM cI cZ mh t (nI n) r y (nI b) m0 m1 m2 m3 m4 m5 m6 m7 m8 m9 m10 m11 m12 m13) ++ [(o, .inl (cJ, 1, .inr (.inl u)))])) kc ns 244 [(0, .ref sc), (1, .ref (q 0)), (2, .ref (mh 0)), (3, .ref o), (4, .int (nI i))] [] := by
  refine zv_aload_n C dL_law_244 245 rfl 1 rfl ?_
  refine zv_aload_n C dL_law_245 246 rfl 0 rfl ?_
  refine zv_iload C dL_law_246 248 rfl 4 rfl ?_
  refine zv_iconst (v := 1) C dL_law_248 249 rfl (by decide) ?_
  refine zv_iadd (v := (nI (i + 1))) C dL_law_249 250 rfl (nI_1 i) ?_
  refine zv_sld C hA hX hsc dL_law_250 251 rfl (i + 1) rfl (by omega) hL (v := (xs (i + 1))) rfl ?_
  refine zv_aload_n C dL_law_251 252 rfl 0 rfl ?_
  refine zv_iload C dL_law_252 254 rfl 4 rfl ?_
  refine zv_iconst (v := 2) C dL_law_254 255 rfl (by decide) ?_
  refine zv_iadd (v := (nI (i + 2))) C dL_law_255 256 rfl (nI_c i 2 2 rfl) ?_
  refine zv_sld C hA hX hsc dL_law_256 257 rfl (i + 2) rfl (by omega) hL (v := (xs (i + 2))) rfl ?_
  refine zv_aload_n C dL_law_257 258 rfl 0 rfl ?_
  refine zv_iload C dL_law_258 260 rfl 4 rfl ?_
  refine zv_iconst (v := 3) C dL_law_260 261 rfl (by decide) ?_
  refine zv_iadd (v := (nI (i + 3))) C dL_law_261 262 rfl (nI_c i 3 3 rfl) ?_
  refine zv_sld C hA hX hsc dL_law_262 263 rfl (i + 3) rfl (by omega) hL (v := (xs (i + 3))) rfl ?_
  refine zv_aload_n C dL_law_263 264 rfl 3 rfl ?_
  refine zv_callWE (rest := []) C hA hE (k_L_addSpring_t2 l D cI cZ cJ q h k b y n r f0 f1 f2 f3 f4 f5 f6 f7 f8 f9 f10 f11 f12 f13 n1 r1 g0 g1 g2 g3 g4 g5 g6 g7 g8 g9 g10 g11 g12 g13 bp bn o u (xs (i + 1)) (xs (i + 2)) (xs (i + 3)) (by first | assumption | omega) (by first | assumption | omega) hl) (vx_cwSW 5 C.1.2.2.2.2 gL_law_L_addSpring rfl rfl rfl (by decide +kernel) ⟨Nat.le_of_ble_eq_true rfl, Nat.le_of_ble_eq_true rfl⟩) dL_law_264 267 rfl rfl rfl (Nat.le_of_ble_eq_true rfl) ⟨(by show kc + 1 ≤ 601024; omega), (by show ns + 6 ≤ 7293034; omega)⟩ [0, 1, 2] rfl [0, 1, 2, 3, 4, 5, 6, 7, 8, 9, 10, 11, 12, 13, 14, 15, 16, 17, 18, 19, 20, 21, 22, 23, 24, 25, 26, 27, 28, 29, 30, 31, 32, 48] rfl (by decide) (fun v hv => ?_)
  subst hv
  refine zv_go rfl rfl (st' := [.int 2]) rfl (kc' := kc + 1) rfl (ns' := ns + 6) rfl ?_
  refine zv_istore C dL_law_267 269 rfl [(5, .int 2), (0, .ref sc), (1, .ref (q 0)), (2, .ref (mh 0)), (3, .ref o), (4, .int (nI i))] (by decide) rfl ?_
  refine zv_aload_n C dL_law_269 270 rfl 3 rfl ?_
  refine zv_aload_n C dL_law_270 271 rfl 1 rfl ?_
  refine zv_iload C dL_law_271 273 rfl 5 rfl ?_
  refine zv_iconst (v := 1) C dL_law_273 274 rfl (by decide) ?_
  refine zv_iadd (v := (nI (i + 1))) C dL_law_274 275 rfl (nI_1 i) ?_
  refine zv_sld C hA hX hsc dL_law_275 276 rfl (i + 1) rfl (by omega) hL (v := (xs (i + 1))) rfl ?_
  refine zv_aload_n C dL_law_276 277 rfl 1 rfl ?_
  refine zv_iload C dL_law_277 279 rfl 5 rfl ?_
  refine zv_iconst (v := 2) C dL_law_279 280 rfl (by decide) ?_
  refine zv_iadd (v := (nI (i + 2))) C dL_law_280 281 rfl (nI_c i 2 2 rfl) ?_
  refine zv_sld C hA hX hsc dL_law_281 282 rfl (i + 2) rfl (by omega) hL (v := (xs (i + 2))) rfl ?_
  refine zv_aload_n C dL_law_282 283 rfl 1 rfl ?_
  refine zv_iload C dL_law_283 285 rfl 5 rfl ?_
  refine zv_iconst (v := 3) C dL_law_285 286 rfl (by decide) ?_
  refine zv_iadd (v := (nI (i + 3))) C dL_law_286 287 rfl (nI_c i 3 3 rfl) ?_
  refine zv_sld C hA hX hsc dL_law_287 288 rfl (i + 3) rfl (by omega) hL (v := (xs (i + 3))) rfl ?_
  refine zv_callV (rest := []) (wr := ((cR cI cZ q h k (nI b) y (nI n) r f0 f1 f2 f3 f4 f5 f6 f7 f8 f9 f10 f11 f12 f13 (nI n1) r1 g0 g1 g2 g3 g4 g5 g6 g7 g8 g9 g10 g11 g12 g13 bp bn) ++ [(o, .inl (cJ, 1, .inr (.inl u)))])) C (k_X2_addSpring_n2 l D cI cZ mh t n r y b m0 m1 m2 m3 m4 m5 m6 m7 m8 m9 m10 m11 m12 m13 (xs (i + 1)) (xs (i + 2)) (xs (i + 3)) (by first | assumption | omega) (by first | assumption | omega)) (cwV 3 C.1.2.2.2.2 gL_law_X2_addSpring rfl rfl rfl (by decide +kernel) ⟨Nat.le_of_ble_eq_true rfl, Nat.le_of_ble_eq_true rfl⟩) dL_law_288 291 rfl (ci := 2) 0 rfl rfl rfl rfl (Nat.le_of_ble_eq_true rfl) ⟨(by show kc + 1 + 0 ≤ 601024; omega), (by show ns + 6 + 0 ≤ 7293034; omega)⟩ [0, 1] rfl [33, 34, 35, 36, 37, 38, 39, 40, 41, 42, 43, 44, 45, 46, 47] rfl (by decide) [0, 1, 2, 3, 4, 5, 6, 7, 8, 9, 10, 11, 12, 13, 14, 15, 16, 17, 18, 19, 20, 21, 22, 23, 24, 25, 26, 27, 28, 29, 30, 31, 32, 48] rfl (by decide) (by decide +kernel) (fun v w hv => ?_)
  obtain ⟨rfl, rfl⟩ := hv
  refine zv_go rfl rfl (st' := [.int 0]) rfl (kc' := kc + 1) rfl (ns' := ns + 6) rfl ?_
  refine zv_perm [0, 1, 2, 3, 4, 5, 6, 7, 8, 9, 10, 11, 12, 13, 14, 15, 16, 17, 18, 19, 20, 21, 22, 23, 24, 25, 26, 27, 28, 29, 30, 31, 32, 34, 35, 36, 37, 38, 39, 40, 41, 42, 43, 44, 45, 46, 47, 48, 33] (ws' := ((cR cI cZ q h k (nI b) y (nI n) r f0 f1 f2 f3 f4 f5 f6 f7 f8 f9 f10 f11 f12 f13 (nI n1) r1 g0 g1 g2 g3 g4 g5 g6 g7 g8 g9 g10 g11 g12 g13 bp bn) ++ ((cM cI cZ mh 2 (nI n) r y (nI b) m0 m1 m2 m3 m4 m5 m6 m7 m8 m9 m10 m11 m12 m13) ++ [(o, .inl (cJ, 1, .inr (.inl u)))]))) (by decide) rfl ?_
  refine zv_istore C dL_law_291 293 rfl [(6, .int 0), (5, .int 2), (0, .ref sc), (1, .ref (q 0)), (2, .ref (mh 0)), (3, .ref o), (4, .int (nI i))] (by decide) rfl ?_
  refine zv_aload_n C dL_law_293 294 rfl 4 rfl ?_
  refine zv_callVR (rest := []) C (k_X2_thrown l D cI cZ mh 2 n r y b m0 m1 m2 m3 m4 m5 m6 m7 m8 m9 m10 m11 m12 m13 ) (cwV 0 C.1.2.2.2.2 gL_law_X2_thrown rfl rfl rfl (by decide +kernel) ⟨Nat.le_of_ble_eq_true rfl, Nat.le_of_ble_eq_true rfl⟩) dL_law_294 297 rfl (ci := 2) 0 rfl rfl rfl rfl (Nat.le_of_ble_eq_true rfl) ⟨(by show kc + 1 + 0 ≤ 601024; omega), (by show ns + 6 + 0 ≤ 7293034; omega)⟩ [0, 1] rfl [33, 34, 35, 36, 37, 38, 39, 40, 41, 42, 43, 44, 45, 46, 47] rfl (by decide) (fun v hv => ?_)
  subst hv
  refine zv_go rfl rfl (st' := [.int 2]) rfl (kc' := kc + 1) rfl (ns' := ns + 6) rfl ?_
  refine zv_iload C dL_law_297 299 rfl 1 rfl ?_
  refine zv_icmp_eq C dL_law_299 302 304 rfl (by decide) (fun _ => ?_) (fun q => absurd (by decide) q)
  refine zv_iload C dL_law_304 306 rfl 1 rfl ?_
  refine zv_if_ne C dL_law_306 309 321 rfl (by decide) (fun _ => ?_) (fun q => absurd q (by decide))
  refine zv_goto C dL_law_321 1966 (by decide) ?_
  refine zv_widen (k' := kc + 17) (n' := ns + 168) (by omega) (by omega) ?_
  refine zv_sub [2, 3, 4, 5, 6] (lv' := [(0, .ref sc), (1, .ref (q 0)), (2, .ref (mh 0)), (3, .ref o), (4, .int (nI i))]) rfl ?_
  exact K n b y r 2 d f0 f1 f2 f3 f4 f5 f6 f7 f8 f9 f10 f11 f12 f13 n1 r1 g0 g1 g2 g3 g4 g5 g6 g7 g8 g9 g10 g11 g12 g13 bp bn u m0 m1 m2 m3 m4 m5 m6 m7 m8 m9 m10 m11 m12 m13 hI
set_option maxHeartbeats 4000000 in
set_option maxRecDepth 100000 in
theorem lc_addSpring_n3 {pP : Program} {l : Launch} {eE : Env} {sS : State} {mM : MethodId} {aA : Array Value} {bB : List Frame} {mT : Method} {cD : Code} {Q : State → Prop} {D : va_G} {cI cZ cJ : ClassId} {A : Nat → Prop} {sc L : Nat} {xs : Nat → Int32} {q h k mh : Nat → Nat} {o i kc ns : Nat} {n b : Nat} {y r t : Int32} {d : Nat → Nat} {f0 f1 f2 f3 f4 f5 f6 f7 f8 f9 f10 f11 f12 f13 : Nat → Int32} {n1 : Nat} {r1 : Int32} {g0 g1 g2 g3 g4 g5 g6 g7 g8 g9 g10 g11 g12 g13 bp bn : Nat → Int32} {u : Nat → Int64} {m0 m1 m2 m3 m4 m5 m6 m7 m8 m9 m10 m11 m12 m13 : Nat → Int32} (hl : l.stackTraces = false) (C : zv_C pP mM cD cL_law 9 sS aA wsL_law "RiverNamesLaw" A) (hA : A = fun q => sS.heap.size ≤ q) (hE : zx_E sS) (hX : va_X sc L xs sS sS.heap) (hsc : sc < sS.heap.size) (hi : i + 4 ≤ L) (hL : L ≤ 2048) (hkc : kc + 17 ≤ 601024) (hns : ns + 168 ≤ 7293034) (hI : LI n b r d f0 f1 f2 f3 f4 f5 f6 f7 f8 f9 f10 f11 f12 f13 bp bn m0 m1 m2 m3 m4 m5 m6 m7) (K : LK pP l eE sS mM aA bB mT cD Q D cI cZ cJ A sc q h k mh o i kc ns) (h1 : isI (xs (i + 1)) 0 9 = true) (h2 : isI (xs (i + 2)) 0 99 = true) (h3 : isI (xs (i + 3)) (-9) 9 = false) : zv_V pP l eE room_1 sS mM aA bB mT cD Q 9 D vwCl A A (tyJ cI cZ cJ) ((cR cI cZ q h k (nI b) y (nI n) r f0 f1 f2 f3 f4 f5 f6 f7 f8 f9 f10 f11 f12 f13 (nI n1) r1 g0 g1 g2 g3 g4 g5 g6 g7 g8 g9 g10 g11 g12 g13 bp bn) ++ ((cM cI cZ mh t (nI n) r y (nI b) m0 m1 m2 m3 m4 m5 m6 m7 m8 m9 m10 m11 m12 m13) ++ [(o, .inl (cJ, 1, .inr (.inl u)))])) kc ns 244 [(0, .ref sc), (1, .ref (q 0)), (2, .ref (mh 0)), (3, .ref o), (4, .int (nI i))] [] := by
  refine zv_aload_n C dL_law_244 245 rfl 1 rfl ?_
  refine zv_aload_n C dL_law_245 246 rfl 0 rfl ?_
  refine zv_iload C dL_law_246 248 rfl 4 rfl ?_
  refine zv_iconst (v := 1) C dL_law_248 249 rfl (by decide) ?_
  refine zv_iadd (v := (nI (i + 1))) C dL_law_249 250 rfl (nI_1 i) ?_
  refine zv_sld C hA hX hsc dL_law_250 251 rfl (i + 1) rfl (by omega) hL (v := (xs (i + 1))) rfl ?_
  refine zv_aload_n C dL_law_251 252 rfl 0 rfl ?_
  refine zv_iload C dL_law_252 254 rfl 4 rfl ?_
  refine zv_iconst (v := 2) C dL_law_254 255 rfl (by decide) ?_
  refine zv_iadd (v := (nI (i + 2))) C dL_law_255 256 rfl (nI_c i 2 2 rfl) ?_
  refine zv_sld C hA hX hsc dL_law_256 257 rfl (i + 2) rfl (by omega) hL (v := (xs (i + 2))) rfl ?_
  refine zv_aload_n C dL_law_257 258 rfl 0 rfl ?_
  refine zv_iload C dL_law_258 260 rfl 4 rfl ?_
  refine zv_iconst (v := 3) C dL_law_260 261 rfl (by decide) ?_
  refine zv_iadd (v := (nI (i + 3))) C dL_law_261 262 rfl (nI_c i 3 3 rfl) ?_
  refine zv_sld C hA hX hsc dL_law_262 263 rfl (i + 3) rfl (by omega) hL (v := (xs (i + 3))) rfl ?_
  refine zv_aload_n C dL_law_263 264 rfl 3 rfl ?_
  refine zv_callWE (rest := []) C hA hE (k_L_addSpring_t3 l D cI cZ cJ q h k b y n r f0 f1 f2 f3 f4 f5 f6 f7 f8 f9 f10 f11 f12 f13 n1 r1 g0 g1 g2 g3 g4 g5 g6 g7 g8 g9 g10 g11 g12 g13 bp bn o u (xs (i + 1)) (xs (i + 2)) (xs (i + 3)) (by first | assumption | omega) (by first | assumption | omega) (by first | assumption | omega) hl) (vx_cwSW 5 C.1.2.2.2.2 gL_law_L_addSpring rfl rfl rfl (by decide +kernel) ⟨Nat.le_of_ble_eq_true rfl, Nat.le_of_ble_eq_true rfl⟩) dL_law_264 267 rfl rfl rfl (Nat.le_of_ble_eq_true rfl) ⟨(by show kc + 1 ≤ 601024; omega), (by show ns + 6 ≤ 7293034; omega)⟩ [0, 1, 2] rfl [0, 1, 2, 3, 4, 5, 6, 7, 8, 9, 10, 11, 12, 13, 14, 15, 16, 17, 18, 19, 20, 21, 22, 23, 24, 25, 26, 27, 28, 29, 30, 31, 32, 48] rfl (by decide) (fun v hv => ?_)
  subst hv
  refine zv_go rfl rfl (st' := [.int 2]) rfl (kc' := kc + 1) rfl (ns' := ns + 6) rfl ?_
  refine zv_istore C dL_law_267 269 rfl [(5, .int 2), (0, .ref sc), (1, .ref (q 0)), (2, .ref (mh 0)), (3, .ref o), (4, .int (nI i))] (by decide) rfl ?_
  refine zv_aload_n C dL_law_269 270 rfl 3 rfl ?_
  refine zv_aload_n C dL_law_270 271 rfl 1 rfl ?_
  refine zv_iload C dL_law_271 273 rfl 5 rfl ?_
  refine zv_iconst (v := 1) C dL_law_273 274 rfl (by decide) ?_
  refine zv_iadd (v := (nI (i + 1))) C dL_law_274 275 rfl (nI_1 i) ?_
  refine zv_sld C hA hX hsc dL_law_275 276 rfl (i + 1) rfl (by omega) hL (v := (xs (i + 1))) rfl ?_
  refine zv_aload_n C dL_law_276 277 rfl 1 rfl ?_
  refine zv_iload C dL_law_277 279 rfl 5 rfl ?_
  refine zv_iconst (v := 2) C dL_law_279 280 rfl (by decide) ?_
  refine zv_iadd (v := (nI (i + 2))) C dL_law_280 281 rfl (nI_c i 2 2 rfl) ?_
  refine zv_sld C hA hX hsc dL_law_281 282 rfl (i + 2) rfl (by omega) hL (v := (xs (i + 2))) rfl ?_
  refine zv_aload_n C dL_law_282 283 rfl 1 rfl ?_
  refine zv_iload C dL_law_283 285 rfl 5 rfl ?_
  refine zv_iconst (v := 3) C dL_law_285 286 rfl (by decide) ?_
  refine zv_iadd (v := (nI (i + 3))) C dL_law_286 287 rfl (nI_c i 3 3 rfl) ?_
  refine zv_sld C hA hX hsc dL_law_287 288 rfl (i + 3) rfl (by omega) hL (v := (xs (i + 3))) rfl ?_
  refine zv_callV (rest := []) (wr := ((cR cI cZ q h k (nI b) y (nI n) r f0 f1 f2 f3 f4 f5 f6 f7 f8 f9 f10 f11 f12 f13 (nI n1) r1 g0 g1 g2 g3 g4 g5 g6 g7 g8 g9 g10 g11 g12 g13 bp bn) ++ [(o, .inl (cJ, 1, .inr (.inl u)))])) C (k_X2_addSpring_n3 l D cI cZ mh t n r y b m0 m1 m2 m3 m4 m5 m6 m7 m8 m9 m10 m11 m12 m13 (xs (i + 1)) (xs (i + 2)) (xs (i + 3)) (by first | assumption | omega) (by first | assumption | omega) (by first | assumption | omega)) (cwV 3 C.1.2.2.2.2 gL_law_X2_addSpring rfl rfl rfl (by decide +kernel) ⟨Nat.le_of_ble_eq_true rfl, Nat.le_of_ble_eq_true rfl⟩) dL_law_288 291 rfl (ci := 2) 0 rfl rfl rfl rfl (Nat.le_of_ble_eq_true rfl) ⟨(by show kc + 1 + 0 ≤ 601024; omega), (by show ns + 6 + 0 ≤ 7293034; omega)⟩ [0, 1] rfl [33, 34, 35, 36, 37, 38, 39, 40, 41, 42, 43, 44, 45, 46, 47] rfl (by decide) [0, 1, 2, 3, 4, 5, 6, 7, 8, 9, 10, 11, 12, 13, 14, 15, 16, 17, 18, 19, 20, 21, 22, 23, 24, 25, 26, 27, 28, 29, 30, 31, 32, 48] rfl (by decide) (by decide +kernel) (fun v w hv => ?_)
  obtain ⟨rfl, rfl⟩ := hv
  refine zv_go rfl rfl (st' := [.int 0]) rfl (kc' := kc + 1) rfl (ns' := ns + 6) rfl ?_
  refine zv_perm [0, 1, 2, 3, 4, 5, 6, 7, 8, 9, 10, 11, 12, 13, 14, 15, 16, 17, 18, 19, 20, 21, 22, 23, 24, 25, 26, 27, 28, 29, 30, 31, 32, 34, 35, 36, 37, 38, 39, 40, 41, 42, 43, 44, 45, 46, 47, 48, 33] (ws' := ((cR cI cZ q h k (nI b) y (nI n) r f0 f1 f2 f3 f4 f5 f6 f7 f8 f9 f10 f11 f12 f13 (nI n1) r1 g0 g1 g2 g3 g4 g5 g6 g7 g8 g9 g10 g11 g12 g13 bp bn) ++ ((cM cI cZ mh 2 (nI n) r y (nI b) m0 m1 m2 m3 m4 m5 m6 m7 m8 m9 m10 m11 m12 m13) ++ [(o, .inl (cJ, 1, .inr (.inl u)))]))) (by decide) rfl ?_
  refine zv_istore C dL_law_291 293 rfl [(6, .int 0), (5, .int 2), (0, .ref sc), (1, .ref (q 0)), (2, .ref (mh 0)), (3, .ref o), (4, .int (nI i))] (by decide) rfl ?_
  refine zv_aload_n C dL_law_293 294 rfl 4 rfl ?_
  refine zv_callVR (rest := []) C (k_X2_thrown l D cI cZ mh 2 n r y b m0 m1 m2 m3 m4 m5 m6 m7 m8 m9 m10 m11 m12 m13 ) (cwV 0 C.1.2.2.2.2 gL_law_X2_thrown rfl rfl rfl (by decide +kernel) ⟨Nat.le_of_ble_eq_true rfl, Nat.le_of_ble_eq_true rfl⟩) dL_law_294 297 rfl (ci := 2) 0 rfl rfl rfl rfl (Nat.le_of_ble_eq_true rfl) ⟨(by show kc + 1 + 0 ≤ 601024; omega), (by show ns + 6 + 0 ≤ 7293034; omega)⟩ [0, 1] rfl [33, 34, 35, 36, 37, 38, 39, 40, 41, 42, 43, 44, 45, 46, 47] rfl (by decide) (fun v hv => ?_)
  subst hv
  refine zv_go rfl rfl (st' := [.int 2]) rfl (kc' := kc + 1) rfl (ns' := ns + 6) rfl ?_
  refine zv_iload C dL_law_297 299 rfl 1 rfl ?_
  refine zv_icmp_eq C dL_law_299 302 304 rfl (by decide) (fun _ => ?_) (fun q => absurd (by decide) q)
  refine zv_iload C dL_law_304 306 rfl 1 rfl ?_
  refine zv_if_ne C dL_law_306 309 321 rfl (by decide) (fun _ => ?_) (fun q => absurd q (by decide))
  refine zv_goto C dL_law_321 1966 (by decide) ?_
  refine zv_widen (k' := kc + 17) (n' := ns + 168) (by omega) (by omega) ?_
  refine zv_sub [2, 3, 4, 5, 6] (lv' := [(0, .ref sc), (1, .ref (q 0)), (2, .ref (mh 0)), (3, .ref o), (4, .int (nI i))]) rfl ?_
  exact K n b y r 2 d f0 f1 f2 f3 f4 f5 f6 f7 f8 f9 f10 f11 f12 f13 n1 r1 g0 g1 g2 g3 g4 g5 g6 g7 g8 g9 g10 g11 g12 g13 bp bn u m0 m1 m2 m3 m4 m5 m6 m7 m8 m9 m10 m11 m12 m13 hI
set_option maxHeartbeats 4000000 in
set_option maxRecDepth 100000 in
theorem lc_addSpring_n4 {pP : Program} {l : Launch} {eE : Env} {sS : State} {mM : MethodId} {aA : Array Value} {bB : List Frame} {mT : Method} {cD : Code} {Q : State → Prop} {D : va_G} {cI cZ cJ : ClassId} {A : Nat → Prop} {sc L : Nat} {xs : Nat → Int32} {q h k mh : Nat → Nat} {o i kc ns : Nat} {n b : Nat} {y r t : Int32} {d : Nat → Nat} {f0 f1 f2 f3 f4 f5 f6 f7 f8 f9 f10 f11 f12 f13 : Nat → Int32} {n1 : Nat} {r1 : Int32} {g0 g1 g2 g3 g4 g5 g6 g7 g8 g9 g10 g11 g12 g13 bp bn : Nat → Int32} {u : Nat → Int64} {m0 m1 m2 m3 m4 m5 m6 m7 m8 m9 m10 m11 m12 m13 : Nat → Int32} (hl : l.stackTraces = false) (C : zv_C pP mM cD cL_law 9 sS aA wsL_law "RiverNamesLaw" A) (hA : A = fun q => sS.heap.size ≤ q) (hE : zx_E sS) (hX : va_X sc L xs sS sS.heap) (hsc : sc < sS.heap.size) (hi : i + 4 ≤ L) (hL : L ≤ 2048) (hkc : kc + 17 ≤ 601024) (hns : ns + 168 ≤ 7293034) (hI : LI n b r d f0 f1 f2 f3 f4 f5 f6 f7 f8 f9 f10 f11 f12 f13 bp bn m0 m1 m2 m3 m4 m5 m6 m7) (K : LK pP l eE sS mM aA bB mT cD Q D cI cZ cJ A sc q h k mh o i kc ns) (h1 : isI (xs (i + 1)) 0 9 = true) (h2 : isI (xs (i + 2)) 0 99 = true) (h3 : isI (xs (i + 3)) (-9) 9 = true) (h16 : n = 16) : zv_V pP l eE room_1 sS mM aA bB mT cD Q 9 D vwCl A A (tyJ cI cZ cJ) ((cR cI cZ q h k (nI b) y (nI n) r f0 f1 f2 f3 f4 f5 f6 f7 f8 f9 f10 f11 f12 f13 (nI n1) r1 g0 g1 g2 g3 g4 g5 g6 g7 g8 g9 g10 g11 g12 g13 bp bn) ++ ((cM cI cZ mh t (nI n) r y (nI b) m0 m1 m2 m3 m4 m5 m6 m7 m8 m9 m10 m11 m12 m13) ++ [(o, .inl (cJ, 1, .inr (.inl u)))])) kc ns 244 [(0, .ref sc), (1, .ref (q 0)), (2, .ref (mh 0)), (3, .ref o), (4, .int (nI i))] [] := by
  refine zv_aload_n C dL_law_244 245 rfl 1 rfl ?_
  refine zv_aload_n C dL_law_245 246 rfl 0 rfl ?_
  refine zv_iload C dL_law_246 248 rfl 4 rfl ?_
  refine zv_iconst (v := 1) C dL_law_248 249 rfl (by decide) ?_
  refine zv_iadd (v := (nI (i + 1))) C dL_law_249 250 rfl (nI_1 i) ?_
  refine zv_sld C hA hX hsc dL_law_250 251 rfl (i + 1) rfl (by omega) hL (v := (xs (i + 1))) rfl ?_
  refine zv_aload_n C dL_law_251 252 rfl 0 rfl ?_
  refine zv_iload C dL_law_252 254 rfl 4 rfl ?_
  refine zv_iconst (v := 2) C dL_law_254 255 rfl (by decide) ?_
  refine zv_iadd (v := (nI (i + 2))) C dL_law_255 256 rfl (nI_c i 2 2 rfl) ?_
  refine zv_sld C hA hX hsc dL_law_256 257 rfl (i + 2) rfl (by omega) hL (v := (xs (i + 2))) rfl ?_
  refine zv_aload_n C dL_law_257 258 rfl 0 rfl ?_
  refine zv_iload C dL_law_258 260 rfl 4 rfl ?_
  refine zv_iconst (v := 3) C dL_law_260 261 rfl (by decide) ?_
  refine zv_iadd (v := (nI (i + 3))) C dL_law_261 262 rfl (nI_c i 3 3 rfl) ?_
  refine zv_sld C hA hX hsc dL_law_262 263 rfl (i + 3) rfl (by omega) hL (v := (xs (i + 3))) rfl ?_
  refine zv_aload_n C dL_law_263 264 rfl 3 rfl ?_
  refine zv_callWE (rest := []) C hA hE (k_L_addSpring_t4 l D cI cZ cJ q h k b y n r f0 f1 f2 f3 f4 f5 f6 f7 f8 f9 f10 f11 f12 f13 n1 r1 g0 g1 g2 g3 g4 g5 g6 g7 g8 g9 g10 g11 g12 g13 bp bn o u (xs (i + 1)) (xs (i + 2)) (xs (i + 3)) (by first | assumption | omega) (by first | assumption | omega) (by first | assumption | omega) (by first | assumption | omega) hl) (vx_cwSW 5 C.1.2.2.2.2 gL_law_L_addSpring rfl rfl rfl (by decide +kernel) ⟨Nat.le_of_ble_eq_true rfl, Nat.le_of_ble_eq_true rfl⟩) dL_law_264 267 rfl rfl rfl (Nat.le_of_ble_eq_true rfl) ⟨(by show kc + 1 ≤ 601024; omega), (by show ns + 6 ≤ 7293034; omega)⟩ [0, 1, 2] rfl [0, 1, 2, 3, 4, 5, 6, 7, 8, 9, 10, 11, 12, 13, 14, 15, 16, 17, 18, 19, 20, 21, 22, 23, 24, 25, 26, 27, 28, 29, 30, 31, 32, 48] rfl (by decide) (fun v hv => ?_)
  subst hv
  refine zv_go rfl rfl (st' := [.int 3]) rfl (kc' := kc + 1) rfl (ns' := ns + 6) rfl ?_
  refine zv_istore C dL_law_267 269 rfl [(5, .int 3), (0, .ref sc), (1, .ref (q 0)), (2, .ref (mh 0)), (3, .ref o), (4, .int (nI i))] (by decide) rfl ?_
  refine zv_aload_n C dL_law_269 270 rfl 3 rfl ?_
  refine zv_aload_n C dL_law_270 271 rfl 1 rfl ?_
  refine zv_iload C dL_law_271 273 rfl 5 rfl ?_
  refine zv_iconst (v := 1) C dL_law_273 274 rfl (by decide) ?_
  refine zv_iadd (v := (nI (i + 1))) C dL_law_274 275 rfl (nI_1 i) ?_
  refine zv_sld C hA hX hsc dL_law_275 276 rfl (i + 1) rfl (by omega) hL (v := (xs (i + 1))) rfl ?_
  refine zv_aload_n C dL_law_276 277 rfl 1 rfl ?_
  refine zv_iload C dL_law_277 279 rfl 5 rfl ?_
  refine zv_iconst (v := 2) C dL_law_279 280 rfl (by decide) ?_
  refine zv_iadd (v := (nI (i + 2))) C dL_law_280 281 rfl (nI_c i 2 2 rfl) ?_
  refine zv_sld C hA hX hsc dL_law_281 282 rfl (i + 2) rfl (by omega) hL (v := (xs (i + 2))) rfl ?_
  refine zv_aload_n C dL_law_282 283 rfl 1 rfl ?_
  refine zv_iload C dL_law_283 285 rfl 5 rfl ?_
  refine zv_iconst (v := 3) C dL_law_285 286 rfl (by decide) ?_
  refine zv_iadd (v := (nI (i + 3))) C dL_law_286 287 rfl (nI_c i 3 3 rfl) ?_
  refine zv_sld C hA hX hsc dL_law_287 288 rfl (i + 3) rfl (by omega) hL (v := (xs (i + 3))) rfl ?_
  refine zv_callV (rest := []) (wr := ((cR cI cZ q h k (nI b) y (nI n) r f0 f1 f2 f3 f4 f5 f6 f7 f8 f9 f10 f11 f12 f13 (nI n1) r1 g0 g1 g2 g3 g4 g5 g6 g7 g8 g9 g10 g11 g12 g13 bp bn) ++ [(o, .inl (cJ, 1, .inr (.inl u)))])) C (k_X2_addSpring_n4 l D cI cZ mh t n r y b m0 m1 m2 m3 m4 m5 m6 m7 m8 m9 m10 m11 m12 m13 (xs (i + 1)) (xs (i + 2)) (xs (i + 3)) (by first | assumption | omega) (by first | assumption | omega) (by first | assumption | omega) (by first | assumption | omega)) (cwV 3 C.1.2.2.2.2 gL_law_X2_addSpring rfl rfl rfl (by decide +kernel) ⟨Nat.le_of_ble_eq_true rfl, Nat.le_of_ble_eq_true rfl⟩) dL_law_288 291 rfl (ci := 2) 0 rfl rfl rfl rfl (Nat.le_of_ble_eq_true rfl) ⟨(by show kc + 1 + 0 ≤ 601024; omega), (by show ns + 6 + 0 ≤ 7293034; omega)⟩ [0, 1] rfl [33, 34, 35, 36, 37, 38, 39, 40, 41, 42, 43, 44, 45, 46, 47] rfl (by decide) [0, 1, 2, 3, 4, 5, 6, 7, 8, 9, 10, 11, 12, 13, 14, 15, 16, 17, 18, 19, 20, 21, 22, 23, 24, 25, 26, 27, 28, 29, 30, 31, 32, 48] rfl (by decide) (by decide +kernel) (fun v w hv => ?_)
  obtain ⟨rfl, rfl⟩ := hv
  refine zv_go rfl rfl (st' := [.int 0]) rfl (kc' := kc + 1) rfl (ns' := ns + 6) rfl ?_
  refine zv_perm [0, 1, 2, 3, 4, 5, 6, 7, 8, 9, 10, 11, 12, 13, 14, 15, 16, 17, 18, 19, 20, 21, 22, 23, 24, 25, 26, 27, 28, 29, 30, 31, 32, 34, 35, 36, 37, 38, 39, 40, 41, 42, 43, 44, 45, 46, 47, 48, 33] (ws' := ((cR cI cZ q h k (nI b) y (nI n) r f0 f1 f2 f3 f4 f5 f6 f7 f8 f9 f10 f11 f12 f13 (nI n1) r1 g0 g1 g2 g3 g4 g5 g6 g7 g8 g9 g10 g11 g12 g13 bp bn) ++ ((cM cI cZ mh 3 (nI n) r y (nI b) m0 m1 m2 m3 m4 m5 m6 m7 m8 m9 m10 m11 m12 m13) ++ [(o, .inl (cJ, 1, .inr (.inl u)))]))) (by decide) rfl ?_
  refine zv_istore C dL_law_291 293 rfl [(6, .int 0), (5, .int 3), (0, .ref sc), (1, .ref (q 0)), (2, .ref (mh 0)), (3, .ref o), (4, .int (nI i))] (by decide) rfl ?_
  refine zv_aload_n C dL_law_293 294 rfl 4 rfl ?_
  refine zv_callVR (rest := []) C (k_X2_thrown l D cI cZ mh 3 n r y b m0 m1 m2 m3 m4 m5 m6 m7 m8 m9 m10 m11 m12 m13 ) (cwV 0 C.1.2.2.2.2 gL_law_X2_thrown rfl rfl rfl (by decide +kernel) ⟨Nat.le_of_ble_eq_true rfl, Nat.le_of_ble_eq_true rfl⟩) dL_law_294 297 rfl (ci := 2) 0 rfl rfl rfl rfl (Nat.le_of_ble_eq_true rfl) ⟨(by show kc + 1 + 0 ≤ 601024; omega), (by show ns + 6 + 0 ≤ 7293034; omega)⟩ [0, 1] rfl [33, 34, 35, 36, 37, 38, 39, 40, 41, 42, 43, 44, 45, 46, 47] rfl (by decide) (fun v hv => ?_)
  subst hv
  refine zv_go rfl rfl (st' := [.int 3]) rfl (kc' := kc + 1) rfl (ns' := ns + 6) rfl ?_
  refine zv_iload C dL_law_297 299 rfl 1 rfl ?_
  refine zv_icmp_eq C dL_law_299 302 304 rfl (by decide) (fun _ => ?_) (fun q => absurd (by decide) q)
  refine zv_iload C dL_law_304 306 rfl 1 rfl ?_
  refine zv_if_ne C dL_law_306 309 321 rfl (by decide) (fun _ => ?_) (fun q => absurd q (by decide))
  refine zv_goto C dL_law_321 1966 (by decide) ?_
  refine zv_widen (k' := kc + 17) (n' := ns + 168) (by omega) (by omega) ?_
  refine zv_sub [2, 3, 4, 5, 6] (lv' := [(0, .ref sc), (1, .ref (q 0)), (2, .ref (mh 0)), (3, .ref o), (4, .int (nI i))]) rfl ?_
  exact K n b y r 3 d f0 f1 f2 f3 f4 f5 f6 f7 f8 f9 f10 f11 f12 f13 n1 r1 g0 g1 g2 g3 g4 g5 g6 g7 g8 g9 g10 g11 g12 g13 bp bn u m0 m1 m2 m3 m4 m5 m6 m7 m8 m9 m10 m11 m12 m13 hI
set_option maxHeartbeats 4000000 in
set_option maxRecDepth 100000 in
theorem lc_addSpring_ok {pP : Program} {l : Launch} {eE : Env} {sS : State} {mM : MethodId} {aA : Array Value} {bB : List Frame} {mT : Method} {cD : Code} {Q : State → Prop} {D : va_G} {cI cZ cJ : ClassId} {A : Nat → Prop} {sc L : Nat} {xs : Nat → Int32} {q h k mh : Nat → Nat} {o i kc ns : Nat} {n b : Nat} {y r t : Int32} {d : Nat → Nat} {f0 f1 f2 f3 f4 f5 f6 f7 f8 f9 f10 f11 f12 f13 : Nat → Int32} {n1 : Nat} {r1 : Int32} {g0 g1 g2 g3 g4 g5 g6 g7 g8 g9 g10 g11 g12 g13 bp bn : Nat → Int32} {u : Nat → Int64} {m0 m1 m2 m3 m4 m5 m6 m7 m8 m9 m10 m11 m12 m13 : Nat → Int32} (hl : l.stackTraces = false) (C : zv_C pP mM cD cL_law 9 sS aA wsL_law "RiverNamesLaw" A) (hA : A = fun q => sS.heap.size ≤ q) (hE : zx_E sS) (hX : va_X sc L xs sS sS.heap) (hsc : sc < sS.heap.size) (hi : i + 4 ≤ L) (hL : L ≤ 2048) (hkc : kc + 17 ≤ 601024) (hns : ns + 168 ≤ 7293034) (hI : LI n b r d f0 f1 f2 f3 f4 f5 f6 f7 f8 f9 f10 f11 f12 f13 bp bn m0 m1 m2 m3 m4 m5 m6 m7) (K : LK pP l eE sS mM aA bB mT cD Q D cI cZ cJ A sc q h k mh o i kc ns) (h1 : isI (xs (i + 1)) 0 9 = true) (h2 : isI (xs (i + 2)) 0 99 = true) (h3 : isI (xs (i + 3)) (-9) 9 = true) (h16 : n < 16) : zv_V pP l eE room_1 sS mM aA bB mT cD Q 9 D vwCl A A (tyJ cI cZ cJ) ((cR cI cZ q h k (nI b) y (nI n) r f0 f1 f2 f3 f4 f5 f6 f7 f8 f9 f10 f11 f12 f13 (nI n1) r1 g0 g1 g2 g3 g4 g5 g6 g7 g8 g9 g10 g11 g12 g13 bp bn) ++ ((cM cI cZ mh t (nI n) r y (nI b) m0 m1 m2 m3 m4 m5 m6 m7 m8 m9 m10 m11 m12 m13) ++ [(o, .inl (cJ, 1, .inr (.inl u)))])) kc ns 244 [(0, .ref sc), (1, .ref (q 0)), (2, .ref (mh 0)), (3, .ref o), (4, .int (nI i))] [] := by
  refine zv_aload_n C dL_law_244 245 rfl 1 rfl ?_
  refine zv_aload_n C dL_law_245 246 rfl 0 rfl ?_
  refine zv_iload C dL_law_246 248 rfl 4 rfl ?_
  refine zv_iconst (v := 1) C dL_law_248 249 rfl (by decide) ?_
  refine zv_iadd (v := (nI (i + 1))) C dL_law_249 250 rfl (nI_1 i) ?_
  refine zv_sld C hA hX hsc dL_law_250 251 rfl (i + 1) rfl (by omega) hL (v := (xs (i + 1))) rfl ?_
  refine zv_aload_n C dL_law_251 252 rfl 0 rfl ?_
  refine zv_iload C dL_law_252 254 rfl 4 rfl ?_
  refine zv_iconst (v := 2) C dL_law_254 255 rfl (by decide) ?_
  refine zv_iadd (v := (nI (i + 2))) C dL_law_255 256 rfl (nI_c i 2 2 rfl) ?_
  refine zv_sld C hA hX hsc dL_law_256 257 rfl (i + 2) rfl (by omega) hL (v := (xs (i + 2))) rfl ?_
  refine zv_aload_n C dL_law_257 258 rfl 0 rfl ?_
  refine zv_iload C dL_law_258 260 rfl 4 rfl ?_
  refine zv_iconst (v := 3) C dL_law_260 261 rfl (by decide) ?_
  refine zv_iadd (v := (nI (i + 3))) C dL_law_261 262 rfl (nI_c i 3 3 rfl) ?_
  refine zv_sld C hA hX hsc dL_law_262 263 rfl (i + 3) rfl (by omega) hL (v := (xs (i + 3))) rfl ?_
  refine zv_aload_n C dL_law_263 264 rfl 3 rfl ?_
  refine zv_callW (rest := []) (wr := (cM cI cZ mh t (nI n) r y (nI b) m0 m1 m2 m3 m4 m5 m6 m7 m8 m9 m10 m11 m12 m13)) C (k_L_addSpring_ok l D cI cZ cJ q h k b y n r f0 f1 f2 f3 f4 f5 f6 f7 f8 f9 f10 f11 f12 f13 n1 r1 g0 g1 g2 g3 g4 g5 g6 g7 g8 g9 g10 g11 g12 g13 bp bn o u (xs (i + 1)) (xs (i + 2)) (xs (i + 3)) (dAdd n d) (by first | assumption | omega) hI.depAdd (by first | assumption | omega) (by first | assumption | omega) (by first | assumption | omega)) (vx_cwSW 5 C.1.2.2.2.2 gL_law_L_addSpring rfl rfl rfl (by decide +kernel) ⟨Nat.le_of_ble_eq_true rfl, Nat.le_of_ble_eq_true rfl⟩) dL_law_264 267 rfl rfl rfl (Nat.le_of_ble_eq_true rfl) ⟨(by show kc + 0 ≤ 601024; omega), (by show ns + 0 ≤ 7293034; omega)⟩ [0, 1, 2] rfl [0, 1, 2, 3, 4, 5, 6, 7, 8, 9, 10, 11, 12, 13, 14, 15, 16, 17, 18, 19, 20, 21, 22, 23, 24, 25, 26, 27, 28, 29, 30, 31, 32, 48] rfl (by decide) [33, 34, 35, 36, 37, 38, 39, 40, 41, 42, 43, 44, 45, 46, 47] rfl (by decide) (by decide +kernel) (fun v w hv => ?_)
  obtain ⟨v7_1, v8_1, v9_1, v10_1, v11_1, v12_1, v13_1, uo_1, rfl, rfl, hu, hw1⟩ := hv
  refine zv_go rfl rfl (st' := [.int 0]) rfl (kc' := kc) rfl (ns' := ns) rfl ?_
  refine zv_perm [15, 16, 17, 18, 19, 20, 21, 22, 23, 24, 25, 26, 27, 28, 29, 30, 31, 32, 33, 34, 35, 36, 37, 38, 39, 40, 41, 42, 43, 44, 45, 46, 47, 0, 1, 2, 3, 4, 5, 6, 7, 8, 9, 10, 11, 12, 13, 14, 48] (ws' := ((cR cI cZ q h k (nI b) y (nI (n + 1)) r (upd f0 n (-1)) f1 (upd f2 n 1) (upd f3 n (xs (i + 1))) (upd f4 n (xs (i + 2))) (upd f5 n (xs (i + 3))) f6 v7_1 v8_1 v9_1 v10_1 v11_1 v12_1 v13_1 (nI n1) r1 g0 g1 g2 g3 g4 g5 g6 g7 g8 g9 g10 g11 g12 g13 bp bn) ++ ((cM cI cZ mh t (nI n) r y (nI b) m0 m1 m2 m3 m4 m5 m6 m7 m8 m9 m10 m11 m12 m13) ++ [(o, .inl (cJ, 1, .inr (.inl uo_1)))]))) (by decide) rfl ?_
  refine zv_istore C dL_law_267 269 rfl [(5, .int 0), (0, .ref sc), (1, .ref (q 0)), (2, .ref (mh 0)), (3, .ref o), (4, .int (nI i))] (by decide) rfl ?_
  refine zv_aload_n C dL_law_269 270 rfl 3 rfl ?_
  refine zv_aload_n C dL_law_270 271 rfl 1 rfl ?_
  refine zv_iload C dL_law_271 273 rfl 5 rfl ?_
  refine zv_iconst (v := 1) C dL_law_273 274 rfl (by decide) ?_
  refine zv_iadd (v := (nI (i + 1))) C dL_law_274 275 rfl (nI_1 i) ?_
  refine zv_sld C hA hX hsc dL_law_275 276 rfl (i + 1) rfl (by omega) hL (v := (xs (i + 1))) rfl ?_
  refine zv_aload_n C dL_law_276 277 rfl 1 rfl ?_
  refine zv_iload C dL_law_277 279 rfl 5 rfl ?_
  refine zv_iconst (v := 2) C dL_law_279 280 rfl (by decide) ?_
  refine zv_iadd (v := (nI (i + 2))) C dL_law_280 281 rfl (nI_c i 2 2 rfl) ?_
  refine zv_sld C hA hX hsc dL_law_281 282 rfl (i + 2) rfl (by omega) hL (v := (xs (i + 2))) rfl ?_
  refine zv_aload_n C dL_law_282 283 rfl 1 rfl ?_
  refine zv_iload C dL_law_283 285 rfl 5 rfl ?_
  refine zv_iconst (v := 3) C dL_law_285 286 rfl (by decide) ?_
  refine zv_iadd (v := (nI (i + 3))) C dL_law_286 287 rfl (nI_c i 3 3 rfl) ?_
  refine zv_sld C hA hX hsc dL_law_287 288 rfl (i + 3) rfl (by omega) hL (v := (xs (i + 3))) rfl ?_
  refine zv_callV (rest := []) (wr := ((cR cI cZ q h k (nI b) y (nI (n + 1)) r (upd f0 n (-1)) f1 (upd f2 n 1) (upd f3 n (xs (i + 1))) (upd f4 n (xs (i + 2))) (upd f5 n (xs (i + 3))) f6 v7_1 v8_1 v9_1 v10_1 v11_1 v12_1 v13_1 (nI n1) r1 g0 g1 g2 g3 g4 g5 g6 g7 g8 g9 g10 g11 g12 g13 bp bn) ++ [(o, .inl (cJ, 1, .inr (.inl uo_1)))])) C (k_X2_addSpring_ok l D cI cZ mh t n r y b m0 m1 m2 m3 m4 m5 m6 m7 m8 m9 m10 m11 m12 m13 (xs (i + 1)) (xs (i + 2)) (xs (i + 3)) (by first | assumption | omega) (by first | assumption | omega) (by first | assumption | omega) (by first | assumption | omega)) (cwV 3 C.1.2.2.2.2 gL_law_X2_addSpring rfl rfl rfl (by decide +kernel) ⟨Nat.le_of_ble_eq_true rfl, Nat.le_of_ble_eq_true rfl⟩) dL_law_288 291 rfl (ci := 2) 0 rfl rfl rfl rfl (Nat.le_of_ble_eq_true rfl) ⟨(by show kc + 0 ≤ 601024; omega), (by show ns + 0 ≤ 7293034; omega)⟩ [0, 1] rfl [33, 34, 35, 36, 37, 38, 39, 40, 41, 42, 43, 44, 45, 46, 47] rfl (by decide) [0, 1, 2, 3, 4, 5, 6, 7, 8, 9, 10, 11, 12, 13, 14, 15, 16, 17, 18, 19, 20, 21, 22, 23, 24, 25, 26, 27, 28, 29, 30, 31, 32, 48] rfl (by decide) (by decide +kernel) (fun v w hv => ?_)
  obtain ⟨rfl, rfl⟩ := hv
  refine zv_go rfl rfl (st' := [.int (nI n)]) rfl (kc' := kc) rfl (ns' := ns) rfl ?_
  refine zv_perm [0, 1, 2, 3, 4, 5, 6, 7, 8, 9, 10, 11, 12, 13, 14, 15, 16, 17, 18, 19, 20, 21, 22, 23, 24, 25, 26, 27, 28, 29, 30, 31, 32, 34, 35, 36, 37, 38, 39, 40, 41, 42, 43, 44, 45, 46, 47, 48, 33] (ws' := ((cR cI cZ q h k (nI b) y (nI (n + 1)) r (upd f0 n (-1)) f1 (upd f2 n 1) (upd f3 n (xs (i + 1))) (upd f4 n (xs (i + 2))) (upd f5 n (xs (i + 3))) f6 v7_1 v8_1 v9_1 v10_1 v11_1 v12_1 v13_1 (nI n1) r1 g0 g1 g2 g3 g4 g5 g6 g7 g8 g9 g10 g11 g12 g13 bp bn) ++ ((cM cI cZ mh 0 (nI (n + 1)) r y (nI b) (upd m0 n (-1 : Int32)) (upd m1 n 1) (upd m2 n (xs (i + 1))) (upd m3 n (xs (i + 2))) (upd m4 n (xs (i + 3))) m5 m6 m7 m8 m9 m10 m11 m12 m13) ++ [(o, .inl (cJ, 1, .inr (.inl uo_1)))]))) (by decide) rfl ?_
  refine zv_istore C dL_law_291 293 rfl [(6, .int (nI n)), (5, .int 0), (0, .ref sc), (1, .ref (q 0)), (2, .ref (mh 0)), (3, .ref o), (4, .int (nI i))] (by decide) rfl ?_
  refine zv_aload_n C dL_law_293 294 rfl 4 rfl ?_
  refine zv_callVR (rest := []) C (k_X2_thrown l D cI cZ mh 0 (n + 1) r y b (upd m0 n (-1 : Int32)) (upd m1 n 1) (upd m2 n (xs (i + 1))) (upd m3 n (xs (i + 2))) (upd m4 n (xs (i + 3))) m5 m6 m7 m8 m9 m10 m11 m12 m13 ) (cwV 0 C.1.2.2.2.2 gL_law_X2_thrown rfl rfl rfl (by decide +kernel) ⟨Nat.le_of_ble_eq_true rfl, Nat.le_of_ble_eq_true rfl⟩) dL_law_294 297 rfl (ci := 2) 0 rfl rfl rfl rfl (Nat.le_of_ble_eq_true rfl) ⟨(by show kc + 0 ≤ 601024; omega), (by show ns + 0 ≤ 7293034; omega)⟩ [0, 1] rfl [33, 34, 35, 36, 37, 38, 39, 40, 41, 42, 43, 44, 45, 46, 47] rfl (by decide) (fun v hv => ?_)
  subst hv
  refine zv_go rfl rfl (st' := [.int 0]) rfl (kc' := kc) rfl (ns' := ns) rfl ?_
  refine zv_iload C dL_law_297 299 rfl 1 rfl ?_
  refine zv_icmp_eq C dL_law_299 302 304 rfl (by decide) (fun _ => ?_) (fun q => absurd (by decide) q)
  refine zv_iload C dL_law_304 306 rfl 1 rfl ?_
  refine zv_if_ne C dL_law_306 309 321 rfl (by decide) (fun q => absurd (by decide) q) (fun _ => ?_)
  refine zv_aload_n C dL_law_309 310 rfl 5 rfl ?_
  refine zv_iconst (v := 0) C dL_law_310 311 rfl (by decide) ?_
  refine zv_lald (v := (uo_1 0)) C dL_law_311 312 rfl 48 2 0 rfl rfl (by decide) (by decide) (by decide) rfl ?_
  refine zv_iload C dL_law_312 314 rfl 0 rfl ?_
  refine zv_i2l C dL_law_314 315 rfl ?_
  refine zv_lcmpE C dL_law_315 316 rfl (hu.trans (congrArg Int32.toInt64 rfl)) ?_
  refine zv_if_eq C dL_law_316 319 321 rfl (by decide) (fun _ => ?_) (fun q => absurd (by decide) q)
  refine zv_goto C dL_law_321 1966 (by decide) ?_
  refine zv_widen (k' := kc + 17) (n' := ns + 168) (by omega) (by omega) ?_
  refine zv_sub [2, 3, 4, 5, 6] (lv' := [(0, .ref sc), (1, .ref (q 0)), (2, .ref (mh 0)), (3, .ref o), (4, .int (nI i))]) rfl ?_
  exact K (n + 1) b y r 0 (dAdd n d) (upd f0 n (-1)) f1 (upd f2 n 1) (upd f3 n (xs (i + 1))) (upd f4 n (xs (i + 2))) (upd f5 n (xs (i + 3))) f6 v7_1 v8_1 v9_1 v10_1 v11_1 v12_1 v13_1 n1 r1 g0 g1 g2 g3 g4 g5 g6 g7 g8 g9 g10 g11 g12 g13 bp bn uo_1 (upd m0 n (-1 : Int32)) (upd m1 n 1) (upd m2 n (xs (i + 1))) (upd m3 n (xs (i + 2))) (upd m4 n (xs (i + 3))) m5 m6 m7 m8 m9 m10 m11 m12 m13 (hI.addSpring hw1 h16 h2 h3)
set_option maxHeartbeats 4000000 in
set_option maxRecDepth 100000 in
theorem lc_build_n1 {pP : Program} {l : Launch} {eE : Env} {sS : State} {mM : MethodId} {aA : Array Value} {bB : List Frame} {mT : Method} {cD : Code} {Q : State → Prop} {D : va_G} {cI cZ cJ : ClassId} {A : Nat → Prop} {sc L : Nat} {xs : Nat → Int32} {q h k mh : Nat → Nat} {o i kc ns : Nat} {n b : Nat} {y r t : Int32} {d : Nat → Nat} {f0 f1 f2 f3 f4 f5 f6 f7 f8 f9 f10 f11 f12 f13 : Nat → Int32} {n1 : Nat} {r1 : Int32} {g0 g1 g2 g3 g4 g5 g6 g7 g8 g9 g10 g11 g12 g13 bp bn : Nat → Int32} {u : Nat → Int64} {m0 m1 m2 m3 m4 m5 m6 m7 m8 m9 m10 m11 m12 m13 : Nat → Int32} (hl : l.stackTraces = false) (C : zv_C pP mM cD cL_law 9 sS aA wsL_law "RiverNamesLaw" A) (hA : A = fun q => sS.heap.size ≤ q) (hE : zx_E sS) (hX : va_X sc L xs sS sS.heap) (hsc : sc < sS.heap.size) (hi : i + 4 ≤ L) (hL : L ≤ 2048) (hkc : kc + 17 ≤ 601024) (hns : ns + 168 ≤ 7293034) (hI : LI n b r d f0 f1 f2 f3 f4 f5 f6 f7 f8 f9 f10 f11 f12 f13 bp bn m0 m1 m2 m3 m4 m5 m6 m7) (K : LK pP l eE sS mM aA bB mT cD Q D cI cZ cJ A sc q h k mh o i kc ns) (hf : isP n (xs (i + 1)) = false) : zv_V pP l eE room_1 sS mM aA bB mT cD Q 9 D vwCl A A (tyJ cI cZ cJ) ((cR cI cZ q h k (nI b) y (nI n) r f0 f1 f2 f3 f4 f5 f6 f7 f8 f9 f10 f11 f12 f13 (nI n1) r1 g0 g1 g2 g3 g4 g5 g6 g7 g8 g9 g10 g11 g12 g13 bp bn) ++ ((cM cI cZ mh t (nI n) r y (nI b) m0 m1 m2 m3 m4 m5 m6 m7 m8 m9 m10 m11 m12 m13) ++ [(o, .inl (cJ, 1, .inr (.inl u)))])) kc ns 511 [(0, .ref sc), (1, .ref (q 0)), (2, .ref (mh 0)), (3, .ref o), (4, .int (nI i))] [] := by
  refine zv_aload_n C dL_law_511 512 rfl 1 rfl ?_
  refine zv_aload_n C dL_law_512 513 rfl 0 rfl ?_
  refine zv_iload C dL_law_513 515 rfl 4 rfl ?_
  refine zv_iconst (v := 1) C dL_law_515 516 rfl (by decide) ?_
  refine zv_iadd (v := (nI (i + 1))) C dL_law_516 517 rfl (nI_1 i) ?_
  refine zv_sld C hA hX hsc dL_law_517 518 rfl (i + 1) rfl (by omega) hL (v := (xs (i + 1))) rfl ?_
  refine zv_aload_n C dL_law_518 519 rfl 3 rfl ?_
  refine zv_callWE (rest := []) C hA hE (k_L_build_t l D cI cZ cJ q h k b y n r f0 f1 f2 f3 f4 f5 f6 f7 f8 f9 f10 f11 f12 f13 n1 r1 g0 g1 g2 g3 g4 g5 g6 g7 g8 g9 g10 g11 g12 g13 bp bn o u (xs (i + 1)) hI.n16 (by first | assumption | omega) hl) (vx_cwSW 3 C.1.2.2.2.2 gL_law_L_build rfl rfl rfl (by decide +kernel) ⟨Nat.le_of_ble_eq_true rfl, Nat.le_of_ble_eq_true rfl⟩) dL_law_519 522 rfl rfl rfl (Nat.le_of_ble_eq_true rfl) ⟨(by show kc + 1 ≤ 601024; omega), (by show ns + 6 ≤ 7293034; omega)⟩ [0, 1, 2] rfl [0, 1, 2, 3, 4, 5, 6, 7, 8, 9, 10, 11, 12, 13, 14, 15, 16, 17, 18, 19, 20, 21, 22, 23, 24, 25, 26, 27, 28, 29, 30, 31, 32, 48] rfl (by decide) (fun v hv => ?_)
  subst hv
  refine zv_go rfl rfl (st' := [.int 1]) rfl (kc' := kc + 1) rfl (ns' := ns + 6) rfl ?_
  refine zv_istore C dL_law_522 524 rfl [(5, .int 1), (0, .ref sc), (1, .ref (q 0)), (2, .ref (mh 0)), (3, .ref o), (4, .int (nI i))] (by decide) rfl ?_
  refine zv_aload_n C dL_law_524 525 rfl 3 rfl ?_
  refine zv_aload_n C dL_law_525 526 rfl 1 rfl ?_
  refine zv_iload C dL_law_526 528 rfl 5 rfl ?_
  refine zv_iconst (v := 1) C dL_law_528 529 rfl (by decide) ?_
  refine zv_iadd (v := (nI (i + 1))) C dL_law_529 530 rfl (nI_1 i) ?_
  refine zv_sld C hA hX hsc dL_law_530 531 rfl (i + 1) rfl (by omega) hL (v := (xs (i + 1))) rfl ?_
  refine zv_callV (rest := []) (wr := ((cR cI cZ q h k (nI b) y (nI n) r f0 f1 f2 f3 f4 f5 f6 f7 f8 f9 f10 f11 f12 f13 (nI n1) r1 g0 g1 g2 g3 g4 g5 g6 g7 g8 g9 g10 g11 g12 g13 bp bn) ++ [(o, .inl (cJ, 1, .inr (.inl u)))])) C (k_X2_build_n1 l D cI cZ mh t n r y b m0 m1 m2 m3 m4 m5 m6 m7 m8 m9 m10 m11 m12 m13 (xs (i + 1)) hI.n16 (by first | assumption | omega)) (cwV 1 C.1.2.2.2.2 gL_law_X2_build rfl rfl rfl (by decide +kernel) ⟨Nat.le_of_ble_eq_true rfl, Nat.le_of_ble_eq_true rfl⟩) dL_law_531 534 rfl (ci := 2) 0 rfl rfl rfl rfl (Nat.le_of_ble_eq_true rfl) ⟨(by show kc + 1 + 0 ≤ 601024; omega), (by show ns + 6 + 0 ≤ 7293034; omega)⟩ [0, 1] rfl [33, 34, 35, 36, 37, 38, 39, 40, 41, 42, 43, 44, 45, 46, 47] rfl (by decide) [0, 1, 2, 3, 4, 5, 6, 7, 8, 9, 10, 11, 12, 13, 14, 15, 16, 17, 18, 19, 20, 21, 22, 23, 24, 25, 26, 27, 28, 29, 30, 31, 32, 48] rfl (by decide) (by decide +kernel) (fun v w hv => ?_)
  obtain ⟨rfl, rfl⟩ := hv
  refine zv_go rfl rfl (st' := [.int 0]) rfl (kc' := kc + 1) rfl (ns' := ns + 6) rfl ?_
  refine zv_perm [0, 1, 2, 3, 4, 5, 6, 7, 8, 9, 10, 11, 12, 13, 14, 15, 16, 17, 18, 19, 20, 21, 22, 23, 24, 25, 26, 27, 28, 29, 30, 31, 32, 34, 35, 36, 37, 38, 39, 40, 41, 42, 43, 44, 45, 46, 47, 48, 33] (ws' := ((cR cI cZ q h k (nI b) y (nI n) r f0 f1 f2 f3 f4 f5 f6 f7 f8 f9 f10 f11 f12 f13 (nI n1) r1 g0 g1 g2 g3 g4 g5 g6 g7 g8 g9 g10 g11 g12 g13 bp bn) ++ ((cM cI cZ mh 1 (nI n) r y (nI b) m0 m1 m2 m3 m4 m5 m6 m7 m8 m9 m10 m11 m12 m13) ++ [(o, .inl (cJ, 1, .inr (.inl u)))]))) (by decide) rfl ?_
  refine zv_istore C dL_law_534 536 rfl [(6, .int 0), (5, .int 1), (0, .ref sc), (1, .ref (q 0)), (2, .ref (mh 0)), (3, .ref o), (4, .int (nI i))] (by decide) rfl ?_
  refine zv_aload_n C dL_law_536 537 rfl 4 rfl ?_
  refine zv_callVR (rest := []) C (k_X2_thrown l D cI cZ mh 1 n r y b m0 m1 m2 m3 m4 m5 m6 m7 m8 m9 m10 m11 m12 m13 ) (cwV 0 C.1.2.2.2.2 gL_law_X2_thrown rfl rfl rfl (by decide +kernel) ⟨Nat.le_of_ble_eq_true rfl, Nat.le_of_ble_eq_true rfl⟩) dL_law_537 540 rfl (ci := 2) 0 rfl rfl rfl rfl (Nat.le_of_ble_eq_true rfl) ⟨(by show kc + 1 + 0 ≤ 601024; omega), (by show ns + 6 + 0 ≤ 7293034; omega)⟩ [0, 1] rfl [33, 34, 35, 36, 37, 38, 39, 40, 41, 42, 43, 44, 45, 46, 47] rfl (by decide) (fun v hv => ?_)
  subst hv
  refine zv_go rfl rfl (st' := [.int 1]) rfl (kc' := kc + 1) rfl (ns' := ns + 6) rfl ?_
  refine zv_iload C dL_law_540 542 rfl 1 rfl ?_
  refine zv_icmp_eq C dL_law_542 545 547 rfl (by decide) (fun _ => ?_) (fun q => absurd (by decide) q)
  refine zv_iload C dL_law_547 549 rfl 1 rfl ?_
  refine zv_if_ne C dL_law_549 552 564 rfl (by decide) (fun _ => ?_) (fun q => absurd q (by decide))
  refine zv_goto C dL_law_564 1966 (by decide) ?_
  refine zv_widen (k' := kc + 17) (n' := ns + 168) (by omega) (by omega) ?_
  refine zv_sub [2, 3, 4, 5, 6] (lv' := [(0, .ref sc), (1, .ref (q 0)), (2, .ref (mh 0)), (3, .ref o), (4, .int (nI i))]) rfl ?_
  exact K n b y r 1 d f0 f1 f2 f3 f4 f5 f6 f7 f8 f9 f10 f11 f12 f13 n1 r1 g0 g1 g2 g3 g4 g5 g6 g7 g8 g9 g10 g11 g12 g13 bp bn u m0 m1 m2 m3 m4 m5 m6 m7 m8 m9 m10 m11 m12 m13 hI
set_option maxHeartbeats 4000000 in
set_option maxRecDepth 100000 in
theorem lc_build_n2 {pP : Program} {l : Launch} {eE : Env} {sS : State} {mM : MethodId} {aA : Array Value} {bB : List Frame} {mT : Method} {cD : Code} {Q : State → Prop} {D : va_G} {cI cZ cJ : ClassId} {A : Nat → Prop} {sc L : Nat} {xs : Nat → Int32} {q h k mh : Nat → Nat} {o i kc ns : Nat} {n b : Nat} {y r t : Int32} {d : Nat → Nat} {f0 f1 f2 f3 f4 f5 f6 f7 f8 f9 f10 f11 f12 f13 : Nat → Int32} {n1 : Nat} {r1 : Int32} {g0 g1 g2 g3 g4 g5 g6 g7 g8 g9 g10 g11 g12 g13 bp bn : Nat → Int32} {u : Nat → Int64} {m0 m1 m2 m3 m4 m5 m6 m7 m8 m9 m10 m11 m12 m13 : Nat → Int32} (hl : l.stackTraces = false) (C : zv_C pP mM cD cL_law 9 sS aA wsL_law "RiverNamesLaw" A) (hA : A = fun q => sS.heap.size ≤ q) (hE : zx_E sS) (hX : va_X sc L xs sS sS.heap) (hsc : sc < sS.heap.size) (hi : i + 4 ≤ L) (hL : L ≤ 2048) (hkc : kc + 17 ≤ 601024) (hns : ns + 168 ≤ 7293034) (hI : LI n b r d f0 f1 f2 f3 f4 f5 f6 f7 f8 f9 f10 f11 f12 f13 bp bn m0 m1 m2 m3 m4 m5 m6 m7) (K : LK pP l eE sS mM aA bB mT cD Q D cI cZ cJ A sc q h k mh o i kc ns) (p : Nat) (hp : p < n) (e1 : xs (i + 1) = nI p) (h16 : b = 16) : zv_V pP l eE room_1 sS mM aA bB mT cD Q 9 D vwCl A A (tyJ cI cZ cJ) ((cR cI cZ q h k (nI b) y (nI n) r f0 f1 f2 f3 f4 f5 f6 f7 f8 f9 f10 f11 f12 f13 (nI n1) r1 g0 g1 g2 g3 g4 g5 g6 g7 g8 g9 g10 g11 g12 g13 bp bn) ++ ((cM cI cZ mh t (nI n) r y (nI b) m0 m1 m2 m3 m4 m5 m6 m7 m8 m9 m10 m11 m12 m13) ++ [(o, .inl (cJ, 1, .inr (.inl u)))])) kc ns 511 [(0, .ref sc), (1, .ref (q 0)), (2, .ref (mh 0)), (3, .ref o), (4, .int (nI i))] [] := by
  refine zv_aload_n C dL_law_511 512 rfl 1 rfl ?_
  refine zv_aload_n C dL_law_512 513 rfl 0 rfl ?_
  refine zv_iload C dL_law_513 515 rfl 4 rfl ?_
  refine zv_iconst (v := 1) C dL_law_515 516 rfl (by decide) ?_
  refine zv_iadd (v := (nI (i + 1))) C dL_law_516 517 rfl (nI_1 i) ?_
  refine zv_sld C hA hX hsc dL_law_517 518 rfl (i + 1) rfl (by omega) hL (v := (nI p)) e1 ?_
  refine zv_aload_n C dL_law_518 519 rfl 3 rfl ?_
  refine zv_callWE (rest := []) C hA hE (k_L_build_t2 l D cI cZ cJ q h k b y n r f0 f1 f2 f3 f4 f5 f6 f7 f8 f9 f10 f11 f12 f13 n1 r1 g0 g1 g2 g3 g4 g5 g6 g7 g8 g9 g10 g11 g12 g13 bp bn o u p hI.n16 (by first | assumption | omega) (by first | assumption | omega) hl) (vx_cwSW 3 C.1.2.2.2.2 gL_law_L_build rfl rfl rfl (by decide +kernel) ⟨Nat.le_of_ble_eq_true rfl, Nat.le_of_ble_eq_true rfl⟩) dL_law_519 522 rfl rfl rfl (Nat.le_of_ble_eq_true rfl) ⟨(by show kc + 1 ≤ 601024; omega), (by show ns + 6 ≤ 7293034; omega)⟩ [0, 1, 2] rfl [0, 1, 2, 3, 4, 5, 6, 7, 8, 9, 10, 11, 12, 13, 14, 15, 16, 17, 18, 19, 20, 21, 22, 23, 24, 25, 26, 27, 28, 29, 30, 31, 32, 48] rfl (by decide) (fun v hv => ?_)
  subst hv
  refine zv_go rfl rfl (st' := [.int 2]) rfl (kc' := kc + 1) rfl (ns' := ns + 6) rfl ?_
  refine zv_istore C dL_law_522 524 rfl [(5, .int 2), (0, .ref sc), (1, .ref (q 0)), (2, .ref (mh 0)), (3, .ref o), (4, .int (nI i))] (by decide) rfl ?_
  refine zv_aload_n C dL_law_524 525 rfl 3 rfl ?_
  refine zv_aload_n C dL_law_525 526 rfl 1 rfl ?_
  refine zv_iload C dL_law_526 528 rfl 5 rfl ?_
  refine zv_iconst (v := 1) C dL_law_528 529 rfl (by decide) ?_
  refine zv_iadd (v := (nI (i + 1))) C dL_law_529 530 rfl (nI_1 i) ?_
  refine zv_sld C hA hX hsc dL_law_530 531 rfl (i + 1) rfl (by omega) hL (v := (nI p)) e1 ?_
  refine zv_callV (rest := []) (wr := ((cR cI cZ q h k (nI b) y (nI n) r f0 f1 f2 f3 f4 f5 f6 f7 f8 f9 f10 f11 f12 f13 (nI n1) r1 g0 g1 g2 g3 g4 g5 g6 g7 g8 g9 g10 g11 g12 g13 bp bn) ++ [(o, .inl (cJ, 1, .inr (.inl u)))])) C (k_X2_build_n2 l D cI cZ mh t n r y b m0 m1 m2 m3 m4 m5 m6 m7 m8 m9 m10 m11 m12 m13 p hI.n16 (by first | assumption | omega) (by first | assumption | omega)) (cwV 1 C.1.2.2.2.2 gL_law_X2_build rfl rfl rfl (by decide +kernel) ⟨Nat.le_of_ble_eq_true rfl, Nat.le_of_ble_eq_true rfl⟩) dL_law_531 534 rfl (ci := 2) 0 rfl rfl rfl rfl (Nat.le_of_ble_eq_true rfl) ⟨(by show kc + 1 + 0 ≤ 601024; omega), (by show ns + 6 + 0 ≤ 7293034; omega)⟩ [0, 1] rfl [33, 34, 35, 36, 37, 38, 39, 40, 41, 42, 43, 44, 45, 46, 47] rfl (by decide) [0, 1, 2, 3, 4, 5, 6, 7, 8, 9, 10, 11, 12, 13, 14, 15, 16, 17, 18, 19, 20, 21, 22, 23, 24, 25, 26, 27, 28, 29, 30, 31, 32, 48] rfl (by decide) (by decide +kernel) (fun v w hv => ?_)
  obtain ⟨rfl, rfl⟩ := hv
  refine zv_go rfl rfl (st' := [.int 0]) rfl (kc' := kc + 1) rfl (ns' := ns + 6) rfl ?_
  refine zv_perm [0, 1, 2, 3, 4, 5, 6, 7, 8, 9, 10, 11, 12, 13, 14, 15, 16, 17, 18, 19, 20, 21, 22, 23, 24, 25, 26, 27, 28, 29, 30, 31, 32, 34, 35, 36, 37, 38, 39, 40, 41, 42, 43, 44, 45, 46, 47, 48, 33] (ws' := ((cR cI cZ q h k (nI b) y (nI n) r f0 f1 f2 f3 f4 f5 f6 f7 f8 f9 f10 f11 f12 f13 (nI n1) r1 g0 g1 g2 g3 g4 g5 g6 g7 g8 g9 g10 g11 g12 g13 bp bn) ++ ((cM cI cZ mh 2 (nI n) r y (nI b) m0 m1 m2 m3 m4 m5 m6 m7 m8 m9 m10 m11 m12 m13) ++ [(o, .inl (cJ, 1, .inr (.inl u)))]))) (by decide) rfl ?_
  refine zv_istore C dL_law_534 536 rfl [(6, .int 0), (5, .int 2), (0, .ref sc), (1, .ref (q 0)), (2, .ref (mh 0)), (3, .ref o), (4, .int (nI i))] (by decide) rfl ?_
  refine zv_aload_n C dL_law_536 537 rfl 4 rfl ?_
  refine zv_callVR (rest := []) C (k_X2_thrown l D cI cZ mh 2 n r y b m0 m1 m2 m3 m4 m5 m6 m7 m8 m9 m10 m11 m12 m13 ) (cwV 0 C.1.2.2.2.2 gL_law_X2_thrown rfl rfl rfl (by decide +kernel) ⟨Nat.le_of_ble_eq_true rfl, Nat.le_of_ble_eq_true rfl⟩) dL_law_537 540 rfl (ci := 2) 0 rfl rfl rfl rfl (Nat.le_of_ble_eq_true rfl) ⟨(by show kc + 1 + 0 ≤ 601024; omega), (by show ns + 6 + 0 ≤ 7293034; omega)⟩ [0, 1] rfl [33, 34, 35, 36, 37, 38, 39, 40, 41, 42, 43, 44, 45, 46, 47] rfl (by decide) (fun v hv => ?_)
  subst hv
  refine zv_go rfl rfl (st' := [.int 2]) rfl (kc' := kc + 1) rfl (ns' := ns + 6) rfl ?_
  refine zv_iload C dL_law_540 542 rfl 1 rfl ?_
  refine zv_icmp_eq C dL_law_542 545 547 rfl (by decide) (fun _ => ?_) (fun q => absurd (by decide) q)
  refine zv_iload C dL_law_547 549 rfl 1 rfl ?_
  refine zv_if_ne C dL_law_549 552 564 rfl (by decide) (fun _ => ?_) (fun q => absurd q (by decide))
  refine zv_goto C dL_law_564 1966 (by decide) ?_
  refine zv_widen (k' := kc + 17) (n' := ns + 168) (by omega) (by omega) ?_
  refine zv_sub [2, 3, 4, 5, 6] (lv' := [(0, .ref sc), (1, .ref (q 0)), (2, .ref (mh 0)), (3, .ref o), (4, .int (nI i))]) rfl ?_
  exact K n b y r 2 d f0 f1 f2 f3 f4 f5 f6 f7 f8 f9 f10 f11 f12 f13 n1 r1 g0 g1 g2 g3 g4 g5 g6 g7 g8 g9 g10 g11 g12 g13 bp bn u m0 m1 m2 m3 m4 m5 m6 m7 m8 m9 m10 m11 m12 m13 hI
set_option maxHeartbeats 4000000 in
set_option maxRecDepth 100000 in
theorem lc_build_ok {pP : Program} {l : Launch} {eE : Env} {sS : State} {mM : MethodId} {aA : Array Value} {bB : List Frame} {mT : Method} {cD : Code} {Q : State → Prop} {D : va_G} {cI cZ cJ : ClassId} {A : Nat → Prop} {sc L : Nat} {xs : Nat → Int32} {q h k mh : Nat → Nat} {o i kc ns : Nat} {n b : Nat} {y r t : Int32} {d : Nat → Nat} {f0 f1 f2 f3 f4 f5 f6 f7 f8 f9 f10 f11 f12 f13 : Nat → Int32} {n1 : Nat} {r1 : Int32} {g0 g1 g2 g3 g4 g5 g6 g7 g8 g9 g10 g11 g12 g13 bp bn : Nat → Int32} {u : Nat → Int64} {m0 m1 m2 m3 m4 m5 m6 m7 m8 m9 m10 m11 m12 m13 : Nat → Int32} (hl : l.stackTraces = false) (C : zv_C pP mM cD cL_law 9 sS aA wsL_law "RiverNamesLaw" A) (hA : A = fun q => sS.heap.size ≤ q) (hE : zx_E sS) (hX : va_X sc L xs sS sS.heap) (hsc : sc < sS.heap.size) (hi : i + 4 ≤ L) (hL : L ≤ 2048) (hkc : kc + 17 ≤ 601024) (hns : ns + 168 ≤ 7293034) (hI : LI n b r d f0 f1 f2 f3 f4 f5 f6 f7 f8 f9 f10 f11 f12 f13 bp bn m0 m1 m2 m3 m4 m5 m6 m7) (K : LK pP l eE sS mM aA bB mT cD Q D cI cZ cJ A sc q h k mh o i kc ns) (p : Nat) (hp : p < n) (e1 : xs (i + 1) = nI p) (h16 : b < 16) : zv_V pP l eE room_1 sS mM aA bB mT cD Q 9 D vwCl A A (tyJ cI cZ cJ) ((cR cI cZ q h k (nI b) y (nI n) r f0 f1 f2 f3 f4 f5 f6 f7 f8 f9 f10 f11 f12 f13 (nI n1) r1 g0 g1 g2 g3 g4 g5 g6 g7 g8 g9 g10 g11 g12 g13 bp bn) ++ ((cM cI cZ mh t (nI n) r y (nI b) m0 m1 m2 m3 m4 m5 m6 m7 m8 m9 m10 m11 m12 m13) ++ [(o, .inl (cJ, 1, .inr (.inl u)))])) kc ns 511 [(0, .ref sc), (1, .ref (q 0)), (2, .ref (mh 0)), (3, .ref o), (4, .int (nI i))] [] := by
  refine zv_aload_n C dL_law_511 512 rfl 1 rfl ?_
  refine zv_aload_n C dL_law_512 513 rfl 0 rfl ?_
  refine zv_iload C dL_law_513 515 rfl 4 rfl ?_
  refine zv_iconst (v := 1) C dL_law_515 516 rfl (by decide) ?_
  refine zv_iadd (v := (nI (i + 1))) C dL_law_516 517 rfl (nI_1 i) ?_
  refine zv_sld C hA hX hsc dL_law_517 518 rfl (i + 1) rfl (by omega) hL (v := (nI p)) e1 ?_
  refine zv_aload_n C dL_law_518 519 rfl 3 rfl ?_
  refine zv_callW (rest := []) (wr := (cM cI cZ mh t (nI n) r y (nI b) m0 m1 m2 m3 m4 m5 m6 m7 m8 m9 m10 m11 m12 m13)) C (k_L_build_ok l D cI cZ cJ q h k b y n r f0 f1 f2 f3 f4 f5 f6 f7 f8 f9 f10 f11 f12 f13 n1 r1 g0 g1 g2 g3 g4 g5 g6 g7 g8 g9 g10 g11 g12 g13 bp bn o u p hI.n16 (by first | assumption | omega) (by first | assumption | omega)) (vx_cwSW 3 C.1.2.2.2.2 gL_law_L_build rfl rfl rfl (by decide +kernel) ⟨Nat.le_of_ble_eq_true rfl, Nat.le_of_ble_eq_true rfl⟩) dL_law_519 522 rfl rfl rfl (Nat.le_of_ble_eq_true rfl) ⟨(by show kc + 0 ≤ 601024; omega), (by show ns + 0 ≤ 7293034; omega)⟩ [0, 1, 2] rfl [0, 1, 2, 3, 4, 5, 6, 7, 8, 9, 10, 11, 12, 13, 14, 15, 16, 17, 18, 19, 20, 21, 22, 23, 24, 25, 26, 27, 28, 29, 30, 31, 32, 48] rfl (by decide) [33, 34, 35, 36, 37, 38, 39, 40, 41, 42, 43, 44, 45, 46, 47] rfl (by decide) (by decide +kernel) (fun v w hv => ?_)
  obtain ⟨uo_1, rfl, rfl, hu⟩ := hv
  refine zv_go rfl rfl (st' := [.int 0]) rfl (kc' := kc) rfl (ns' := ns) rfl ?_
  refine zv_perm [15, 16, 17, 18, 19, 20, 21, 22, 23, 24, 25, 26, 27, 28, 29, 30, 31, 32, 33, 34, 35, 36, 37, 38, 39, 40, 41, 42, 43, 44, 45, 46, 47, 0, 1, 2, 3, 4, 5, 6, 7, 8, 9, 10, 11, 12, 13, 14, 48] (ws' := ((cR cI cZ q h k (nI (b + 1)) y (nI n) r f0 f1 f2 f3 f4 f5 f6 f7 f8 f9 f10 f11 f12 f13 (nI n1) r1 g0 g1 g2 g3 g4 g5 g6 g7 g8 g9 g10 g11 g12 g13 (upd bp b (nI p)) (upd bn b (f9 p))) ++ ((cM cI cZ mh t (nI n) r y (nI b) m0 m1 m2 m3 m4 m5 m6 m7 m8 m9 m10 m11 m12 m13) ++ [(o, .inl (cJ, 1, .inr (.inl uo_1)))]))) (by decide) rfl ?_
  refine zv_istore C dL_law_522 524 rfl [(5, .int 0), (0, .ref sc), (1, .ref (q 0)), (2, .ref (mh 0)), (3, .ref o), (4, .int (nI i))] (by decide) rfl ?_
  refine zv_aload_n C dL_law_524 525 rfl 3 rfl ?_
  refine zv_aload_n C dL_law_525 526 rfl 1 rfl ?_
  refine zv_iload C dL_law_526 528 rfl 5 rfl ?_
  refine zv_iconst (v := 1) C dL_law_528 529 rfl (by decide) ?_
  refine zv_iadd (v := (nI (i + 1))) C dL_law_529 530 rfl (nI_1 i) ?_
  refine zv_sld C hA hX hsc dL_law_530 531 rfl (i + 1) rfl (by omega) hL (v := (nI p)) e1 ?_
  refine zv_callV (rest := []) (wr := ((cR cI cZ q h k (nI (b + 1)) y (nI n) r f0 f1 f2 f3 f4 f5 f6 f7 f8 f9 f10 f11 f12 f13 (nI n1) r1 g0 g1 g2 g3 g4 g5 g6 g7 g8 g9 g10 g11 g12 g13 (upd bp b (nI p)) (upd bn b (f9 p))) ++ [(o, .inl (cJ, 1, .inr (.inl uo_1)))])) C (k_X2_build_ok l D cI cZ mh t n r y b m0 m1 m2 m3 m4 m5 m6 m7 m8 m9 m10 m11 m12 m13 p f1 d hI.n16 hI.depM (by first | assumption | omega) (by first | assumption | omega)) (cwV 1 C.1.2.2.2.2 gL_law_X2_build rfl rfl rfl (by decide +kernel) ⟨Nat.le_of_ble_eq_true rfl, Nat.le_of_ble_eq_true rfl⟩) dL_law_531 534 rfl (ci := 2) 0 rfl rfl rfl rfl (Nat.le_of_ble_eq_true rfl) ⟨(by show kc + 0 ≤ 601024; omega), (by show ns + 0 ≤ 7293034; omega)⟩ [0, 1] rfl [33, 34, 35, 36, 37, 38, 39, 40, 41, 42, 43, 44, 45, 46, 47] rfl (by decide) [0, 1, 2, 3, 4, 5, 6, 7, 8, 9, 10, 11, 12, 13, 14, 15, 16, 17, 18, 19, 20, 21, 22, 23, 24, 25, 26, 27, 28, 29, 30, 31, 32, 48] rfl (by decide) (by decide +kernel) (fun v w hv => ?_)
  obtain ⟨eg8_2, eg9_2, eg10_2, eg11_2, eg7_2, rfl, rfl, hm1⟩ := hv
  refine zv_go rfl rfl (st' := [.int (nI b)]) rfl (kc' := kc) rfl (ns' := ns) rfl ?_
  refine zv_perm [0, 1, 2, 3, 4, 5, 6, 7, 8, 9, 10, 11, 12, 13, 14, 15, 16, 17, 18, 19, 20, 21, 22, 23, 24, 25, 26, 27, 28, 29, 30, 31, 32, 34, 35, 36, 37, 38, 39, 40, 41, 42, 43, 44, 45, 46, 47, 48, 33] (ws' := ((cR cI cZ q h k (nI (b + 1)) y (nI n) r f0 f1 f2 f3 f4 f5 f6 f7 f8 f9 f10 f11 f12 f13 (nI n1) r1 g0 g1 g2 g3 g4 g5 g6 g7 g8 g9 g10 g11 g12 g13 (upd bp b (nI p)) (upd bn b (f9 p))) ++ ((cM cI cZ mh 0 (nI n) r y (nI (b + 1)) m0 m1 m2 m3 m4 m5 (upd m6 b (nI p)) eg7_2 eg8_2 eg9_2 eg10_2 eg11_2 m12 m13) ++ [(o, .inl (cJ, 1, .inr (.inl uo_1)))]))) (by decide) rfl ?_
  refine zv_istore C dL_law_534 536 rfl [(6, .int (nI b)), (5, .int 0), (0, .ref sc), (1, .ref (q 0)), (2, .ref (mh 0)), (3, .ref o), (4, .int (nI i))] (by decide) rfl ?_
  refine zv_aload_n C dL_law_536 537 rfl 4 rfl ?_
  refine zv_callVR (rest := []) C (k_X2_thrown l D cI cZ mh 0 n r y (b + 1) m0 m1 m2 m3 m4 m5 (upd m6 b (nI p)) eg7_2 eg8_2 eg9_2 eg10_2 eg11_2 m12 m13 ) (cwV 0 C.1.2.2.2.2 gL_law_X2_thrown rfl rfl rfl (by decide +kernel) ⟨Nat.le_of_ble_eq_true rfl, Nat.le_of_ble_eq_true rfl⟩) dL_law_537 540 rfl (ci := 2) 0 rfl rfl rfl rfl (Nat.le_of_ble_eq_true rfl) ⟨(by show kc + 0 ≤ 601024; omega), (by show ns + 0 ≤ 7293034; omega)⟩ [0, 1] rfl [33, 34, 35, 36, 37, 38, 39, 40, 41, 42, 43, 44, 45, 46, 47] rfl (by decide) (fun v hv => ?_)
  subst hv
  refine zv_go rfl rfl (st' := [.int 0]) rfl (kc' := kc) rfl (ns' := ns) rfl ?_
  refine zv_iload C dL_law_540 542 rfl 1 rfl ?_
  refine zv_icmp_eq C dL_law_542 545 547 rfl (by decide) (fun _ => ?_) (fun q => absurd (by decide) q)
  refine zv_iload C dL_law_547 549 rfl 1 rfl ?_
  refine zv_if_ne C dL_law_549 552 564 rfl (by decide) (fun q => absurd (by decide) q) (fun _ => ?_)
  refine zv_aload_n C dL_law_552 553 rfl 5 rfl ?_
  refine zv_iconst (v := 0) C dL_law_553 554 rfl (by decide) ?_
  refine zv_lald (v := (uo_1 0)) C dL_law_554 555 rfl 48 2 0 rfl rfl (by decide) (by decide) (by decide) rfl ?_
  refine zv_iload C dL_law_555 557 rfl 0 rfl ?_
  refine zv_i2l C dL_law_557 558 rfl ?_
  refine zv_lcmpE C dL_law_558 559 rfl (hu.trans (congrArg Int32.toInt64 rfl)) ?_
  refine zv_if_eq C dL_law_559 562 564 rfl (by decide) (fun _ => ?_) (fun q => absurd (by decide) q)
  refine zv_goto C dL_law_564 1966 (by decide) ?_
  refine zv_widen (k' := kc + 17) (n' := ns + 168) (by omega) (by omega) ?_
  refine zv_sub [2, 3, 4, 5, 6] (lv' := [(0, .ref sc), (1, .ref (q 0)), (2, .ref (mh 0)), (3, .ref o), (4, .int (nI i))]) rfl ?_
  exact K n (b + 1) y r 0 d f0 f1 f2 f3 f4 f5 f6 f7 f8 f9 f10 f11 f12 f13 n1 r1 g0 g1 g2 g3 g4 g5 g6 g7 g8 g9 g10 g11 g12 g13 (upd bp b (nI p)) (upd bn b (f9 p)) uo_1 m0 m1 m2 m3 m4 m5 (upd m6 b (nI p)) eg7_2 eg8_2 eg9_2 eg10_2 eg11_2 m12 m13 (by subst hm1; exact hI.build hp h16)
set_option maxHeartbeats 4000000 in
set_option maxRecDepth 100000 in
theorem lc_year {pP : Program} {l : Launch} {eE : Env} {sS : State} {mM : MethodId} {aA : Array Value} {bB : List Frame} {mT : Method} {cD : Code} {Q : State → Prop} {D : va_G} {cI cZ cJ : ClassId} {A : Nat → Prop} {sc L : Nat} {xs : Nat → Int32} {q h k mh : Nat → Nat} {o i kc ns : Nat} {n b : Nat} {y r t : Int32} {d : Nat → Nat} {f0 f1 f2 f3 f4 f5 f6 f7 f8 f9 f10 f11 f12 f13 : Nat → Int32} {n1 : Nat} {r1 : Int32} {g0 g1 g2 g3 g4 g5 g6 g7 g8 g9 g10 g11 g12 g13 bp bn : Nat → Int32} {u : Nat → Int64} {m0 m1 m2 m3 m4 m5 m6 m7 m8 m9 m10 m11 m12 m13 : Nat → Int32} (hl : l.stackTraces = false) (C : zv_C pP mM cD cL_law 9 sS aA wsL_law "RiverNamesLaw" A) (hA : A = fun q => sS.heap.size ≤ q) (hE : zx_E sS) (hX : va_X sc L xs sS sS.heap) (hsc : sc < sS.heap.size) (hi : i + 4 ≤ L) (hL : L ≤ 2048) (hkc : kc + 17 ≤ 601024) (hns : ns + 168 ≤ 7293034) (hI : LI n b r d f0 f1 f2 f3 f4 f5 f6 f7 f8 f9 f10 f11 f12 f13 bp bn m0 m1 m2 m3 m4 m5 m6 m7) (K : LK pP l eE sS mM aA bB mT cD Q D cI cZ cJ A sc q h k mh o i kc ns)  : zv_V pP l eE room_1 sS mM aA bB mT cD Q 9 D vwCl A A (tyJ cI cZ cJ) ((cR cI cZ q h k (nI b) y (nI n) r f0 f1 f2 f3 f4 f5 f6 f7 f8 f9 f10 f11 f12 f13 (nI n1) r1 g0 g1 g2 g3 g4 g5 g6 g7 g8 g9 g10 g11 g12 g13 bp bn) ++ ((cM cI cZ mh t (nI n) r y (nI b) m0 m1 m2 m3 m4 m5 m6 m7 m8 m9 m10 m11 m12 m13) ++ [(o, .inl (cJ, 1, .inr (.inl u)))])) kc ns 623 [(0, .ref sc), (1, .ref (q 0)), (2, .ref (mh 0)), (3, .ref o), (4, .int (nI i))] [] := by
  refine zv_aload_n C dL_law_623 624 rfl 1 rfl ?_
  refine zv_callVR (rest := []) C (k_X1_year l D cI cZ q h k b y n r f0 f1 f2 f3 f4 f5 f6 f7 f8 f9 f10 f11 f12 f13 n1 r1 g0 g1 g2 g3 g4 g5 g6 g7 g8 g9 g10 g11 g12 g13 bp bn ) (cwV 0 C.1.2.2.2.2 gL_law_X1_year rfl rfl rfl (by decide +kernel) ⟨Nat.le_of_ble_eq_true rfl, Nat.le_of_ble_eq_true rfl⟩) dL_law_624 627 rfl (ci := 1) 0 rfl rfl rfl rfl (Nat.le_of_ble_eq_true rfl) ⟨(by show kc + 0 ≤ 601024; omega), (by show ns + 0 ≤ 7293034; omega)⟩ [0, 1] rfl [0, 1, 2, 3, 4, 5, 6, 7, 8, 9, 10, 11, 12, 13, 14, 15, 16, 17, 18, 19, 20, 21, 22, 23, 24, 25, 26, 27, 28, 29, 30, 31, 32] rfl (by decide) (fun v hv => ?_)
  subst hv
  refine zv_go rfl rfl (st' := [.int y]) rfl (kc' := kc) rfl (ns' := ns) rfl ?_
  refine zv_aload_n C dL_law_627 628 rfl 2 rfl ?_
  refine zv_callV (rest := [.int y]) (wr := ((cR cI cZ q h k (nI b) y (nI n) r f0 f1 f2 f3 f4 f5 f6 f7 f8 f9 f10 f11 f12 f13 (nI n1) r1 g0 g1 g2 g3 g4 g5 g6 g7 g8 g9 g10 g11 g12 g13 bp bn) ++ [(o, .inl (cJ, 1, .inr (.inl u)))])) C (k_X2_year l D cI cZ mh t n r y b m0 m1 m2 m3 m4 m5 m6 m7 m8 m9 m10 m11 m12 m13 ) (cwV 0 C.1.2.2.2.2 gL_law_X2_year rfl rfl rfl (by decide +kernel) ⟨Nat.le_of_ble_eq_true rfl, Nat.le_of_ble_eq_true rfl⟩) dL_law_628 631 rfl (ci := 2) 0 rfl rfl rfl rfl (Nat.le_of_ble_eq_true rfl) ⟨(by show kc + 0 ≤ 601024; omega), (by show ns + 0 ≤ 7293034; omega)⟩ [0, 1] rfl [33, 34, 35, 36, 37, 38, 39, 40, 41, 42, 43, 44, 45, 46, 47] rfl (by decide) [0, 1, 2, 3, 4, 5, 6, 7, 8, 9, 10, 11, 12, 13, 14, 15, 16, 17, 18, 19, 20, 21, 22, 23, 24, 25, 26, 27, 28, 29, 30, 31, 32, 48] rfl (by decide) (by decide +kernel) (fun v w hv => ?_)
  obtain ⟨rfl, rfl⟩ := hv
  refine zv_go rfl rfl (st' := [.int y, .int y]) rfl (kc' := kc) rfl (ns' := ns) rfl ?_
  refine zv_perm [0, 1, 2, 3, 4, 5, 6, 7, 8, 9, 10, 11, 12, 13, 14, 15, 16, 17, 18, 19, 20, 21, 22, 23, 24, 25, 26, 27, 28, 29, 30, 31, 32, 34, 35, 36, 37, 38, 39, 40, 41, 42, 43, 44, 45, 46, 47, 48, 33] (ws' := ((cR cI cZ q h k (nI b) y (nI n) r f0 f1 f2 f3 f4 f5 f6 f7 f8 f9 f10 f11 f12 f13 (nI n1) r1 g0 g1 g2 g3 g4 g5 g6 g7 g8 g9 g10 g11 g12 g13 bp bn) ++ ((cM cI cZ mh 0 (nI n) r y (nI b) m0 m1 m2 m3 m4 m5 m6 m7 m8 m9 m10 m11 m12 m13) ++ [(o, .inl (cJ, 1, .inr (.inl u)))]))) (by decide) rfl ?_
  refine zv_icmp_eq C dL_law_631 634 1966 rfl (by decide) (fun c1 => ?_) (fun c1 => ?_)
  · refine zv_widen (k' := kc + 17) (n' := ns + 168) (by omega) (by omega) ?_
    refine zv_sub [0, 1, 2, 3, 4] (lv' := [(0, .ref sc), (1, .ref (q 0)), (2, .ref (mh 0)), (3, .ref o), (4, .int (nI i))]) rfl ?_
    exact K n b y r 0 d f0 f1 f2 f3 f4 f5 f6 f7 f8 f9 f10 f11 f12 f13 n1 r1 g0 g1 g2 g3 g4 g5 g6 g7 g8 g9 g10 g11 g12 g13 bp bn u m0 m1 m2 m3 m4 m5 m6 m7 m8 m9 m10 m11 m12 m13 hI
  · exact absurd rfl c1
set_option maxHeartbeats 4000000 in
set_option maxRecDepth 100000 in
theorem lc_places {pP : Program} {l : Launch} {eE : Env} {sS : State} {mM : MethodId} {aA : Array Value} {bB : List Frame} {mT : Method} {cD : Code} {Q : State → Prop} {D : va_G} {cI cZ cJ : ClassId} {A : Nat → Prop} {sc L : Nat} {xs : Nat → Int32} {q h k mh : Nat → Nat} {o i kc ns : Nat} {n b : Nat} {y r t : Int32} {d : Nat → Nat} {f0 f1 f2 f3 f4 f5 f6 f7 f8 f9 f10 f11 f12 f13 : Nat → Int32} {n1 : Nat} {r1 : Int32} {g0 g1 g2 g3 g4 g5 g6 g7 g8 g9 g10 g11 g12 g13 bp bn : Nat → Int32} {u : Nat → Int64} {m0 m1 m2 m3 m4 m5 m6 m7 m8 m9 m10 m11 m12 m13 : Nat → Int32} (hl : l.stackTraces = false) (C : zv_C pP mM cD cL_law 9 sS aA wsL_law "RiverNamesLaw" A) (hA : A = fun q => sS.heap.size ≤ q) (hE : zx_E sS) (hX : va_X sc L xs sS sS.heap) (hsc : sc < sS.heap.size) (hi : i + 4 ≤ L) (hL : L ≤ 2048) (hkc : kc + 17 ≤ 601024) (hns : ns + 168 ≤ 7293034) (hI : LI n b r d f0 f1 f2 f3 f4 f5 f6 f7 f8 f9 f10 f11 f12 f13 bp bn m0 m1 m2 m3 m4 m5 m6 m7) (K : LK pP l eE sS mM aA bB mT cD Q D cI cZ cJ A sc q h k mh o i kc ns)  : zv_V pP l eE room_1 sS mM aA bB mT cD Q 9 D vwCl A A (tyJ cI cZ cJ) ((cR cI cZ q h k (nI b) y (nI n) r f0 f1 f2 f3 f4 f5 f6 f7 f8 f9 f10 f11 f12 f13 (nI n1) r1 g0 g1 g2 g3 g4 g5 g6 g7 g8 g9 g10 g11 g12 g13 bp bn) ++ ((cM cI cZ mh t (nI n) r y (nI b) m0 m1 m2 m3 m4 m5 m6 m7 m8 m9 m10 m11 m12 m13) ++ [(o, .inl (cJ, 1, .inr (.inl u)))])) kc ns 636 [(0, .ref sc), (1, .ref (q 0)), (2, .ref (mh 0)), (3, .ref o), (4, .int (nI i))] [] := by
  refine zv_aload_n C dL_law_636 637 rfl 1 rfl ?_
  refine zv_callVR (rest := []) C (k_X1_places l D cI cZ q h k b y n r f0 f1 f2 f3 f4 f5 f6 f7 f8 f9 f10 f11 f12 f13 n1 r1 g0 g1 g2 g3 g4 g5 g6 g7 g8 g9 g10 g11 g12 g13 bp bn ) (cwV 0 C.1.2.2.2.2 gL_law_X1_places rfl rfl rfl (by decide +kernel) ⟨Nat.le_of_ble_eq_true rfl, Nat.le_of_ble_eq_true rfl⟩) dL_law_637 640 rfl (ci := 1) 0 rfl rfl rfl rfl (Nat.le_of_ble_eq_true rfl) ⟨(by show kc + 0 ≤ 601024; omega), (by show ns + 0 ≤ 7293034; omega)⟩ [0, 1] rfl [0, 1, 2, 3, 4, 5, 6, 7, 8, 9, 10, 11, 12, 13, 14, 15, 16, 17, 18, 19, 20, 21, 22, 23, 24, 25, 26, 27, 28, 29, 30, 31, 32] rfl (by decide) (fun v hv => ?_)
  subst hv
  refine zv_go rfl rfl (st' := [.int (nI n)]) rfl (kc' := kc) rfl (ns' := ns) rfl ?_
  refine zv_aload_n C dL_law_640 641 rfl 2 rfl ?_
  refine zv_callV (rest := [.int (nI n)]) (wr := ((cR cI cZ q h k (nI b) y (nI n) r f0 f1 f2 f3 f4 f5 f6 f7 f8 f9 f10 f11 f12 f13 (nI n1) r1 g0 g1 g2 g3 g4 g5 g6 g7 g8 g9 g10 g11 g12 g13 bp bn) ++ [(o, .inl (cJ, 1, .inr (.inl u)))])) C (k_X2_places l D cI cZ mh t n r y b m0 m1 m2 m3 m4 m5 m6 m7 m8 m9 m10 m11 m12 m13 ) (cwV 0 C.1.2.2.2.2 gL_law_X2_places rfl rfl rfl (by decide +kernel) ⟨Nat.le_of_ble_eq_true rfl, Nat.le_of_ble_eq_true rfl⟩) dL_law_641 644 rfl (ci := 2) 0 rfl rfl rfl rfl (Nat.le_of_ble_eq_true rfl) ⟨(by show kc + 0 ≤ 601024; omega), (by show ns + 0 ≤ 7293034; omega)⟩ [0, 1] rfl [33, 34, 35, 36, 37, 38, 39, 40, 41, 42, 43, 44, 45, 46, 47] rfl (by decide) [0, 1, 2, 3, 4, 5, 6, 7, 8, 9, 10, 11, 12, 13, 14, 15, 16, 17, 18, 19, 20, 21, 22, 23, 24, 25, 26, 27, 28, 29, 30, 31, 32, 48] rfl (by decide) (by decide +kernel) (fun v w hv => ?_)
  obtain ⟨rfl, rfl⟩ := hv
  refine zv_go rfl rfl (st' := [.int (nI n), .int (nI n)]) rfl (kc' := kc) rfl (ns' := ns) rfl ?_
  refine zv_perm [0, 1, 2, 3, 4, 5, 6, 7, 8, 9, 10, 11, 12, 13, 14, 15, 16, 17, 18, 19, 20, 21, 22, 23, 24, 25, 26, 27, 28, 29, 30, 31, 32, 34, 35, 36, 37, 38, 39, 40, 41, 42, 43, 44, 45, 46, 47, 48, 33] (ws' := ((cR cI cZ q h k (nI b) y (nI n) r f0 f1 f2 f3 f4 f5 f6 f7 f8 f9 f10 f11 f12 f13 (nI n1) r1 g0 g1 g2 g3 g4 g5 g6 g7 g8 g9 g10 g11 g12 g13 bp bn) ++ ((cM cI cZ mh 0 (nI n) r y (nI b) m0 m1 m2 m3 m4 m5 m6 m7 m8 m9 m10 m11 m12 m13) ++ [(o, .inl (cJ, 1, .inr (.inl u)))]))) (by decide) rfl ?_
  refine zv_icmp_eq C dL_law_644 647 1966 rfl (by decide) (fun c1 => ?_) (fun c1 => ?_)
  · refine zv_widen (k' := kc + 17) (n' := ns + 168) (by omega) (by omega) ?_
    refine zv_sub [0, 1, 2, 3, 4] (lv' := [(0, .ref sc), (1, .ref (q 0)), (2, .ref (mh 0)), (3, .ref o), (4, .int (nI i))]) rfl ?_
    exact K n b y r 0 d f0 f1 f2 f3 f4 f5 f6 f7 f8 f9 f10 f11 f12 f13 n1 r1 g0 g1 g2 g3 g4 g5 g6 g7 g8 g9 g10 g11 g12 g13 bp bn u m0 m1 m2 m3 m4 m5 m6 m7 m8 m9 m10 m11 m12 m13 hI
  · exact absurd rfl c1
set_option maxHeartbeats 4000000 in
set_option maxRecDepth 100000 in
theorem lc_bridges {pP : Program} {l : Launch} {eE : Env} {sS : State} {mM : MethodId} {aA : Array Value} {bB : List Frame} {mT : Method} {cD : Code} {Q : State → Prop} {D : va_G} {cI cZ cJ : ClassId} {A : Nat → Prop} {sc L : Nat} {xs : Nat → Int32} {q h k mh : Nat → Nat} {o i kc ns : Nat} {n b : Nat} {y r t : Int32} {d : Nat → Nat} {f0 f1 f2 f3 f4 f5 f6 f7 f8 f9 f10 f11 f12 f13 : Nat → Int32} {n1 : Nat} {r1 : Int32} {g0 g1 g2 g3 g4 g5 g6 g7 g8 g9 g10 g11 g12 g13 bp bn : Nat → Int32} {u : Nat → Int64} {m0 m1 m2 m3 m4 m5 m6 m7 m8 m9 m10 m11 m12 m13 : Nat → Int32} (hl : l.stackTraces = false) (C : zv_C pP mM cD cL_law 9 sS aA wsL_law "RiverNamesLaw" A) (hA : A = fun q => sS.heap.size ≤ q) (hE : zx_E sS) (hX : va_X sc L xs sS sS.heap) (hsc : sc < sS.heap.size) (hi : i + 4 ≤ L) (hL : L ≤ 2048) (hkc : kc + 17 ≤ 601024) (hns : ns + 168 ≤ 7293034) (hI : LI n b r d f0 f1 f2 f3 f4 f5 f6 f7 f8 f9 f10 f11 f12 f13 bp bn m0 m1 m2 m3 m4 m5 m6 m7) (K : LK pP l eE sS mM aA bB mT cD Q D cI cZ cJ A sc q h k mh o i kc ns)  : zv_V pP l eE room_1 sS mM aA bB mT cD Q 9 D vwCl A A (tyJ cI cZ cJ) ((cR cI cZ q h k (nI b) y (nI n) r f0 f1 f2 f3 f4 f5 f6 f7 f8 f9 f10 f11 f12 f13 (nI n1) r1 g0 g1 g2 g3 g4 g5 g6 g7 g8 g9 g10 g11 g12 g13 bp bn) ++ ((cM cI cZ mh t (nI n) r y (nI b) m0 m1 m2 m3 m4 m5 m6 m7 m8 m9 m10 m11 m12 m13) ++ [(o, .inl (cJ, 1, .inr (.inl u)))])) kc ns 1448 [(0, .ref sc), (1, .ref (q 0)), (2, .ref (mh 0)), (3, .ref o), (4, .int (nI i))] [] := by
  refine zv_aload_n C dL_law_1448 1449 rfl 1 rfl ?_
  refine zv_callVR (rest := []) C (k_X1_bridges l D cI cZ q h k b y n r f0 f1 f2 f3 f4 f5 f6 f7 f8 f9 f10 f11 f12 f13 n1 r1 g0 g1 g2 g3 g4 g5 g6 g7 g8 g9 g10 g11 g12 g13 bp bn ) (cwV 0 C.1.2.2.2.2 gL_law_X1_bridges rfl rfl rfl (by decide +kernel) ⟨Nat.le_of_ble_eq_true rfl, Nat.le_of_ble_eq_true rfl⟩) dL_law_1449 1452 rfl (ci := 1) 0 rfl rfl rfl rfl (Nat.le_of_ble_eq_true rfl) ⟨(by show kc + 0 ≤ 601024; omega), (by show ns + 0 ≤ 7293034; omega)⟩ [0, 1] rfl [0, 1, 2, 3, 4, 5, 6, 7, 8, 9, 10, 11, 12, 13, 14, 15, 16, 17, 18, 19, 20, 21, 22, 23, 24, 25, 26, 27, 28, 29, 30, 31, 32] rfl (by decide) (fun v hv => ?_)
  subst hv
  refine zv_go rfl rfl (st' := [.int (nI b)]) rfl (kc' := kc) rfl (ns' := ns) rfl ?_
  refine zv_aload_n C dL_law_1452 1453 rfl 2 rfl ?_
  refine zv_callV (rest := [.int (nI b)]) (wr := ((cR cI cZ q h k (nI b) y (nI n) r f0 f1 f2 f3 f4 f5 f6 f7 f8 f9 f10 f11 f12 f13 (nI n1) r1 g0 g1 g2 g3 g4 g5 g6 g7 g8 g9 g10 g11 g12 g13 bp bn) ++ [(o, .inl (cJ, 1, .inr (.inl u)))])) C (k_X2_bridges l D cI cZ mh t n r y b m0 m1 m2 m3 m4 m5 m6 m7 m8 m9 m10 m11 m12 m13 ) (cwV 0 C.1.2.2.2.2 gL_law_X2_bridges rfl rfl rfl (by decide +kernel) ⟨Nat.le_of_ble_eq_true rfl, Nat.le_of_ble_eq_true rfl⟩) dL_law_1453 1456 rfl (ci := 2) 0 rfl rfl rfl rfl (Nat.le_of_ble_eq_true rfl) ⟨(by show kc + 0 ≤ 601024; omega), (by show ns + 0 ≤ 7293034; omega)⟩ [0, 1] rfl [33, 34, 35, 36, 37, 38, 39, 40, 41, 42, 43, 44, 45, 46, 47] rfl (by decide) [0, 1, 2, 3, 4, 5, 6, 7, 8, 9, 10, 11, 12, 13, 14, 15, 16, 17, 18, 19, 20, 21, 22, 23, 24, 25, 26, 27, 28, 29, 30, 31, 32, 48] rfl (by decide) (by decide +kernel) (fun v w hv => ?_)
  obtain ⟨rfl, rfl⟩ := hv
  refine zv_go rfl rfl (st' := [.int (nI b), .int (nI b)]) rfl (kc' := kc) rfl (ns' := ns) rfl ?_
  refine zv_perm [0, 1, 2, 3, 4, 5, 6, 7, 8, 9, 10, 11, 12, 13, 14, 15, 16, 17, 18, 19, 20, 21, 22, 23, 24, 25, 26, 27, 28, 29, 30, 31, 32, 34, 35, 36, 37, 38, 39, 40, 41, 42, 43, 44, 45, 46, 47, 48, 33] (ws' := ((cR cI cZ q h k (nI b) y (nI n) r f0 f1 f2 f3 f4 f5 f6 f7 f8 f9 f10 f11 f12 f13 (nI n1) r1 g0 g1 g2 g3 g4 g5 g6 g7 g8 g9 g10 g11 g12 g13 bp bn) ++ ((cM cI cZ mh 0 (nI n) r y (nI b) m0 m1 m2 m3 m4 m5 m6 m7 m8 m9 m10 m11 m12 m13) ++ [(o, .inl (cJ, 1, .inr (.inl u)))]))) (by decide) rfl ?_
  refine zv_icmp_eq C dL_law_1456 1459 1966 rfl (by decide) (fun c1 => ?_) (fun c1 => ?_)
  · refine zv_widen (k' := kc + 17) (n' := ns + 168) (by omega) (by omega) ?_
    refine zv_sub [0, 1, 2, 3, 4] (lv' := [(0, .ref sc), (1, .ref (q 0)), (2, .ref (mh 0)), (3, .ref o), (4, .int (nI i))]) rfl ?_
    exact K n b y r 0 d f0 f1 f2 f3 f4 f5 f6 f7 f8 f9 f10 f11 f12 f13 n1 r1 g0 g1 g2 g3 g4 g5 g6 g7 g8 g9 g10 g11 g12 g13 bp bn u m0 m1 m2 m3 m4 m5 m6 m7 m8 m9 m10 m11 m12 m13 hI
  · exact absurd rfl c1
set_option maxHeartbeats 4000000 in
set_option maxRecDepth 100000 in
theorem lc_greatestName {pP : Program} {l : Launch} {eE : Env} {sS : State} {mM : MethodId} {aA : Array Value} {bB : List Frame} {mT : Method} {cD : Code} {Q : State → Prop} {D : va_G} {cI cZ cJ : ClassId} {A : Nat → Prop} {sc L : Nat} {xs : Nat → Int32} {q h k mh : Nat → Nat} {o i kc ns : Nat} {n b : Nat} {y r t : Int32} {d : Nat → Nat} {f0 f1 f2 f3 f4 f5 f6 f7 f8 f9 f10 f11 f12 f13 : Nat → Int32} {n1 : Nat} {r1 : Int32} {g0 g1 g2 g3 g4 g5 g6 g7 g8 g9 g10 g11 g12 g13 bp bn : Nat → Int32} {u : Nat → Int64} {m0 m1 m2 m3 m4 m5 m6 m7 m8 m9 m10 m11 m12 m13 : Nat → Int32} (hl : l.stackTraces = false) (C : zv_C pP mM cD cL_law 9 sS aA wsL_law "RiverNamesLaw" A) (hA : A = fun q => sS.heap.size ≤ q) (hE : zx_E sS) (hX : va_X sc L xs sS sS.heap) (hsc : sc < sS.heap.size) (hi : i + 4 ≤ L) (hL : L ≤ 2048) (hkc : kc + 17 ≤ 601024) (hns : ns + 168 ≤ 7293034) (hI : LI n b r d f0 f1 f2 f3 f4 f5 f6 f7 f8 f9 f10 f11 f12 f13 bp bn m0 m1 m2 m3 m4 m5 m6 m7) (K : LK pP l eE sS mM aA bB mT cD Q D cI cZ cJ A sc q h k mh o i kc ns)  : zv_V pP l eE room_1 sS mM aA bB mT cD Q 9 D vwCl A A (tyJ cI cZ cJ) ((cR cI cZ q h k (nI b) y (nI n) r f0 f1 f2 f3 f4 f5 f6 f7 f8 f9 f10 f11 f12 f13 (nI n1) r1 g0 g1 g2 g3 g4 g5 g6 g7 g8 g9 g10 g11 g12 g13 bp bn) ++ ((cM cI cZ mh t (nI n) r y (nI b) m0 m1 m2 m3 m4 m5 m6 m7 m8 m9 m10 m11 m12 m13) ++ [(o, .inl (cJ, 1, .inr (.inl u)))])) kc ns 1422 [(0, .ref sc), (1, .ref (q 0)), (2, .ref (mh 0)), (3, .ref o), (4, .int (nI i))] [] := by
  refine zv_aload_n C dL_law_1422 1423 rfl 1 rfl ?_
  refine zv_callVR (rest := []) C (k_X1_greatestName l D cI cZ q h k b y n r f0 f1 f2 f3 f4 f5 f6 f7 f8 f9 f10 f11 f12 f13 n1 r1 g0 g1 g2 g3 g4 g5 g6 g7 g8 g9 g10 g11 g12 g13 bp bn hI.n16) (cwV 0 C.1.2.2.2.2 gL_law_X1_greatestName rfl rfl rfl (by decide +kernel) ⟨Nat.le_of_ble_eq_true rfl, Nat.le_of_ble_eq_true rfl⟩) dL_law_1423 1426 rfl (ci := 1) 0 rfl rfl rfl rfl (Nat.le_of_ble_eq_true rfl) ⟨(by show kc + 0 ≤ 601024; omega), (by show ns + 0 ≤ 7293034; omega)⟩ [0, 1] rfl [0, 1, 2, 3, 4, 5, 6, 7, 8, 9, 10, 11, 12, 13, 14, 15, 16, 17, 18, 19, 20, 21, 22, 23, 24, 25, 26, 27, 28, 29, 30, 31, 32] rfl (by decide) (fun v hv => ?_)
  subst hv
  refine zv_go rfl rfl (st' := [.int (gst f9 n 10)]) rfl (kc' := kc) rfl (ns' := ns) rfl ?_
  refine zv_aload_n C dL_law_1426 1427 rfl 2 rfl ?_
  refine zv_callV (rest := [.int (gst f9 n 10)]) (wr := ((cR cI cZ q h k (nI b) y (nI n) r f0 f1 f2 f3 f4 f5 f6 f7 f8 f9 f10 f11 f12 f13 (nI n1) r1 g0 g1 g2 g3 g4 g5 g6 g7 g8 g9 g10 g11 g12 g13 bp bn) ++ [(o, .inl (cJ, 1, .inr (.inl u)))])) C (k_X2_greatestName l D cI cZ mh t n r y b m0 m1 m2 m3 m4 m5 m6 m7 m8 m9 m10 m11 m12 m13 f1 d hI.n16 hI.depM) (cwV 0 C.1.2.2.2.2 gL_law_X2_greatestName rfl rfl rfl (by decide +kernel) ⟨Nat.le_of_ble_eq_true rfl, Nat.le_of_ble_eq_true rfl⟩) dL_law_1427 1430 rfl (ci := 2) 0 rfl rfl rfl rfl (Nat.le_of_ble_eq_true rfl) ⟨(by show kc + 0 ≤ 601024; omega), (by show ns + 0 ≤ 7293034; omega)⟩ [0, 1] rfl [33, 34, 35, 36, 37, 38, 39, 40, 41, 42, 43, 44, 45, 46, 47] rfl (by decide) [0, 1, 2, 3, 4, 5, 6, 7, 8, 9, 10, 11, 12, 13, 14, 15, 16, 17, 18, 19, 20, 21, 22, 23, 24, 25, 26, 27, 28, 29, 30, 31, 32, 48] rfl (by decide) (by decide +kernel) (fun v w hv => ?_)
  obtain ⟨eg8_2, eg9_2, eg10_2, eg11_2, rfl, rfl⟩ := hv
  refine zv_go rfl rfl (st' := [.int (gst (nmS n m0 m1 m2 m3 m5 r) n 10), .int (gst f9 n 10)]) rfl (kc' := kc) rfl (ns' := ns) rfl ?_
  refine zv_perm [0, 1, 2, 3, 4, 5, 6, 7, 8, 9, 10, 11, 12, 13, 14, 15, 16, 17, 18, 19, 20, 21, 22, 23, 24, 25, 26, 27, 28, 29, 30, 31, 32, 34, 35, 36, 37, 38, 39, 40, 41, 42, 43, 44, 45, 46, 47, 48, 33] (ws' := ((cR cI cZ q h k (nI b) y (nI n) r f0 f1 f2 f3 f4 f5 f6 f7 f8 f9 f10 f11 f12 f13 (nI n1) r1 g0 g1 g2 g3 g4 g5 g6 g7 g8 g9 g10 g11 g12 g13 bp bn) ++ ((cM cI cZ mh 0 (nI n) r y (nI b) m0 m1 m2 m3 m4 m5 m6 m7 eg8_2 eg9_2 eg10_2 eg11_2 m12 m13) ++ [(o, .inl (cJ, 1, .inr (.inl u)))]))) (by decide) rfl ?_
  refine zv_icmp_eq C dL_law_1430 1433 1966 rfl (by decide) (fun c1 => ?_) (fun c1 => ?_)
  · refine zv_widen (k' := kc + 17) (n' := ns + 168) (by omega) (by omega) ?_
    refine zv_sub [0, 1, 2, 3, 4] (lv' := [(0, .ref sc), (1, .ref (q 0)), (2, .ref (mh 0)), (3, .ref o), (4, .int (nI i))]) rfl ?_
    exact K n b y r 0 d f0 f1 f2 f3 f4 f5 f6 f7 f8 f9 f10 f11 f12 f13 n1 r1 g0 g1 g2 g3 g4 g5 g6 g7 g8 g9 g10 g11 g12 g13 bp bn u m0 m1 m2 m3 m4 m5 m6 m7 eg8_2 eg9_2 eg10_2 eg11_2 m12 m13 hI
  · exact absurd (hI.vGst 10) c1
set_option maxHeartbeats 4000000 in
set_option maxRecDepth 100000 in
theorem lc_nameless {pP : Program} {l : Launch} {eE : Env} {sS : State} {mM : MethodId} {aA : Array Value} {bB : List Frame} {mT : Method} {cD : Code} {Q : State → Prop} {D : va_G} {cI cZ cJ : ClassId} {A : Nat → Prop} {sc L : Nat} {xs : Nat → Int32} {q h k mh : Nat → Nat} {o i kc ns : Nat} {n b : Nat} {y r t : Int32} {d : Nat → Nat} {f0 f1 f2 f3 f4 f5 f6 f7 f8 f9 f10 f11 f12 f13 : Nat → Int32} {n1 : Nat} {r1 : Int32} {g0 g1 g2 g3 g4 g5 g6 g7 g8 g9 g10 g11 g12 g13 bp bn : Nat → Int32} {u : Nat → Int64} {m0 m1 m2 m3 m4 m5 m6 m7 m8 m9 m10 m11 m12 m13 : Nat → Int32} (hl : l.stackTraces = false) (C : zv_C pP mM cD cL_law 9 sS aA wsL_law "RiverNamesLaw" A) (hA : A = fun q => sS.heap.size ≤ q) (hE : zx_E sS) (hX : va_X sc L xs sS sS.heap) (hsc : sc < sS.heap.size) (hi : i + 4 ≤ L) (hL : L ≤ 2048) (hkc : kc + 17 ≤ 601024) (hns : ns + 168 ≤ 7293034) (hI : LI n b r d f0 f1 f2 f3 f4 f5 f6 f7 f8 f9 f10 f11 f12 f13 bp bn m0 m1 m2 m3 m4 m5 m6 m7) (K : LK pP l eE sS mM aA bB mT cD Q D cI cZ cJ A sc q h k mh o i kc ns)  : zv_V pP l eE room_1 sS mM aA bB mT cD Q 9 D vwCl A A (tyJ cI cZ cJ) ((cR cI cZ q h k (nI b) y (nI n) r f0 f1 f2 f3 f4 f5 f6 f7 f8 f9 f10 f11 f12 f13 (nI n1) r1 g0 g1 g2 g3 g4 g5 g6 g7 g8 g9 g10 g11 g12 g13 bp bn) ++ ((cM cI cZ mh t (nI n) r y (nI b) m0 m1 m2 m3 m4 m5 m6 m7 m8 m9 m10 m11 m12 m13) ++ [(o, .inl (cJ, 1, .inr (.inl u)))])) kc ns 1435 [(0, .ref sc), (1, .ref (q 0)), (2, .ref (mh 0)), (3, .ref o), (4, .int (nI i))] [] := by
  refine zv_aload_n C dL_law_1435 1436 rfl 1 rfl ?_
  refine zv_callVR (rest := []) C (k_X1_nameless l D cI cZ q h k b y n r f0 f1 f2 f3 f4 f5 f6 f7 f8 f9 f10 f11 f12 f13 n1 r1 g0 g1 g2 g3 g4 g5 g6 g7 g8 g9 g10 g11 g12 g13 bp bn hI.n16) (cwV 0 C.1.2.2.2.2 gL_law_X1_nameless rfl rfl rfl (by decide +kernel) ⟨Nat.le_of_ble_eq_true rfl, Nat.le_of_ble_eq_true rfl⟩) dL_law_1436 1439 rfl (ci := 1) 0 rfl rfl rfl rfl (Nat.le_of_ble_eq_true rfl) ⟨(by show kc + 0 ≤ 601024; omega), (by show ns + 0 ≤ 7293034; omega)⟩ [0, 1] rfl [0, 1, 2, 3, 4, 5, 6, 7, 8, 9, 10, 11, 12, 13, 14, 15, 16, 17, 18, 19, 20, 21, 22, 23, 24, 25, 26, 27, 28, 29, 30, 31, 32] rfl (by decide) (fun v hv => ?_)
  subst hv
  refine zv_go rfl rfl (st' := [.int (nI (cnt f9 (-1) n))]) rfl (kc' := kc) rfl (ns' := ns) rfl ?_
  refine zv_aload_n C dL_law_1439 1440 rfl 2 rfl ?_
  refine zv_callV (rest := [.int (nI (cnt f9 (-1) n))]) (wr := ((cR cI cZ q h k (nI b) y (nI n) r f0 f1 f2 f3 f4 f5 f6 f7 f8 f9 f10 f11 f12 f13 (nI n1) r1 g0 g1 g2 g3 g4 g5 g6 g7 g8 g9 g10 g11 g12 g13 bp bn) ++ [(o, .inl (cJ, 1, .inr (.inl u)))])) C (k_X2_nameless l D cI cZ mh t n r y b m0 m1 m2 m3 m4 m5 m6 m7 m8 m9 m10 m11 m12 m13 f1 d hI.n16 hI.depM) (cwV 0 C.1.2.2.2.2 gL_law_X2_nameless rfl rfl rfl (by decide +kernel) ⟨Nat.le_of_ble_eq_true rfl, Nat.le_of_ble_eq_true rfl⟩) dL_law_1440 1443 rfl (ci := 2) 0 rfl rfl rfl rfl (Nat.le_of_ble_eq_true rfl) ⟨(by show kc + 0 ≤ 601024; omega), (by show ns + 0 ≤ 7293034; omega)⟩ [0, 1] rfl [33, 34, 35, 36, 37, 38, 39, 40, 41, 42, 43, 44, 45, 46, 47] rfl (by decide) [0, 1, 2, 3, 4, 5, 6, 7, 8, 9, 10, 11, 12, 13, 14, 15, 16, 17, 18, 19, 20, 21, 22, 23, 24, 25, 26, 27, 28, 29, 30, 31, 32, 48] rfl (by decide) (by decide +kernel) (fun v w hv => ?_)
  obtain ⟨eg8_2, eg9_2, eg10_2, eg11_2, rfl, rfl⟩ := hv
  refine zv_go rfl rfl (st' := [.int (nI (cnt (nmS n m0 m1 m2 m3 m5 r) (-1) n)), .int (nI (cnt f9 (-1) n))]) rfl (kc' := kc) rfl (ns' := ns) rfl ?_
  refine zv_perm [0, 1, 2, 3, 4, 5, 6, 7, 8, 9, 10, 11, 12, 13, 14, 15, 16, 17, 18, 19, 20, 21, 22, 23, 24, 25, 26, 27, 28, 29, 30, 31, 32, 34, 35, 36, 37, 38, 39, 40, 41, 42, 43, 44, 45, 46, 47, 48, 33] (ws' := ((cR cI cZ q h k (nI b) y (nI n) r f0 f1 f2 f3 f4 f5 f6 f7 f8 f9 f10 f11 f12 f13 (nI n1) r1 g0 g1 g2 g3 g4 g5 g6 g7 g8 g9 g10 g11 g12 g13 bp bn) ++ ((cM cI cZ mh 0 (nI n) r y (nI b) m0 m1 m2 m3 m4 m5 m6 m7 eg8_2 eg9_2 eg10_2 eg11_2 m12 m13) ++ [(o, .inl (cJ, 1, .inr (.inl u)))]))) (by decide) rfl ?_
  refine zv_icmp_eq C dL_law_1443 1446 1966 rfl (by decide) (fun c1 => ?_) (fun c1 => ?_)
  · refine zv_widen (k' := kc + 17) (n' := ns + 168) (by omega) (by omega) ?_
    refine zv_sub [0, 1, 2, 3, 4] (lv' := [(0, .ref sc), (1, .ref (q 0)), (2, .ref (mh 0)), (3, .ref o), (4, .int (nI i))]) rfl ?_
    exact K n b y r 0 d f0 f1 f2 f3 f4 f5 f6 f7 f8 f9 f10 f11 f12 f13 n1 r1 g0 g1 g2 g3 g4 g5 g6 g7 g8 g9 g10 g11 g12 g13 bp bn u m0 m1 m2 m3 m4 m5 m6 m7 eg8_2 eg9_2 eg10_2 eg11_2 m12 m13 hI
  · exact absurd (congrArg nI (hI.vCnt (-1))) c1
set_option maxHeartbeats 4000000 in
set_option maxRecDepth 100000 in
theorem lc_insults {pP : Program} {l : Launch} {eE : Env} {sS : State} {mM : MethodId} {aA : Array Value} {bB : List Frame} {mT : Method} {cD : Code} {Q : State → Prop} {D : va_G} {cI cZ cJ : ClassId} {A : Nat → Prop} {sc L : Nat} {xs : Nat → Int32} {q h k mh : Nat → Nat} {o i kc ns : Nat} {n b : Nat} {y r t : Int32} {d : Nat → Nat} {f0 f1 f2 f3 f4 f5 f6 f7 f8 f9 f10 f11 f12 f13 : Nat → Int32} {n1 : Nat} {r1 : Int32} {g0 g1 g2 g3 g4 g5 g6 g7 g8 g9 g10 g11 g12 g13 bp bn : Nat → Int32} {u : Nat → Int64} {m0 m1 m2 m3 m4 m5 m6 m7 m8 m9 m10 m11 m12 m13 : Nat → Int32} (hl : l.stackTraces = false) (C : zv_C pP mM cD cL_law 9 sS aA wsL_law "RiverNamesLaw" A) (hA : A = fun q => sS.heap.size ≤ q) (hE : zx_E sS) (hX : va_X sc L xs sS sS.heap) (hsc : sc < sS.heap.size) (hi : i + 4 ≤ L) (hL : L ≤ 2048) (hkc : kc + 17 ≤ 601024) (hns : ns + 168 ≤ 7293034) (hI : LI n b r d f0 f1 f2 f3 f4 f5 f6 f7 f8 f9 f10 f11 f12 f13 bp bn m0 m1 m2 m3 m4 m5 m6 m7) (K : LK pP l eE sS mM aA bB mT cD Q D cI cZ cJ A sc q h k mh o i kc ns)  : zv_V pP l eE room_1 sS mM aA bB mT cD Q 9 D vwCl A A (tyJ cI cZ cJ) ((cR cI cZ q h k (nI b) y (nI n) r f0 f1 f2 f3 f4 f5 f6 f7 f8 f9 f10 f11 f12 f13 (nI n1) r1 g0 g1 g2 g3 g4 g5 g6 g7 g8 g9 g10 g11 g12 g13 bp bn) ++ ((cM cI cZ mh t (nI n) r y (nI b) m0 m1 m2 m3 m4 m5 m6 m7 m8 m9 m10 m11 m12 m13) ++ [(o, .inl (cJ, 1, .inr (.inl u)))])) kc ns 1636 [(0, .ref sc), (1, .ref (q 0)), (2, .ref (mh 0)), (3, .ref o), (4, .int (nI i))] [] := by
  refine zv_aload_n C dL_law_1636 1637 rfl 1 rfl ?_
  refine zv_callVR (rest := []) C (k_X1_insults l D cI cZ q h k b y n r f0 f1 f2 f3 f4 f5 f6 f7 f8 f9 f10 f11 f12 f13 n1 r1 g0 g1 g2 g3 g4 g5 g6 g7 g8 g9 g10 g11 g12 g13 bp bn hI.n16 hI.b16 hI.brg) (cwV 0 C.1.2.2.2.2 gL_law_X1_insults rfl rfl rfl (by decide +kernel) ⟨Nat.le_of_ble_eq_true rfl, Nat.le_of_ble_eq_true rfl⟩) dL_law_1637 1640 rfl (ci := 1) 0 rfl rfl rfl rfl (Nat.le_of_ble_eq_true rfl) ⟨(by show kc + 0 ≤ 601024; omega), (by show ns + 0 ≤ 7293034; omega)⟩ [0, 1] rfl [0, 1, 2, 3, 4, 5, 6, 7, 8, 9, 10, 11, 12, 13, 14, 15, 16, 17, 18, 19, 20, 21, 22, 23, 24, 25, 26, 27, 28, 29, 30, 31, 32] rfl (by decide) (fun v hv => ?_)
  subst hv
  refine zv_go rfl rfl (st' := [.int (nI (inN bp bn f9 b))]) rfl (kc' := kc) rfl (ns' := ns) rfl ?_
  refine zv_aload_n C dL_law_1640 1641 rfl 2 rfl ?_
  refine zv_callV (rest := [.int (nI (inN bp bn f9 b))]) (wr := ((cR cI cZ q h k (nI b) y (nI n) r f0 f1 f2 f3 f4 f5 f6 f7 f8 f9 f10 f11 f12 f13 (nI n1) r1 g0 g1 g2 g3 g4 g5 g6 g7 g8 g9 g10 g11 g12 g13 bp bn) ++ [(o, .inl (cJ, 1, .inr (.inl u)))])) C (k_X2_insults l D cI cZ mh t n r y b m0 m1 m2 m3 m4 m5 m6 m7 m8 m9 m10 m11 m12 m13 f1 d hI.n16 hI.depM hI.b16 hI.brgM) (cwV 0 C.1.2.2.2.2 gL_law_X2_insults rfl rfl rfl (by decide +kernel) ⟨Nat.le_of_ble_eq_true rfl, Nat.le_of_ble_eq_true rfl⟩) dL_law_1641 1644 rfl (ci := 2) 0 rfl rfl rfl rfl (Nat.le_of_ble_eq_true rfl) ⟨(by show kc + 0 ≤ 601024; omega), (by show ns + 0 ≤ 7293034; omega)⟩ [0, 1] rfl [33, 34, 35, 36, 37, 38, 39, 40, 41, 42, 43, 44, 45, 46, 47] rfl (by decide) [0, 1, 2, 3, 4, 5, 6, 7, 8, 9, 10, 11, 12, 13, 14, 15, 16, 17, 18, 19, 20, 21, 22, 23, 24, 25, 26, 27, 28, 29, 30, 31, 32, 48] rfl (by decide) (by decide +kernel) (fun v w hv => ?_)
  obtain ⟨eg8_2, eg9_2, eg10_2, eg11_2, rfl, rfl⟩ := hv
  refine zv_go rfl rfl (st' := [.int (nI (inN m6 m7 (nmS n m0 m1 m2 m3 m5 r) b)), .int (nI (inN bp bn f9 b))]) rfl (kc' := kc) rfl (ns' := ns) rfl ?_
  refine zv_perm [0, 1, 2, 3, 4, 5, 6, 7, 8, 9, 10, 11, 12, 13, 14, 15, 16, 17, 18, 19, 20, 21, 22, 23, 24, 25, 26, 27, 28, 29, 30, 31, 32, 34, 35, 36, 37, 38, 39, 40, 41, 42, 43, 44, 45, 46, 47, 48, 33] (ws' := ((cR cI cZ q h k (nI b) y (nI n) r f0 f1 f2 f3 f4 f5 f6 f7 f8 f9 f10 f11 f12 f13 (nI n1) r1 g0 g1 g2 g3 g4 g5 g6 g7 g8 g9 g10 g11 g12 g13 bp bn) ++ ((cM cI cZ mh 0 (nI n) r y (nI b) m0 m1 m2 m3 m4 m5 m6 m7 eg8_2 eg9_2 eg10_2 eg11_2 m12 m13) ++ [(o, .inl (cJ, 1, .inr (.inl u)))]))) (by decide) rfl ?_
  refine zv_icmp_eq C dL_law_1644 1647 1966 rfl (by decide) (fun c1 => ?_) (fun c1 => ?_)
  · refine zv_widen (k' := kc + 17) (n' := ns + 168) (by omega) (by omega) ?_
    refine zv_sub [0, 1, 2, 3, 4] (lv' := [(0, .ref sc), (1, .ref (q 0)), (2, .ref (mh 0)), (3, .ref o), (4, .int (nI i))]) rfl ?_
    exact K n b y r 0 d f0 f1 f2 f3 f4 f5 f6 f7 f8 f9 f10 f11 f12 f13 n1 r1 g0 g1 g2 g3 g4 g5 g6 g7 g8 g9 g10 g11 g12 g13 bp bn u m0 m1 m2 m3 m4 m5 m6 m7 eg8_2 eg9_2 eg10_2 eg11_2 m12 m13 hI
  · exact absurd (congrArg nI hI.vInN) c1
set_option maxHeartbeats 4000000 in
set_option maxRecDepth 100000 in
theorem lc_weightiestSpring {pP : Program} {l : Launch} {eE : Env} {sS : State} {mM : MethodId} {aA : Array Value} {bB : List Frame} {mT : Method} {cD : Code} {Q : State → Prop} {D : va_G} {cI cZ cJ : ClassId} {A : Nat → Prop} {sc L : Nat} {xs : Nat → Int32} {q h k mh : Nat → Nat} {o i kc ns : Nat} {n b : Nat} {y r t : Int32} {d : Nat → Nat} {f0 f1 f2 f3 f4 f5 f6 f7 f8 f9 f10 f11 f12 f13 : Nat → Int32} {n1 : Nat} {r1 : Int32} {g0 g1 g2 g3 g4 g5 g6 g7 g8 g9 g10 g11 g12 g13 bp bn : Nat → Int32} {u : Nat → Int64} {m0 m1 m2 m3 m4 m5 m6 m7 m8 m9 m10 m11 m12 m13 : Nat → Int32} (hl : l.stackTraces = false) (C : zv_C pP mM cD cL_law 9 sS aA wsL_law "RiverNamesLaw" A) (hA : A = fun q => sS.heap.size ≤ q) (hE : zx_E sS) (hX : va_X sc L xs sS sS.heap) (hsc : sc < sS.heap.size) (hi : i + 4 ≤ L) (hL : L ≤ 2048) (hkc : kc + 17 ≤ 601024) (hns : ns + 168 ≤ 7293034) (hI : LI n b r d f0 f1 f2 f3 f4 f5 f6 f7 f8 f9 f10 f11 f12 f13 bp bn m0 m1 m2 m3 m4 m5 m6 m7) (K : LK pP l eE sS mM aA bB mT cD Q D cI cZ cJ A sc q h k mh o i kc ns)  : zv_V pP l eE room_1 sS mM aA bB mT cD Q 9 D vwCl A A (tyJ cI cZ cJ) ((cR cI cZ q h k (nI b) y (nI n) r f0 f1 f2 f3 f4 f5 f6 f7 f8 f9 f10 f11 f12 f13 (nI n1) r1 g0 g1 g2 g3 g4 g5 g6 g7 g8 g9 g10 g11 g12 g13 bp bn) ++ ((cM cI cZ mh t (nI n) r y (nI b) m0 m1 m2 m3 m4 m5 m6 m7 m8 m9 m10 m11 m12 m13) ++ [(o, .inl (cJ, 1, .inr (.inl u)))])) kc ns 1829 [(0, .ref sc), (1, .ref (q 0)), (2, .ref (mh 0)), (3, .ref o), (4, .int (nI i))] [] := by
  refine zv_aload_n C dL_law_1829 1830 rfl 1 rfl ?_
  refine zv_callV (rest := []) (wr := ((cM cI cZ mh t (nI n) r y (nI b) m0 m1 m2 m3 m4 m5 m6 m7 m8 m9 m10 m11 m12 m13) ++ [(o, .inl (cJ, 1, .inr (.inl u)))])) C (k_X1_weightiestSpring l D cI cZ q h k b y n r f0 f1 f2 f3 f4 f5 f6 f7 f8 f9 f10 f11 f12 f13 n1 r1 g0 g1 g2 g3 g4 g5 g6 g7 g8 g9 g10 g11 g12 g13 bp bn d hI.n16 hI.dep hI.wat hI.stl hI.z2 hI.z6) (cwV 0 C.1.2.2.2.2 gL_law_X1_weightiestSpring rfl rfl rfl (by decide +kernel) ⟨Nat.le_of_ble_eq_true rfl, Nat.le_of_ble_eq_true rfl⟩) dL_law_1830 1833 rfl (ci := 1) 0 rfl rfl rfl rfl (Nat.le_of_ble_eq_true rfl) ⟨(by show kc + 0 ≤ 601024; omega), (by show ns + 0 ≤ 7293034; omega)⟩ [0, 1] rfl [0, 1, 2, 3, 4, 5, 6, 7, 8, 9, 10, 11, 12, 13, 14, 15, 16, 17, 18, 19, 20, 21, 22, 23, 24, 25, 26, 27, 28, 29, 30, 31, 32] rfl (by decide) [33, 34, 35, 36, 37, 38, 39, 40, 41, 42, 43, 44, 45, 46, 47, 48] rfl (by decide) (by decide +kernel) (fun v w hv => ?_)
  obtain ⟨tn_1, tr_1, tg_1, rfl, rfl⟩ := hv
  refine zv_go rfl rfl (st' := [.int ((wst (sprg f2 f4) (dry n f0 f2 f3 f4 f6 r) n).1)]) rfl (kc' := kc) rfl (ns' := ns) rfl ?_
  refine zv_perm [16, 17, 18, 19, 20, 21, 22, 23, 24, 25, 26, 27, 28, 29, 30, 31, 32, 33, 34, 35, 36, 37, 38, 39, 40, 41, 42, 43, 44, 45, 46, 47, 48, 0, 1, 2, 3, 4, 5, 6, 7, 8, 9, 10, 11, 12, 13, 14, 15] (ws' := ((cR cI cZ q h k (nI b) y (nI n) r f0 f1 f2 f3 f4 f5 f6 f7 f8 f9 f10 f11 f12 f13 (nI tn_1) tr_1 (tg_1 0) (tg_1 1) (tg_1 2) (tg_1 3) (tg_1 4) (tg_1 5) (tg_1 6) (tg_1 7) (tg_1 8) (tg_1 9) (tg_1 10) (tg_1 11) (tg_1 12) (tg_1 13) bp bn) ++ ((cM cI cZ mh t (nI n) r y (nI b) m0 m1 m2 m3 m4 m5 m6 m7 m8 m9 m10 m11 m12 m13) ++ [(o, .inl (cJ, 1, .inr (.inl u)))]))) (by decide) rfl ?_
  refine zv_aload_n C dL_law_1833 1834 rfl 2 rfl ?_
  refine zv_callV (rest := [.int ((wst (sprg f2 f4) (dry n f0 f2 f3 f4 f6 r) n).1)]) (wr := ((cR cI cZ q h k (nI b) y (nI n) r f0 f1 f2 f3 f4 f5 f6 f7 f8 f9 f10 f11 f12 f13 (nI tn_1) tr_1 (tg_1 0) (tg_1 1) (tg_1 2) (tg_1 3) (tg_1 4) (tg_1 5) (tg_1 6) (tg_1 7) (tg_1 8) (tg_1 9) (tg_1 10) (tg_1 11) (tg_1 12) (tg_1 13) bp bn) ++ [(o, .inl (cJ, 1, .inr (.inl u)))])) C (k_X2_weightiestSpring l D cI cZ mh t n r y b m0 m1 m2 m3 m4 m5 m6 m7 m8 m9 m10 m11 m12 m13 f1 d hI.n16 hI.depM) (cwV 0 C.1.2.2.2.2 gL_law_X2_weightiestSpring rfl rfl rfl (by decide +kernel) ⟨Nat.le_of_ble_eq_true rfl, Nat.le_of_ble_eq_true rfl⟩) dL_law_1834 1837 rfl (ci := 2) 0 rfl rfl rfl rfl (Nat.le_of_ble_eq_true rfl) ⟨(by show kc + 0 ≤ 601024; omega), (by show ns + 0 ≤ 7293034; omega)⟩ [0, 1] rfl [33, 34, 35, 36, 37, 38, 39, 40, 41, 42, 43, 44, 45, 46, 47] rfl (by decide) [0, 1, 2, 3, 4, 5, 6, 7, 8, 9, 10, 11, 12, 13, 14, 15, 16, 17, 18, 19, 20, 21, 22, 23, 24, 25, 26, 27, 28, 29, 30, 31, 32, 48] rfl (by decide) (by decide +kernel) (fun v w hv => ?_)
  obtain ⟨eg8_2, eg9_2, eg10_2, eg11_2, eg12_2, rfl, rfl⟩ := hv
  refine zv_go rfl rfl (st' := [.int ((wst (sprg m1 m3) (dry n m0 m1 m2 m3 m5 r) n).1), .int ((wst (sprg f2 f4) (dry n f0 f2 f3 f4 f6 r) n).1)]) rfl (kc' := kc) rfl (ns' := ns) rfl ?_
  refine zv_perm [0, 1, 2, 3, 4, 5, 6, 7, 8, 9, 10, 11, 12, 13, 14, 15, 16, 17, 18, 19, 20, 21, 22, 23, 24, 25, 26, 27, 28, 29, 30, 31, 32, 34, 35, 36, 37, 38, 39, 40, 41, 42, 43, 44, 45, 46, 47, 48, 33] (ws' := ((cR cI cZ q h k (nI b) y (nI n) r f0 f1 f2 f3 f4 f5 f6 f7 f8 f9 f10 f11 f12 f13 (nI tn_1) tr_1 (tg_1 0) (tg_1 1) (tg_1 2) (tg_1 3) (tg_1 4) (tg_1 5) (tg_1 6) (tg_1 7) (tg_1 8) (tg_1 9) (tg_1 10) (tg_1 11) (tg_1 12) (tg_1 13) bp bn) ++ ((cM cI cZ mh 0 (nI n) r y (nI b) m0 m1 m2 m3 m4 m5 m6 m7 eg8_2 eg9_2 eg10_2 eg11_2 eg12_2 m13) ++ [(o, .inl (cJ, 1, .inr (.inl u)))]))) (by decide) rfl ?_
  refine zv_icmp_eq C dL_law_1837 1840 1966 rfl (by decide) (fun c1 => ?_) (fun c1 => ?_)
  · refine zv_widen (k' := kc + 17) (n' := ns + 168) (by omega) (by omega) ?_
    refine zv_sub [0, 1, 2, 3, 4] (lv' := [(0, .ref sc), (1, .ref (q 0)), (2, .ref (mh 0)), (3, .ref o), (4, .int (nI i))]) rfl ?_
    exact K n b y r 0 d f0 f1 f2 f3 f4 f5 f6 f7 f8 f9 f10 f11 f12 f13 tn_1 tr_1 (tg_1 0) (tg_1 1) (tg_1 2) (tg_1 3) (tg_1 4) (tg_1 5) (tg_1 6) (tg_1 7) (tg_1 8) (tg_1 9) (tg_1 10) (tg_1 11) (tg_1 12) (tg_1 13) bp bn u m0 m1 m2 m3 m4 m5 m6 m7 eg8_2 eg9_2 eg10_2 eg11_2 eg12_2 m13 hI
  · exact absurd hI.vWst c1
set_option maxHeartbeats 4000000 in
set_option maxRecDepth 100000 in
theorem lc_renamedByRule {pP : Program} {l : Launch} {eE : Env} {sS : State} {mM : MethodId} {aA : Array Value} {bB : List Frame} {mT : Method} {cD : Code} {Q : State → Prop} {D : va_G} {cI cZ cJ : ClassId} {A : Nat → Prop} {sc L : Nat} {xs : Nat → Int32} {q h k mh : Nat → Nat} {o i kc ns : Nat} {n b : Nat} {y r t : Int32} {d : Nat → Nat} {f0 f1 f2 f3 f4 f5 f6 f7 f8 f9 f10 f11 f12 f13 : Nat → Int32} {n1 : Nat} {r1 : Int32} {g0 g1 g2 g3 g4 g5 g6 g7 g8 g9 g10 g11 g12 g13 bp bn : Nat → Int32} {u : Nat → Int64} {m0 m1 m2 m3 m4 m5 m6 m7 m8 m9 m10 m11 m12 m13 : Nat → Int32} (hl : l.stackTraces = false) (C : zv_C pP mM cD cL_law 9 sS aA wsL_law "RiverNamesLaw" A) (hA : A = fun q => sS.heap.size ≤ q) (hE : zx_E sS) (hX : va_X sc L xs sS sS.heap) (hsc : sc < sS.heap.size) (hi : i + 4 ≤ L) (hL : L ≤ 2048) (hkc : kc + 17 ≤ 601024) (hns : ns + 168 ≤ 7293034) (hI : LI n b r d f0 f1 f2 f3 f4 f5 f6 f7 f8 f9 f10 f11 f12 f13 bp bn m0 m1 m2 m3 m4 m5 m6 m7) (K : LK pP l eE sS mM aA bB mT cD Q D cI cZ cJ A sc q h k mh o i kc ns)  : zv_V pP l eE room_1 sS mM aA bB mT cD Q 9 D vwCl A A (tyJ cI cZ cJ) ((cR cI cZ q h k (nI b) y (nI n) r f0 f1 f2 f3 f4 f5 f6 f7 f8 f9 f10 f11 f12 f13 (nI n1) r1 g0 g1 g2 g3 g4 g5 g6 g7 g8 g9 g10 g11 g12 g13 bp bn) ++ ((cM cI cZ mh t (nI n) r y (nI b) m0 m1 m2 m3 m4 m5 m6 m7 m8 m9 m10 m11 m12 m13) ++ [(o, .inl (cJ, 1, .inr (.inl u)))])) kc ns 1898 [(0, .ref sc), (1, .ref (q 0)), (2, .ref (mh 0)), (3, .ref o), (4, .int (nI i))] [] := by
  refine zv_aload_n C dL_law_1898 1899 rfl 1 rfl ?_
  refine zv_callV (rest := []) (wr := ((cM cI cZ mh t (nI n) r y (nI b) m0 m1 m2 m3 m4 m5 m6 m7 m8 m9 m10 m11 m12 m13) ++ [(o, .inl (cJ, 1, .inr (.inl u)))])) C (k_X1_renamedByRule l D cI cZ q h k b y n r f0 f1 f2 f3 f4 f5 f6 f7 f8 f9 f10 f11 f12 f13 n1 r1 g0 g1 g2 g3 g4 g5 g6 g7 g8 g9 g10 g11 g12 g13 bp bn d hI.n16 hI.dep hI.wat hI.stl hI.z2 hI.z6 hI.r01) (cwV 0 C.1.2.2.2.2 gL_law_X1_renamedByRule rfl rfl rfl (by decide +kernel) ⟨Nat.le_of_ble_eq_true rfl, Nat.le_of_ble_eq_true rfl⟩) dL_law_1899 1902 rfl (ci := 1) 0 rfl rfl rfl rfl (Nat.le_of_ble_eq_true rfl) ⟨(by show kc + 0 ≤ 601024; omega), (by show ns + 0 ≤ 7293034; omega)⟩ [0, 1] rfl [0, 1, 2, 3, 4, 5, 6, 7, 8, 9, 10, 11, 12, 13, 14, 15, 16, 17, 18, 19, 20, 21, 22, 23, 24, 25, 26, 27, 28, 29, 30, 31, 32] rfl (by decide) [33, 34, 35, 36, 37, 38, 39, 40, 41, 42, 43, 44, 45, 46, 47, 48] rfl (by decide) (by decide +kernel) (fun v w hv => ?_)
  obtain ⟨tn_1, tr_1, tg_1, rfl, rfl⟩ := hv
  refine zv_go rfl rfl (st' := [.int (nI (cne (nmS n f0 f2 f3 f4 f6 (1 - r)) (nmS n f0 f2 f3 f4 f6 r) n))]) rfl (kc' := kc) rfl (ns' := ns) rfl ?_
  refine zv_perm [16, 17, 18, 19, 20, 21, 22, 23, 24, 25, 26, 27, 28, 29, 30, 31, 32, 33, 34, 35, 36, 37, 38, 39, 40, 41, 42, 43, 44, 45, 46, 47, 48, 0, 1, 2, 3, 4, 5, 6, 7, 8, 9, 10, 11, 12, 13, 14, 15] (ws' := ((cR cI cZ q h k (nI b) y (nI n) r f0 f1 f2 f3 f4 f5 f6 f7 f8 f9 f10 f11 f12 f13 (nI tn_1) tr_1 (tg_1 0) (tg_1 1) (tg_1 2) (tg_1 3) (tg_1 4) (tg_1 5) (tg_1 6) (tg_1 7) (tg_1 8) (tg_1 9) (tg_1 10) (tg_1 11) (tg_1 12) (tg_1 13) bp bn) ++ ((cM cI cZ mh t (nI n) r y (nI b) m0 m1 m2 m3 m4 m5 m6 m7 m8 m9 m10 m11 m12 m13) ++ [(o, .inl (cJ, 1, .inr (.inl u)))]))) (by decide) rfl ?_
  refine zv_aload_n C dL_law_1902 1903 rfl 2 rfl ?_
  refine zv_callV (rest := [.int (nI (cne (nmS n f0 f2 f3 f4 f6 (1 - r)) (nmS n f0 f2 f3 f4 f6 r) n))]) (wr := ((cR cI cZ q h k (nI b) y (nI n) r f0 f1 f2 f3 f4 f5 f6 f7 f8 f9 f10 f11 f12 f13 (nI tn_1) tr_1 (tg_1 0) (tg_1 1) (tg_1 2) (tg_1 3) (tg_1 4) (tg_1 5) (tg_1 6) (tg_1 7) (tg_1 8) (tg_1 9) (tg_1 10) (tg_1 11) (tg_1 12) (tg_1 13) bp bn) ++ [(o, .inl (cJ, 1, .inr (.inl u)))])) C (k_X2_renamedByRule l D cI cZ mh t n r y b m0 m1 m2 m3 m4 m5 m6 m7 m8 m9 m10 m11 m12 m13 f1 d hI.n16 hI.depM) (cwV 0 C.1.2.2.2.2 gL_law_X2_renamedByRule rfl rfl rfl (by decide +kernel) ⟨Nat.le_of_ble_eq_true rfl, Nat.le_of_ble_eq_true rfl⟩) dL_law_1903 1906 rfl (ci := 2) 0 rfl rfl rfl rfl (Nat.le_of_ble_eq_true rfl) ⟨(by show kc + 0 ≤ 601024; omega), (by show ns + 0 ≤ 7293034; omega)⟩ [0, 1] rfl [33, 34, 35, 36, 37, 38, 39, 40, 41, 42, 43, 44, 45, 46, 47] rfl (by decide) [0, 1, 2, 3, 4, 5, 6, 7, 8, 9, 10, 11, 12, 13, 14, 15, 16, 17, 18, 19, 20, 21, 22, 23, 24, 25, 26, 27, 28, 29, 30, 31, 32, 48] rfl (by decide) (by decide +kernel) (fun v w hv => ?_)
  obtain ⟨eg8_2, eg9_2, eg10_2, eg11_2, eg12_2, rfl, rfl⟩ := hv
  refine zv_go rfl rfl (st' := [.int (nI (cne (nmS n m0 m1 m2 m3 m5 (1 - r)) (nmS n m0 m1 m2 m3 m5 r) n)), .int (nI (cne (nmS n f0 f2 f3 f4 f6 (1 - r)) (nmS n f0 f2 f3 f4 f6 r) n))]) rfl (kc' := kc) rfl (ns' := ns) rfl ?_
  refine zv_perm [0, 1, 2, 3, 4, 5, 6, 7, 8, 9, 10, 11, 12, 13, 14, 15, 16, 17, 18, 19, 20, 21, 22, 23, 24, 25, 26, 27, 28, 29, 30, 31, 32, 34, 35, 36, 37, 38, 39, 40, 41, 42, 43, 44, 45, 46, 47, 48, 33] (ws' := ((cR cI cZ q h k (nI b) y (nI n) r f0 f1 f2 f3 f4 f5 f6 f7 f8 f9 f10 f11 f12 f13 (nI tn_1) tr_1 (tg_1 0) (tg_1 1) (tg_1 2) (tg_1 3) (tg_1 4) (tg_1 5) (tg_1 6) (tg_1 7) (tg_1 8) (tg_1 9) (tg_1 10) (tg_1 11) (tg_1 12) (tg_1 13) bp bn) ++ ((cM cI cZ mh 0 (nI n) r y (nI b) m0 m1 m2 m3 m4 m5 m6 m7 eg8_2 eg9_2 eg10_2 eg11_2 eg12_2 m13) ++ [(o, .inl (cJ, 1, .inr (.inl u)))]))) (by decide) rfl ?_
  refine zv_icmp_eq C dL_law_1906 1909 1966 rfl (by decide) (fun c1 => ?_) (fun c1 => ?_)
  · refine zv_widen (k' := kc + 17) (n' := ns + 168) (by omega) (by omega) ?_
    refine zv_sub [0, 1, 2, 3, 4] (lv' := [(0, .ref sc), (1, .ref (q 0)), (2, .ref (mh 0)), (3, .ref o), (4, .int (nI i))]) rfl ?_
    exact K n b y r 0 d f0 f1 f2 f3 f4 f5 f6 f7 f8 f9 f10 f11 f12 f13 tn_1 tr_1 (tg_1 0) (tg_1 1) (tg_1 2) (tg_1 3) (tg_1 4) (tg_1 5) (tg_1 6) (tg_1 7) (tg_1 8) (tg_1 9) (tg_1 10) (tg_1 11) (tg_1 12) (tg_1 13) bp bn u m0 m1 m2 m3 m4 m5 m6 m7 eg8_2 eg9_2 eg10_2 eg11_2 eg12_2 m13 hI
  · exact absurd (congrArg nI hI.vRul) c1
set_option maxHeartbeats 4000000 in
set_option maxRecDepth 100000 in
theorem lc_meanMouth {pP : Program} {l : Launch} {eE : Env} {sS : State} {mM : MethodId} {aA : Array Value} {bB : List Frame} {mT : Method} {cD : Code} {Q : State → Prop} {D : va_G} {cI cZ cJ : ClassId} {A : Nat → Prop} {sc L : Nat} {xs : Nat → Int32} {q h k mh : Nat → Nat} {o i kc ns : Nat} {n b : Nat} {y r t : Int32} {d : Nat → Nat} {f0 f1 f2 f3 f4 f5 f6 f7 f8 f9 f10 f11 f12 f13 : Nat → Int32} {n1 : Nat} {r1 : Int32} {g0 g1 g2 g3 g4 g5 g6 g7 g8 g9 g10 g11 g12 g13 bp bn : Nat → Int32} {u : Nat → Int64} {m0 m1 m2 m3 m4 m5 m6 m7 m8 m9 m10 m11 m12 m13 : Nat → Int32} (hl : l.stackTraces = false) (C : zv_C pP mM cD cL_law 9 sS aA wsL_law "RiverNamesLaw" A) (hA : A = fun q => sS.heap.size ≤ q) (hE : zx_E sS) (hX : va_X sc L xs sS sS.heap) (hsc : sc < sS.heap.size) (hi : i + 4 ≤ L) (hL : L ≤ 2048) (hkc : kc + 17 ≤ 601024) (hns : ns + 168 ≤ 7293034) (hI : LI n b r d f0 f1 f2 f3 f4 f5 f6 f7 f8 f9 f10 f11 f12 f13 bp bn m0 m1 m2 m3 m4 m5 m6 m7) (K : LK pP l eE sS mM aA bB mT cD Q D cI cZ cJ A sc q h k mh o i kc ns)  : zv_V pP l eE room_1 sS mM aA bB mT cD Q 9 D vwCl A A (tyJ cI cZ cJ) ((cR cI cZ q h k (nI b) y (nI n) r f0 f1 f2 f3 f4 f5 f6 f7 f8 f9 f10 f11 f12 f13 (nI n1) r1 g0 g1 g2 g3 g4 g5 g6 g7 g8 g9 g10 g11 g12 g13 bp bn) ++ ((cM cI cZ mh t (nI n) r y (nI b) m0 m1 m2 m3 m4 m5 m6 m7 m8 m9 m10 m11 m12 m13) ++ [(o, .inl (cJ, 1, .inr (.inl u)))])) kc ns 1911 [(0, .ref sc), (1, .ref (q 0)), (2, .ref (mh 0)), (3, .ref o), (4, .int (nI i))] [] := by
  refine zv_aload_n C dL_law_1911 1912 rfl 1 rfl ?_
  refine zv_callVR (rest := []) C (k_X1_meanMouth l D cI cZ q h k b y n r f0 f1 f2 f3 f4 f5 f6 f7 f8 f9 f10 f11 f12 f13 n1 r1 g0 g1 g2 g3 g4 g5 g6 g7 g8 g9 g10 g11 g12 g13 bp bn hI.n16) (cwV 0 C.1.2.2.2.2 gL_law_X1_meanMouth rfl rfl rfl (by decide +kernel) ⟨Nat.le_of_ble_eq_true rfl, Nat.le_of_ble_eq_true rfl⟩) dL_law_1912 1915 rfl (ci := 1) 0 rfl rfl rfl rfl (Nat.le_of_ble_eq_true rfl) ⟨(by show kc + 0 ≤ 601024; omega), (by show ns + 0 ≤ 7293034; omega)⟩ [0, 1] rfl [0, 1, 2, 3, 4, 5, 6, 7, 8, 9, 10, 11, 12, 13, 14, 15, 16, 17, 18, 19, 20, 21, 22, 23, 24, 25, 26, 27, 28, 29, 30, 31, 32] rfl (by decide) (fun v hv => ?_)
  subst hv
  refine zv_go rfl rfl (st' := [.double (mmV f0 f7 n)]) rfl (kc' := kc) rfl (ns' := ns) rfl ?_
  refine zv_dstore C dL_law_1915 1917 rfl [(5, .double (mmV f0 f7 n)), (0, .ref sc), (1, .ref (q 0)), (2, .ref (mh 0)), (3, .ref o), (4, .int (nI i))] (by decide) rfl ?_
  refine zv_aload_n C dL_law_1917 1918 rfl 3 rfl ?_
  refine zv_callV (rest := []) (wr := ((cR cI cZ q h k (nI b) y (nI n) r f0 f1 f2 f3 f4 f5 f6 f7 f8 f9 f10 f11 f12 f13 (nI n1) r1 g0 g1 g2 g3 g4 g5 g6 g7 g8 g9 g10 g11 g12 g13 bp bn) ++ [(o, .inl (cJ, 1, .inr (.inl u)))])) C (k_X2_meanMouth l D cI cZ mh t n r y b m0 m1 m2 m3 m4 m5 m6 m7 m8 m9 m10 m11 m12 m13 f1 d hI.n16 hI.depM) (cwV 0 C.1.2.2.2.2 gL_law_X2_meanMouth rfl rfl rfl (by decide +kernel) ⟨Nat.le_of_ble_eq_true rfl, Nat.le_of_ble_eq_true rfl⟩) dL_law_1918 1921 rfl (ci := 2) 0 rfl rfl rfl rfl (Nat.le_of_ble_eq_true rfl) ⟨(by show kc + 0 ≤ 601024; omega), (by show ns + 0 ≤ 7293034; omega)⟩ [0, 1] rfl [33, 34, 35, 36, 37, 38, 39, 40, 41, 42, 43, 44, 45, 46, 47] rfl (by decide) [0, 1, 2, 3, 4, 5, 6, 7, 8, 9, 10, 11, 12, 13, 14, 15, 16, 17, 18, 19, 20, 21, 22, 23, 24, 25, 26, 27, 28, 29, 30, 31, 32, 48] rfl (by decide) (by decide +kernel) (fun v w hv => ?_)
  obtain ⟨eg8_2, eg9_2, eg10_2, eg11_2, rfl, rfl⟩ := hv
  refine zv_go rfl rfl (st' := [.double (mmV f0 f7 n)]) (by rw [hI.vMean]; rfl) (kc' := kc) rfl (ns' := ns) rfl ?_
  refine zv_perm [0, 1, 2, 3, 4, 5, 6, 7, 8, 9, 10, 11, 12, 13, 14, 15, 16, 17, 18, 19, 20, 21, 22, 23, 24, 25, 26, 27, 28, 29, 30, 31, 32, 34, 35, 36, 37, 38, 39, 40, 41, 42, 43, 44, 45, 46, 47, 48, 33] (ws' := ((cR cI cZ q h k (nI b) y (nI n) r f0 f1 f2 f3 f4 f5 f6 f7 f8 f9 f10 f11 f12 f13 (nI n1) r1 g0 g1 g2 g3 g4 g5 g6 g7 g8 g9 g10 g11 g12 g13 bp bn) ++ ((cM cI cZ mh 0 (nI n) r y (nI b) m0 m1 m2 m3 m4 m5 m6 m7 eg8_2 eg9_2 eg10_2 eg11_2 m12 m13) ++ [(o, .inl (cJ, 1, .inr (.inl u)))]))) (by decide) rfl ?_
  refine zv_dstore C dL_law_1921 1923 rfl [(7, .double (mmV f0 f7 n)), (5, .double (mmV f0 f7 n)), (0, .ref sc), (1, .ref (q 0)), (2, .ref (mh 0)), (3, .ref o), (4, .int (nI i))] (by decide) rfl ?_
  refine zv_dload C dL_law_1923 1925 rfl 1 rfl ?_
  refine zv_dload C dL_law_1925 1927 rfl 0 rfl ?_
  refine zv_dcmp C dL_law_1927 1928 rfl ?_
  refine zv_if_eq C dL_law_1928 1931 1949 rfl (by decide) (fun c1 => ?_) (fun c1 => ?_)
  · refine zv_goto C dL_law_1949 1966 (by decide) ?_
    refine zv_widen (k' := kc + 17) (n' := ns + 168) (by omega) (by omega) ?_
    refine zv_sub [2, 3, 4, 5, 6] (lv' := [(0, .ref sc), (1, .ref (q 0)), (2, .ref (mh 0)), (3, .ref o), (4, .int (nI i))]) rfl ?_
    exact K n b y r 0 d f0 f1 f2 f3 f4 f5 f6 f7 f8 f9 f10 f11 f12 f13 n1 r1 g0 g1 g2 g3 g4 g5 g6 g7 g8 g9 g10 g11 g12 g13 bp bn u m0 m1 m2 m3 m4 m5 m6 m7 eg8_2 eg9_2 eg10_2 eg11_2 m12 m13 hI
  · refine zv_dload C dL_law_1931 1933 rfl 1 rfl ?_
    refine zv_dload C dL_law_1933 1935 rfl 1 rfl ?_
    refine zv_dcmp C dL_law_1935 1936 rfl ?_
    refine zv_if_eq C dL_law_1936 1939 1947 rfl (by decide) (fun c2 => ?_) (fun c2 => ?_)
    · exact absurd c2 c1
    · refine zv_dload C dL_law_1939 1941 rfl 0 rfl ?_
      refine zv_dload C dL_law_1941 1943 rfl 0 rfl ?_
      refine zv_dcmp C dL_law_1943 1944 rfl ?_
      refine zv_if_ne C dL_law_1944 1947 1949 rfl (by decide) (fun c3 => ?_) (fun c3 => ?_)
      · refine zv_goto C dL_law_1949 1966 (by decide) ?_
        refine zv_widen (k' := kc + 17) (n' := ns + 168) (by omega) (by omega) ?_
        refine zv_sub [2, 3, 4, 5, 6] (lv' := [(0, .ref sc), (1, .ref (q 0)), (2, .ref (mh 0)), (3, .ref o), (4, .int (nI i))]) rfl ?_
        exact K n b y r 0 d f0 f1 f2 f3 f4 f5 f6 f7 f8 f9 f10 f11 f12 f13 n1 r1 g0 g1 g2 g3 g4 g5 g6 g7 g8 g9 g10 g11 g12 g13 bp bn u m0 m1 m2 m3 m4 m5 m6 m7 eg8_2 eg9_2 eg10_2 eg11_2 m12 m13 hI
      · exact absurd c3 c1
set_option maxHeartbeats 4000000 in
set_option maxRecDepth 100000 in
theorem lc_digest {pP : Program} {l : Launch} {eE : Env} {sS : State} {mM : MethodId} {aA : Array Value} {bB : List Frame} {mT : Method} {cD : Code} {Q : State → Prop} {D : va_G} {cI cZ cJ : ClassId} {A : Nat → Prop} {sc L : Nat} {xs : Nat → Int32} {q h k mh : Nat → Nat} {o i kc ns : Nat} {n b : Nat} {y r t : Int32} {d : Nat → Nat} {f0 f1 f2 f3 f4 f5 f6 f7 f8 f9 f10 f11 f12 f13 : Nat → Int32} {n1 : Nat} {r1 : Int32} {g0 g1 g2 g3 g4 g5 g6 g7 g8 g9 g10 g11 g12 g13 bp bn : Nat → Int32} {u : Nat → Int64} {m0 m1 m2 m3 m4 m5 m6 m7 m8 m9 m10 m11 m12 m13 : Nat → Int32} (hl : l.stackTraces = false) (C : zv_C pP mM cD cL_law 9 sS aA wsL_law "RiverNamesLaw" A) (hA : A = fun q => sS.heap.size ≤ q) (hE : zx_E sS) (hX : va_X sc L xs sS sS.heap) (hsc : sc < sS.heap.size) (hi : i + 4 ≤ L) (hL : L ≤ 2048) (hkc : kc + 17 ≤ 601024) (hns : ns + 168 ≤ 7293034) (hI : LI n b r d f0 f1 f2 f3 f4 f5 f6 f7 f8 f9 f10 f11 f12 f13 bp bn m0 m1 m2 m3 m4 m5 m6 m7) (K : LK pP l eE sS mM aA bB mT cD Q D cI cZ cJ A sc q h k mh o i kc ns)  : zv_V pP l eE room_1 sS mM aA bB mT cD Q 9 D vwCl A A (tyJ cI cZ cJ) ((cR cI cZ q h k (nI b) y (nI n) r f0 f1 f2 f3 f4 f5 f6 f7 f8 f9 f10 f11 f12 f13 (nI n1) r1 g0 g1 g2 g3 g4 g5 g6 g7 g8 g9 g10 g11 g12 g13 bp bn) ++ ((cM cI cZ mh t (nI n) r y (nI b) m0 m1 m2 m3 m4 m5 m6 m7 m8 m9 m10 m11 m12 m13) ++ [(o, .inl (cJ, 1, .inr (.inl u)))])) kc ns 1952 [(0, .ref sc), (1, .ref (q 0)), (2, .ref (mh 0)), (3, .ref o), (4, .int (nI i))] [] := by
  refine zv_aload_n C dL_law_1952 1953 rfl 1 rfl ?_
  refine zv_callV (rest := []) (wr := ((cM cI cZ mh t (nI n) r y (nI b) m0 m1 m2 m3 m4 m5 m6 m7 m8 m9 m10 m11 m12 m13) ++ [(o, .inl (cJ, 1, .inr (.inl u)))])) C (k_X1_digest l D cI cZ q h k b y n r f0 f1 f2 f3 f4 f5 f6 f7 f8 f9 f10 f11 f12 f13 n1 r1 g0 g1 g2 g3 g4 g5 g6 g7 g8 g9 g10 g11 g12 g13 bp bn d hI.n16 hI.dep hI.wat hI.stl hI.z2 hI.z6 hI.r01 hI.b16 hI.brg) (cwV 0 C.1.2.2.2.2 gL_law_X1_digest rfl rfl rfl (by decide +kernel) ⟨Nat.le_of_ble_eq_true rfl, Nat.le_of_ble_eq_true rfl⟩) dL_law_1953 1956 rfl (ci := 1) 0 rfl rfl rfl rfl (Nat.le_of_ble_eq_true rfl) ⟨(by show kc + 0 ≤ 601024; omega), (by show ns + 0 ≤ 7293034; omega)⟩ [0, 1] rfl [0, 1, 2, 3, 4, 5, 6, 7, 8, 9, 10, 11, 12, 13, 14, 15, 16, 17, 18, 19, 20, 21, 22, 23, 24, 25, 26, 27, 28, 29, 30, 31, 32] rfl (by decide) [33, 34, 35, 36, 37, 38, 39, 40, 41, 42, 43, 44, 45, 46, 47, 48] rfl (by decide) (by decide +kernel) (fun v w hv => ?_)
  obtain ⟨tn_1, tr_1, tg_1, rfl, rfl⟩ := hv
  refine zv_go rfl rfl (st' := [.long (fdP (brR bp bn f9) b (fdP (plR n f0 f2 f4 f7 f8 f9 f10 f11) n (dg8 y (nI n) (nI b) (nI (inN bp bn f9 b)) (gst f9 n 10) (nI (cnt f9 (-1) n)) ((wst (sprg f2 f4) (dry n f0 f2 f3 f4 f6 r) n).1) (nI (cne (nmS n f0 f2 f3 f4 f6 (1 - r)) (nmS n f0 f2 f3 f4 f6 r) n)))))]) rfl (kc' := kc) rfl (ns' := ns) rfl ?_
  refine zv_perm [16, 17, 18, 19, 20, 21, 22, 23, 24, 25, 26, 27, 28, 29, 30, 31, 32, 33, 34, 35, 36, 37, 38, 39, 40, 41, 42, 43, 44, 45, 46, 47, 48, 0, 1, 2, 3, 4, 5, 6, 7, 8, 9, 10, 11, 12, 13, 14, 15] (ws' := ((cR cI cZ q h k (nI b) y (nI n) r f0 f1 f2 f3 f4 f5 f6 f7 f8 f9 f10 f11 f12 f13 (nI tn_1) tr_1 (tg_1 0) (tg_1 1) (tg_1 2) (tg_1 3) (tg_1 4) (tg_1 5) (tg_1 6) (tg_1 7) (tg_1 8) (tg_1 9) (tg_1 10) (tg_1 11) (tg_1 12) (tg_1 13) bp bn) ++ ((cM cI cZ mh t (nI n) r y (nI b) m0 m1 m2 m3 m4 m5 m6 m7 m8 m9 m10 m11 m12 m13) ++ [(o, .inl (cJ, 1, .inr (.inl u)))]))) (by decide) rfl ?_
  refine zv_aload_n C dL_law_1956 1957 rfl 2 rfl ?_
  refine zv_callV (rest := [.long (fdP (brR bp bn f9) b (fdP (plR n f0 f2 f4 f7 f8 f9 f10 f11) n (dg8 y (nI n) (nI b) (nI (inN bp bn f9 b)) (gst f9 n 10) (nI (cnt f9 (-1) n)) ((wst (sprg f2 f4) (dry n f0 f2 f3 f4 f6 r) n).1) (nI (cne (nmS n f0 f2 f3 f4 f6 (1 - r)) (nmS n f0 f2 f3 f4 f6 r) n)))))]) (wr := ((cR cI cZ q h k (nI b) y (nI n) r f0 f1 f2 f3 f4 f5 f6 f7 f8 f9 f10 f11 f12 f13 (nI tn_1) tr_1 (tg_1 0) (tg_1 1) (tg_1 2) (tg_1 3) (tg_1 4) (tg_1 5) (tg_1 6) (tg_1 7) (tg_1 8) (tg_1 9) (tg_1 10) (tg_1 11) (tg_1 12) (tg_1 13) bp bn) ++ [(o, .inl (cJ, 1, .inr (.inl u)))])) C (k_X2_digest l D cI cZ mh t n r y b m0 m1 m2 m3 m4 m5 m6 m7 m8 m9 m10 m11 m12 m13 f1 d hI.n16 hI.depM hI.b16 hI.brgM hI.zm1) (cwV 0 C.1.2.2.2.2 gL_law_X2_digest rfl rfl rfl (by decide +kernel) ⟨Nat.le_of_ble_eq_true rfl, Nat.le_of_ble_eq_true rfl⟩) dL_law_1957 1960 rfl (ci := 2) 0 rfl rfl rfl rfl (Nat.le_of_ble_eq_true rfl) ⟨(by show kc + 17 ≤ 601024; omega), (by show ns + 168 ≤ 7293034; omega)⟩ [0, 1] rfl [33, 34, 35, 36, 37, 38, 39, 40, 41, 42, 43, 44, 45, 46, 47] rfl (by decide) [0, 1, 2, 3, 4, 5, 6, 7, 8, 9, 10, 11, 12, 13, 14, 15, 16, 17, 18, 19, 20, 21, 22, 23, 24, 25, 26, 27, 28, 29, 30, 31, 32, 48] rfl (by decide) (by decide +kernel) (fun v w hv => ?_)
  obtain ⟨eg8_2, eg9_2, eg10_2, eg11_2, eg12_2, rfl, rfl⟩ := hv
  refine zv_go rfl rfl (st' := [.long (dgM n b m0 m1 m2 m3 m5 m6 m7 r y), .long (fdP (brR bp bn f9) b (fdP (plR n f0 f2 f4 f7 f8 f9 f10 f11) n (dg8 y (nI n) (nI b) (nI (inN bp bn f9 b)) (gst f9 n 10) (nI (cnt f9 (-1) n)) ((wst (sprg f2 f4) (dry n f0 f2 f3 f4 f6 r) n).1) (nI (cne (nmS n f0 f2 f3 f4 f6 (1 - r)) (nmS n f0 f2 f3 f4 f6 r) n)))))]) rfl (kc' := kc + 17) rfl (ns' := ns + 168) rfl ?_
  refine zv_perm [0, 1, 2, 3, 4, 5, 6, 7, 8, 9, 10, 11, 12, 13, 14, 15, 16, 17, 18, 19, 20, 21, 22, 23, 24, 25, 26, 27, 28, 29, 30, 31, 32, 34, 35, 36, 37, 38, 39, 40, 41, 42, 43, 44, 45, 46, 47, 48, 33] (ws' := ((cR cI cZ q h k (nI b) y (nI n) r f0 f1 f2 f3 f4 f5 f6 f7 f8 f9 f10 f11 f12 f13 (nI tn_1) tr_1 (tg_1 0) (tg_1 1) (tg_1 2) (tg_1 3) (tg_1 4) (tg_1 5) (tg_1 6) (tg_1 7) (tg_1 8) (tg_1 9) (tg_1 10) (tg_1 11) (tg_1 12) (tg_1 13) bp bn) ++ ((cM cI cZ mh 0 (nI n) r y (nI b) m0 m1 m2 m3 m4 m5 m6 m7 eg8_2 eg9_2 eg10_2 eg11_2 eg12_2 m13) ++ [(o, .inl (cJ, 1, .inr (.inl u)))]))) (by decide) rfl ?_
  refine zv_lcmpE C dL_law_1960 1961 rfl (hI.vDig y) ?_
  refine zv_if_eq C dL_law_1961 1964 1966 rfl (by decide) (fun _ => ?_) (fun q => absurd (by decide) q)
  refine zv_widen (k' := kc + 17) (n' := ns + 168) (by omega) (by omega) ?_
  refine zv_sub [0, 1, 2, 3, 4] (lv' := [(0, .ref sc), (1, .ref (q 0)), (2, .ref (mh 0)), (3, .ref o), (4, .int (nI i))]) rfl ?_
  exact K n b y r 0 d f0 f1 f2 f3 f4 f5 f6 f7 f8 f9 f10 f11 f12 f13 tn_1 tr_1 (tg_1 0) (tg_1 1) (tg_1 2) (tg_1 3) (tg_1 4) (tg_1 5) (tg_1 6) (tg_1 7) (tg_1 8) (tg_1 9) (tg_1 10) (tg_1 11) (tg_1 12) (tg_1 13) bp bn u m0 m1 m2 m3 m4 m5 m6 m7 eg8_2 eg9_2 eg10_2 eg11_2 eg12_2 m13 hI
