set_option maxHeartbeats 4000000 in
set_option maxRecDepth 100000 in
theorem lc_keeps_no {pP : Program} {l : Launch} {eE : Env} {sS : State} {mM : MethodId} {aA : Array Value} {bB : List Frame} {mT : Method} {cD : Code} {Q : State → Prop} {D : va_G} {cI cZ cJ : ClassId} {A : Nat → Prop} {sc L : Nat} {xs : Nat → Int32} {q h k mh : Nat → Nat} {o i kc ns : Nat} {n b : Nat} {y r t : Int32} {d : Nat → Nat} {f0 f1 f2 f3 f4 f5 f6 f7 f8 f9 f10 f11 f12 f13 : Nat → Int32} {n1 : Nat} {r1 : Int32} {g0 g1 g2 g3 g4 g5 g6 g7 g8 g9 g10 g11 g12 g13 bp bn : Nat → Int32} {u : Nat → Int64} {m0 m1 m2 m3 m4 m5 m6 m7 m8 m9 m10 m11 m12 m13 : Nat → Int32} (hl : l.stackTraces = false) (C : zv_C pP mM cD cL_law 9 sS aA wsL_law "RiverNamesLaw" A) (hA : A = fun q => sS.heap.size ≤ q) (hE : zx_E sS) (hX : va_X sc L xs sS sS.heap) (hsc : sc < sS.heap.size) (hi : i + 4 ≤ L) (hL : L ≤ 2048) (hkc : kc + 17 ≤ 601024) (hns : ns + 168 ≤ 7293034) (hI : LI n b r d f0 f1 f2 f3 f4 f5 f6 f7 f8 f9 f10 f11 f12 f13 bp bn m0 m1 m2 m3 m4 m5 m6 m7) (K : LK pP l eE sS mM aA bB mT cD Q D cI cZ cJ A sc q h k mh o i kc ns) (hf : isP b (xs (i + 1)) = false) : zv_V pP l eE room_1 sS mM aA bB mT cD Q 9 D vwCl A A (tyJ cI cZ cJ) ((cR cI cZ q h k (nI b) y (nI n) r f0 f1 f2 f3 f4 f5 f6 f7 f8 f9 f10 f11 f12 f13 (nI n1) r1 g0 g1 g2 g3 g4 g5 g6 g7 g8 g9 g10 g11 g12 g13 bp bn) ++ ((cM cI cZ mh t (nI n) r y (nI b) m0 m1 m2 m3 m4 m5 m6 m7 m8 m9 m10 m11 m12 m13) ++ [(o, .inl (cJ, 1, .inr (.inl u)))])) kc ns 1517 [(0, .ref sc), (1, .ref (q 0)), (2, .ref (mh 0)), (3, .ref o), (4, .int (nI i))] [] := by
  refine zv_aload_n C dL_law_1517 1518 rfl 1 rfl ?_
  refine zv_aload_n C dL_law_1518 1519 rfl 0 rfl ?_
  refine zv_iload C dL_law_1519 1521 rfl 4 rfl ?_
  refine zv_iconst (v := 1) C dL_law_1521 1522 rfl (by decide) ?_
  refine zv_iadd (v := (nI (i + 1))) C dL_law_1522 1523 rfl (nI_1 i) ?_
  refine zv_sld C hA hX hsc dL_law_1523 1524 rfl (i + 1) rfl (by omega) hL (v := (xs (i + 1))) rfl ?_
  refine zv_aload_n C dL_law_1524 1525 rfl 3 rfl ?_
  refine zv_callWE (rest := []) C hA hE (k_L_keeps_t l D cI cZ cJ q h k b y n r f0 f1 f2 f3 f4 f5 f6 f7 f8 f9 f10 f11 f12 f13 n1 r1 g0 g1 g2 g3 g4 g5 g6 g7 g8 g9 g10 g11 g12 g13 bp bn o u (xs (i + 1)) hI.b16 (by first | assumption | omega) hl) (vx_cwSW 3 C.1.2.2.2.2 gL_law_L_keeps rfl rfl rfl (by decide +kernel) ⟨Nat.le_of_ble_eq_true rfl, Nat.le_of_ble_eq_true rfl⟩) dL_law_1525 1528 rfl rfl rfl (Nat.le_of_ble_eq_true rfl) ⟨(by show kc + 1 ≤ 601024; omega), (by show ns + 6 ≤ 7293034; omega)⟩ [0, 1, 2] rfl [0, 1, 2, 3, 4, 5, 6, 7, 8, 9, 10, 11, 12, 13, 14, 15, 16, 17, 18, 19, 20, 21, 22, 23, 24, 25, 26, 27, 28, 29, 30, 31, 32, 48] rfl (by decide) (fun v hv => ?_)
  subst hv
  refine zv_go rfl rfl (st' := [.int 1]) rfl (kc' := kc + 1) rfl (ns' := ns + 6) rfl ?_
  refine zv_istore C dL_law_1528 1530 rfl [(5, .int 1), (0, .ref sc), (1, .ref (q 0)), (2, .ref (mh 0)), (3, .ref o), (4, .int (nI i))] (by decide) rfl ?_
  refine zv_aload_n C dL_law_1530 1531 rfl 3 rfl ?_
  refine zv_aload_n C dL_law_1531 1532 rfl 1 rfl ?_
  refine zv_iload C dL_law_1532 1534 rfl 5 rfl ?_
  refine zv_iconst (v := 1) C dL_law_1534 1535 rfl (by decide) ?_
  refine zv_iadd (v := (nI (i + 1))) C dL_law_1535 1536 rfl (nI_1 i) ?_
  refine zv_sld C hA hX hsc dL_law_1536 1537 rfl (i + 1) rfl (by omega) hL (v := (xs (i + 1))) rfl ?_
  refine zv_callV (rest := []) (wr := ((cR cI cZ q h k (nI b) y (nI n) r f0 f1 f2 f3 f4 f5 f6 f7 f8 f9 f10 f11 f12 f13 (nI n1) r1 g0 g1 g2 g3 g4 g5 g6 g7 g8 g9 g10 g11 g12 g13 bp bn) ++ [(o, .inl (cJ, 1, .inr (.inl u)))])) C (k_X2_keeps_no l D cI cZ mh t n r y b m0 m1 m2 m3 m4 m5 m6 m7 m8 m9 m10 m11 m12 m13 (xs (i + 1)) hI.b16 (by first | assumption | omega)) (cwV 1 C.1.2.2.2.2 gL_law_X2_keeps rfl rfl rfl (by decide +kernel) ⟨Nat.le_of_ble_eq_true rfl, Nat.le_of_ble_eq_true rfl⟩) dL_law_1537 1540 rfl (ci := 2) 0 rfl rfl rfl rfl (Nat.le_of_ble_eq_true rfl) ⟨(by show kc + 1 + 0 ≤ 601024; omega), (by show ns + 6 + 0 ≤ 7293034; omega)⟩ [0, 1] rfl [33, 34, 35, 36, 37, 38, 39, 40, 41, 42, 43, 44, 45, 46, 47] rfl (by decide) [0, 1, 2, 3, 4, 5, 6, 7, 8, 9, 10, 11, 12, 13, 14, 15, 16, 17, 18, 19, 20, 21, 22, 23, 24, 25, 26, 27, 28, 29, 30, 31, 32, 48] rfl (by decide) (by decide +kernel) (fun v w hv => ?_)
  obtain ⟨rfl, rfl⟩ := hv
  refine zv_go rfl rfl (st' := [.int 0]) rfl (kc' := kc + 1) rfl (ns' := ns + 6) rfl ?_
  refine zv_perm [0, 1, 2, 3, 4, 5, 6, 7, 8, 9, 10, 11, 12, 13, 14, 15, 16, 17, 18, 19, 20, 21, 22, 23, 24, 25, 26, 27, 28, 29, 30, 31, 32, 34, 35, 36, 37, 38, 39, 40, 41, 42, 43, 44, 45, 46, 47, 48, 33] (ws' := ((cR cI cZ q h k (nI b) y (nI n) r f0 f1 f2 f3 f4 f5 f6 f7 f8 f9 f10 f11 f12 f13 (nI n1) r1 g0 g1 g2 g3 g4 g5 g6 g7 g8 g9 g10 g11 g12 g13 bp bn) ++ ((cM cI cZ mh 1 (nI n) r y (nI b) m0 m1 m2 m3 m4 m5 m6 m7 m8 m9 m10 m11 m12 m13) ++ [(o, .inl (cJ, 1, .inr (.inl u)))]))) (by decide) rfl ?_
  refine zv_istore C dL_law_1540 1542 rfl [(6, .int 0), (5, .int 1), (0, .ref sc), (1, .ref (q 0)), (2, .ref (mh 0)), (3, .ref o), (4, .int (nI i))] (by decide) rfl ?_
  refine zv_aload_n C dL_law_1542 1543 rfl 4 rfl ?_
  refine zv_callVR (rest := []) C (k_X2_thrown l D cI cZ mh 1 n r y b m0 m1 m2 m3 m4 m5 m6 m7 m8 m9 m10 m11 m12 m13 ) (cwV 0 C.1.2.2.2.2 gL_law_X2_thrown rfl rfl rfl (by decide +kernel) ⟨Nat.le_of_ble_eq_true rfl, Nat.le_of_ble_eq_true rfl⟩) dL_law_1543 1546 rfl (ci := 2) 0 rfl rfl rfl rfl (Nat.le_of_ble_eq_true rfl) ⟨(by show kc + 1 + 0 ≤ 601024; omega), (by show ns + 6 + 0 ≤ 7293034; omega)⟩ [0, 1] rfl [33, 34, 35, 36, 37, 38, 39, 40, 41, 42, 43, 44, 45, 46, 47] rfl (by decide) (fun v hv => ?_)
  subst hv
  refine zv_go rfl rfl (st' := [.int 1]) rfl (kc' := kc + 1) rfl (ns' := ns + 6) rfl ?_
  refine zv_iload C dL_law_1546 1548 rfl 1 rfl ?_
  refine zv_icmp_eq C dL_law_1548 1551 1553 rfl (by decide) (fun _ => ?_) (fun q => absurd (by decide) q)
  refine zv_iload C dL_law_1553 1555 rfl 1 rfl ?_
  refine zv_if_ne C dL_law_1555 1558 1570 rfl (by decide) (fun _ => ?_) (fun q => absurd q (by decide))
  refine zv_goto C dL_law_1570 1966 (by decide) ?_
  refine zv_widen (k' := kc + 17) (n' := ns + 168) (by omega) (by omega) ?_
  refine zv_sub [2, 3, 4, 5, 6] (lv' := [(0, .ref sc), (1, .ref (q 0)), (2, .ref (mh 0)), (3, .ref o), (4, .int (nI i))]) rfl ?_
  exact K n b y r 1 d f0 f1 f2 f3 f4 f5 f6 f7 f8 f9 f10 f11 f12 f13 n1 r1 g0 g1 g2 g3 g4 g5 g6 g7 g8 g9 g10 g11 g12 g13 bp bn u m0 m1 m2 m3 m4 m5 m6 m7 m8 m9 m10 m11 m12 m13 hI
set_option maxHeartbeats 4000000 in
set_option maxRecDepth 100000 in
theorem lc_keeps_ok {pP : Program} {l : Launch} {eE : Env} {sS : State} {mM : MethodId} {aA : Array Value} {bB : List Frame} {mT : Method} {cD : Code} {Q : State → Prop} {D : va_G} {cI cZ cJ : ClassId} {A : Nat → Prop} {sc L : Nat} {xs : Nat → Int32} {q h k mh : Nat → Nat} {o i kc ns : Nat} {n b : Nat} {y r t : Int32} {d : Nat → Nat} {f0 f1 f2 f3 f4 f5 f6 f7 f8 f9 f10 f11 f12 f13 : Nat → Int32} {n1 : Nat} {r1 : Int32} {g0 g1 g2 g3 g4 g5 g6 g7 g8 g9 g10 g11 g12 g13 bp bn : Nat → Int32} {u : Nat → Int64} {m0 m1 m2 m3 m4 m5 m6 m7 m8 m9 m10 m11 m12 m13 : Nat → Int32} (hl : l.stackTraces = false) (C : zv_C pP mM cD cL_law 9 sS aA wsL_law "RiverNamesLaw" A) (hA : A = fun q => sS.heap.size ≤ q) (hE : zx_E sS) (hX : va_X sc L xs sS sS.heap) (hsc : sc < sS.heap.size) (hi : i + 4 ≤ L) (hL : L ≤ 2048) (hkc : kc + 17 ≤ 601024) (hns : ns + 168 ≤ 7293034) (hI : LI n b r d f0 f1 f2 f3 f4 f5 f6 f7 f8 f9 f10 f11 f12 f13 bp bn m0 m1 m2 m3 m4 m5 m6 m7) (K : LK pP l eE sS mM aA bB mT cD Q D cI cZ cJ A sc q h k mh o i kc ns) (p : Nat) (hp : p < b) (e1 : xs (i + 1) = nI p) : zv_V pP l eE room_1 sS mM aA bB mT cD Q 9 D vwCl A A (tyJ cI cZ cJ) ((cR cI cZ q h k (nI b) y (nI n) r f0 f1 f2 f3 f4 f5 f6 f7 f8 f9 f10 f11 f12 f13 (nI n1) r1 g0 g1 g2 g3 g4 g5 g6 g7 g8 g9 g10 g11 g12 g13 bp bn) ++ ((cM cI cZ mh t (nI n) r y (nI b) m0 m1 m2 m3 m4 m5 m6 m7 m8 m9 m10 m11 m12 m13) ++ [(o, .inl (cJ, 1, .inr (.inl u)))])) kc ns 1517 [(0, .ref sc), (1, .ref (q 0)), (2, .ref (mh 0)), (3, .ref o), (4, .int (nI i))] [] := by
  refine zv_aload_n C dL_law_1517 1518 rfl 1 rfl ?_
  refine zv_aload_n C dL_law_1518 1519 rfl 0 rfl ?_
  refine zv_iload C dL_law_1519 1521 rfl 4 rfl ?_
  refine zv_iconst (v := 1) C dL_law_1521 1522 rfl (by decide) ?_
  refine zv_iadd (v := (nI (i + 1))) C dL_law_1522 1523 rfl (nI_1 i) ?_
  refine zv_sld C hA hX hsc dL_law_1523 1524 rfl (i + 1) rfl (by omega) hL (v := (nI p)) e1 ?_
  refine zv_aload_n C dL_law_1524 1525 rfl 3 rfl ?_
  refine zv_callW (rest := []) (wr := (cM cI cZ mh t (nI n) r y (nI b) m0 m1 m2 m3 m4 m5 m6 m7 m8 m9 m10 m11 m12 m13)) C (k_L_keeps_ok l D cI cZ cJ q h k b y n r f0 f1 f2 f3 f4 f5 f6 f7 f8 f9 f10 f11 f12 f13 n1 r1 g0 g1 g2 g3 g4 g5 g6 g7 g8 g9 g10 g11 g12 g13 bp bn o u p hI.b16 (by first | assumption | omega)) (vx_cwSW 3 C.1.2.2.2.2 gL_law_L_keeps rfl rfl rfl (by decide +kernel) ⟨Nat.le_of_ble_eq_true rfl, Nat.le_of_ble_eq_true rfl⟩) dL_law_1525 1528 rfl rfl rfl (Nat.le_of_ble_eq_true rfl) ⟨(by show kc + 0 ≤ 601024; omega), (by show ns + 0 ≤ 7293034; omega)⟩ [0, 1, 2] rfl [0, 1, 2, 3, 4, 5, 6, 7, 8, 9, 10, 11, 12, 13, 14, 15, 16, 17, 18, 19, 20, 21, 22, 23, 24, 25, 26, 27, 28, 29, 30, 31, 32, 48] rfl (by decide) [33, 34, 35, 36, 37, 38, 39, 40, 41, 42, 43, 44, 45, 46, 47] rfl (by decide) (by decide +kernel) (fun v w hv => ?_)
  obtain ⟨uo_1, rfl, rfl, hu⟩ := hv
  refine zv_go rfl rfl (st' := [.int 0]) rfl (kc' := kc) rfl (ns' := ns) rfl ?_
  refine zv_perm [15, 16, 17, 18, 19, 20, 21, 22, 23, 24, 25, 26, 27, 28, 29, 30, 31, 32, 33, 34, 35, 36, 37, 38, 39, 40, 41, 42, 43, 44, 45, 46, 47, 0, 1, 2, 3, 4, 5, 6, 7, 8, 9, 10, 11, 12, 13, 14, 48] (ws' := ((cR cI cZ q h k (nI b) y (nI n) r f0 f1 f2 f3 f4 f5 f6 f7 f8 f9 f10 f11 f12 f13 (nI n1) r1 g0 g1 g2 g3 g4 g5 g6 g7 g8 g9 g10 g11 g12 g13 bp bn) ++ ((cM cI cZ mh t (nI n) r y (nI b) m0 m1 m2 m3 m4 m5 m6 m7 m8 m9 m10 m11 m12 m13) ++ [(o, .inl (cJ, 1, .inr (.inl uo_1)))]))) (by decide) rfl ?_
  refine zv_istore C dL_law_1528 1530 rfl [(5, .int 0), (0, .ref sc), (1, .ref (q 0)), (2, .ref (mh 0)), (3, .ref o), (4, .int (nI i))] (by decide) rfl ?_
  refine zv_aload_n C dL_law_1530 1531 rfl 3 rfl ?_
  refine zv_aload_n C dL_law_1531 1532 rfl 1 rfl ?_
  refine zv_iload C dL_law_1532 1534 rfl 5 rfl ?_
  refine zv_iconst (v := 1) C dL_law_1534 1535 rfl (by decide) ?_
  refine zv_iadd (v := (nI (i + 1))) C dL_law_1535 1536 rfl (nI_1 i) ?_
  refine zv_sld C hA hX hsc dL_law_1536 1537 rfl (i + 1) rfl (by omega) hL (v := (nI p)) e1 ?_
  refine zv_callV (rest := []) (wr := ((cR cI cZ q h k (nI b) y (nI n) r f0 f1 f2 f3 f4 f5 f6 f7 f8 f9 f10 f11 f12 f13 (nI n1) r1 g0 g1 g2 g3 g4 g5 g6 g7 g8 g9 g10 g11 g12 g13 bp bn) ++ [(o, .inl (cJ, 1, .inr (.inl uo_1)))])) C (k_X2_keeps_ok l D cI cZ mh t n r y b m0 m1 m2 m3 m4 m5 m6 m7 m8 m9 m10 m11 m12 m13 p hI.b16 (by first | assumption | omega)) (cwV 1 C.1.2.2.2.2 gL_law_X2_keeps rfl rfl rfl (by decide +kernel) ⟨Nat.le_of_ble_eq_true rfl, Nat.le_of_ble_eq_true rfl⟩) dL_law_1537 1540 rfl (ci := 2) 0 rfl rfl rfl rfl (Nat.le_of_ble_eq_true rfl) ⟨(by show kc + 0 ≤ 601024; omega), (by show ns + 0 ≤ 7293034; omega)⟩ [0, 1] rfl [33, 34, 35, 36, 37, 38, 39, 40, 41, 42, 43, 44, 45, 46, 47] rfl (by decide) [0, 1, 2, 3, 4, 5, 6, 7, 8, 9, 10, 11, 12, 13, 14, 15, 16, 17, 18, 19, 20, 21, 22, 23, 24, 25, 26, 27, 28, 29, 30, 31, 32, 48] rfl (by decide) (by decide +kernel) (fun v w hv => ?_)
  obtain ⟨rfl, rfl⟩ := hv
  refine zv_go rfl rfl (st' := [.int (m7 p)]) rfl (kc' := kc) rfl (ns' := ns) rfl ?_
  refine zv_perm [0, 1, 2, 3, 4, 5, 6, 7, 8, 9, 10, 11, 12, 13, 14, 15, 16, 17, 18, 19, 20, 21, 22, 23, 24, 25, 26, 27, 28, 29, 30, 31, 32, 34, 35, 36, 37, 38, 39, 40, 41, 42, 43, 44, 45, 46, 47, 48, 33] (ws' := ((cR cI cZ q h k (nI b) y (nI n) r f0 f1 f2 f3 f4 f5 f6 f7 f8 f9 f10 f11 f12 f13 (nI n1) r1 g0 g1 g2 g3 g4 g5 g6 g7 g8 g9 g10 g11 g12 g13 bp bn) ++ ((cM cI cZ mh 0 (nI n) r y (nI b) m0 m1 m2 m3 m4 m5 m6 m7 m8 m9 m10 m11 m12 m13) ++ [(o, .inl (cJ, 1, .inr (.inl uo_1)))]))) (by decide) rfl ?_
  refine zv_istore C dL_law_1540 1542 rfl [(6, .int (m7 p)), (5, .int 0), (0, .ref sc), (1, .ref (q 0)), (2, .ref (mh 0)), (3, .ref o), (4, .int (nI i))] (by decide) rfl ?_
  refine zv_aload_n C dL_law_1542 1543 rfl 4 rfl ?_
  refine zv_callVR (rest := []) C (k_X2_thrown l D cI cZ mh 0 n r y b m0 m1 m2 m3 m4 m5 m6 m7 m8 m9 m10 m11 m12 m13 ) (cwV 0 C.1.2.2.2.2 gL_law_X2_thrown rfl rfl rfl (by decide +kernel) ⟨Nat.le_of_ble_eq_true rfl, Nat.le_of_ble_eq_true rfl⟩) dL_law_1543 1546 rfl (ci := 2) 0 rfl rfl rfl rfl (Nat.le_of_ble_eq_true rfl) ⟨(by show kc + 0 ≤ 601024; omega), (by show ns + 0 ≤ 7293034; omega)⟩ [0, 1] rfl [33, 34, 35, 36, 37, 38, 39, 40, 41, 42, 43, 44, 45, 46, 47] rfl (by decide) (fun v hv => ?_)
  subst hv
  refine zv_go rfl rfl (st' := [.int 0]) rfl (kc' := kc) rfl (ns' := ns) rfl ?_
  refine zv_iload C dL_law_1546 1548 rfl 1 rfl ?_
  refine zv_icmp_eq C dL_law_1548 1551 1553 rfl (by decide) (fun _ => ?_) (fun q => absurd (by decide) q)
  refine zv_iload C dL_law_1553 1555 rfl 1 rfl ?_
  refine zv_if_ne C dL_law_1555 1558 1570 rfl (by decide) (fun q => absurd (by decide) q) (fun _ => ?_)
  refine zv_aload_n C dL_law_1558 1559 rfl 5 rfl ?_
  refine zv_iconst (v := 0) C dL_law_1559 1560 rfl (by decide) ?_
  refine zv_lald (v := (uo_1 0)) C dL_law_1560 1561 rfl 48 2 0 rfl rfl (by decide) (by decide) (by decide) rfl ?_
  refine zv_iload C dL_law_1561 1563 rfl 0 rfl ?_
  refine zv_i2l C dL_law_1563 1564 rfl ?_
  refine zv_lcmpE C dL_law_1564 1565 rfl (hu.trans (congrArg Int32.toInt64 (hI.F p hp).2.symm)) ?_
  refine zv_if_eq C dL_law_1565 1568 1570 rfl (by decide) (fun _ => ?_) (fun q => absurd (by decide) q)
  refine zv_goto C dL_law_1570 1966 (by decide) ?_
  refine zv_widen (k' := kc + 17) (n' := ns + 168) (by omega) (by omega) ?_
  refine zv_sub [2, 3, 4, 5, 6] (lv' := [(0, .ref sc), (1, .ref (q 0)), (2, .ref (mh 0)), (3, .ref o), (4, .int (nI i))]) rfl ?_
  exact K n b y r 0 d f0 f1 f2 f3 f4 f5 f6 f7 f8 f9 f10 f11 f12 f13 n1 r1 g0 g1 g2 g3 g4 g5 g6 g7 g8 g9 g10 g11 g12 g13 bp bn uo_1 m0 m1 m2 m3 m4 m5 m6 m7 m8 m9 m10 m11 m12 m13 hI
set_option maxHeartbeats 4000000 in
set_option maxRecDepth 100000 in
theorem lc_isInsulted_no {pP : Program} {l : Launch} {eE : Env} {sS : State} {mM : MethodId} {aA : Array Value} {bB : List Frame} {mT : Method} {cD : Code} {Q : State → Prop} {D : va_G} {cI cZ cJ : ClassId} {A : Nat → Prop} {sc L : Nat} {xs : Nat → Int32} {q h k mh : Nat → Nat} {o i kc ns : Nat} {n b : Nat} {y r t : Int32} {d : Nat → Nat} {f0 f1 f2 f3 f4 f5 f6 f7 f8 f9 f10 f11 f12 f13 : Nat → Int32} {n1 : Nat} {r1 : Int32} {g0 g1 g2 g3 g4 g5 g6 g7 g8 g9 g10 g11 g12 g13 bp bn : Nat → Int32} {u : Nat → Int64} {m0 m1 m2 m3 m4 m5 m6 m7 m8 m9 m10 m11 m12 m13 : Nat → Int32} (hl : l.stackTraces = false) (C : zv_C pP mM cD cL_law 9 sS aA wsL_law "RiverNamesLaw" A) (hA : A = fun q => sS.heap.size ≤ q) (hE : zx_E sS) (hX : va_X sc L xs sS sS.heap) (hsc : sc < sS.heap.size) (hi : i + 4 ≤ L) (hL : L ≤ 2048) (hkc : kc + 17 ≤ 601024) (hns : ns + 168 ≤ 7293034) (hI : LI n b r d f0 f1 f2 f3 f4 f5 f6 f7 f8 f9 f10 f11 f12 f13 bp bn m0 m1 m2 m3 m4 m5 m6 m7) (K : LK pP l eE sS mM aA bB mT cD Q D cI cZ cJ A sc q h k mh o i kc ns) (hf : isP b (xs (i + 1)) = false) : zv_V pP l eE room_1 sS mM aA bB mT cD Q 9 D vwCl A A (tyJ cI cZ cJ) ((cR cI cZ q h k (nI b) y (nI n) r f0 f1 f2 f3 f4 f5 f6 f7 f8 f9 f10 f11 f12 f13 (nI n1) r1 g0 g1 g2 g3 g4 g5 g6 g7 g8 g9 g10 g11 g12 g13 bp bn) ++ ((cM cI cZ mh t (nI n) r y (nI b) m0 m1 m2 m3 m4 m5 m6 m7 m8 m9 m10 m11 m12 m13) ++ [(o, .inl (cJ, 1, .inr (.inl u)))])) kc ns 1573 [(0, .ref sc), (1, .ref (q 0)), (2, .ref (mh 0)), (3, .ref o), (4, .int (nI i))] [] := by
  refine zv_aload_n C dL_law_1573 1574 rfl 1 rfl ?_
  refine zv_aload_n C dL_law_1574 1575 rfl 0 rfl ?_
  refine zv_iload C dL_law_1575 1577 rfl 4 rfl ?_
  refine zv_iconst (v := 1) C dL_law_1577 1578 rfl (by decide) ?_
  refine zv_iadd (v := (nI (i + 1))) C dL_law_1578 1579 rfl (nI_1 i) ?_
  refine zv_sld C hA hX hsc dL_law_1579 1580 rfl (i + 1) rfl (by omega) hL (v := (xs (i + 1))) rfl ?_
  refine zv_aload_n C dL_law_1580 1581 rfl 3 rfl ?_
  refine zv_callWE (rest := []) C hA hE (k_L_isInsulted_t l D cI cZ cJ q h k b y n r f0 f1 f2 f3 f4 f5 f6 f7 f8 f9 f10 f11 f12 f13 n1 r1 g0 g1 g2 g3 g4 g5 g6 g7 g8 g9 g10 g11 g12 g13 bp bn o u (xs (i + 1)) hI.b16 (by first | assumption | omega) hl) (vx_cwSW 3 C.1.2.2.2.2 gL_law_L_isInsulted rfl rfl rfl (by decide +kernel) ⟨Nat.le_of_ble_eq_true rfl, Nat.le_of_ble_eq_true rfl⟩) dL_law_1581 1584 rfl rfl rfl (Nat.le_of_ble_eq_true rfl) ⟨(by show kc + 1 ≤ 601024; omega), (by show ns + 6 ≤ 7293034; omega)⟩ [0, 1, 2] rfl [0, 1, 2, 3, 4, 5, 6, 7, 8, 9, 10, 11, 12, 13, 14, 15, 16, 17, 18, 19, 20, 21, 22, 23, 24, 25, 26, 27, 28, 29, 30, 31, 32, 48] rfl (by decide) (fun v hv => ?_)
  subst hv
  refine zv_go rfl rfl (st' := [.int 1]) rfl (kc' := kc + 1) rfl (ns' := ns + 6) rfl ?_
  refine zv_istore C dL_law_1584 1586 rfl [(5, .int 1), (0, .ref sc), (1, .ref (q 0)), (2, .ref (mh 0)), (3, .ref o), (4, .int (nI i))] (by decide) rfl ?_
  refine zv_aload_n C dL_law_1586 1587 rfl 3 rfl ?_
  refine zv_aload_n C dL_law_1587 1588 rfl 1 rfl ?_
  refine zv_iload C dL_law_1588 1590 rfl 5 rfl ?_
  refine zv_iconst (v := 1) C dL_law_1590 1591 rfl (by decide) ?_
  refine zv_iadd (v := (nI (i + 1))) C dL_law_1591 1592 rfl (nI_1 i) ?_
  refine zv_sld C hA hX hsc dL_law_1592 1593 rfl (i + 1) rfl (by omega) hL (v := (xs (i + 1))) rfl ?_
  refine zv_callV (rest := []) (wr := ((cR cI cZ q h k (nI b) y (nI n) r f0 f1 f2 f3 f4 f5 f6 f7 f8 f9 f10 f11 f12 f13 (nI n1) r1 g0 g1 g2 g3 g4 g5 g6 g7 g8 g9 g10 g11 g12 g13 bp bn) ++ [(o, .inl (cJ, 1, .inr (.inl u)))])) C (k_X2_isInsulted_no l D cI cZ mh t n r y b m0 m1 m2 m3 m4 m5 m6 m7 m8 m9 m10 m11 m12 m13 (xs (i + 1)) hI.b16 (by first | assumption | omega)) (cwV 1 C.1.2.2.2.2 gL_law_X2_isInsulted rfl rfl rfl (by decide +kernel) ⟨Nat.le_of_ble_eq_true rfl, Nat.le_of_ble_eq_true rfl⟩) dL_law_1593 1596 rfl (ci := 2) 0 rfl rfl rfl rfl (Nat.le_of_ble_eq_true rfl) ⟨(by show kc + 1 + 0 ≤ 601024; omega), (by show ns + 6 + 0 ≤ 7293034; omega)⟩ [0, 1] rfl [33, 34, 35, 36, 37, 38, 39, 40, 41, 42, 43, 44, 45, 46, 47] rfl (by decide) [0, 1, 2, 3, 4, 5, 6, 7, 8, 9, 10, 11, 12, 13, 14, 15, 16, 17, 18, 19, 20, 21, 22, 23, 24, 25, 26, 27, 28, 29, 30, 31, 32, 48] rfl (by decide) (by decide +kernel) (fun v w hv => ?_)
  obtain ⟨rfl, rfl⟩ := hv
  refine zv_go rfl rfl (st' := [.int 0]) rfl (kc' := kc + 1) rfl (ns' := ns + 6) rfl ?_
  refine zv_perm [0, 1, 2, 3, 4, 5, 6, 7, 8, 9, 10, 11, 12, 13, 14, 15, 16, 17, 18, 19, 20, 21, 22, 23, 24, 25, 26, 27, 28, 29, 30, 31, 32, 34, 35, 36, 37, 38, 39, 40, 41, 42, 43, 44, 45, 46, 47, 48, 33] (ws' := ((cR cI cZ q h k (nI b) y (nI n) r f0 f1 f2 f3 f4 f5 f6 f7 f8 f9 f10 f11 f12 f13 (nI n1) r1 g0 g1 g2 g3 g4 g5 g6 g7 g8 g9 g10 g11 g12 g13 bp bn) ++ ((cM cI cZ mh 1 (nI n) r y (nI b) m0 m1 m2 m3 m4 m5 m6 m7 m8 m9 m10 m11 m12 m13) ++ [(o, .inl (cJ, 1, .inr (.inl u)))]))) (by decide) rfl ?_
  refine zv_istore C dL_law_1596 1598 rfl [(6, .int 0), (5, .int 1), (0, .ref sc), (1, .ref (q 0)), (2, .ref (mh 0)), (3, .ref o), (4, .int (nI i))] (by decide) rfl ?_
  refine zv_aload_n C dL_law_1598 1599 rfl 4 rfl ?_
  refine zv_callVR (rest := []) C (k_X2_thrown l D cI cZ mh 1 n r y b m0 m1 m2 m3 m4 m5 m6 m7 m8 m9 m10 m11 m12 m13 ) (cwV 0 C.1.2.2.2.2 gL_law_X2_thrown rfl rfl rfl (by decide +kernel) ⟨Nat.le_of_ble_eq_true rfl, Nat.le_of_ble_eq_true rfl⟩) dL_law_1599 1602 rfl (ci := 2) 0 rfl rfl rfl rfl (Nat.le_of_ble_eq_true rfl) ⟨(by show kc + 1 + 0 ≤ 601024; omega), (by show ns + 6 + 0 ≤ 7293034; omega)⟩ [0, 1] rfl [33, 34, 35, 36, 37, 38, 39, 40, 41, 42, 43, 44, 45, 46, 47] rfl (by decide) (fun v hv => ?_)
  subst hv
  refine zv_go rfl rfl (st' := [.int 1]) rfl (kc' := kc + 1) rfl (ns' := ns + 6) rfl ?_
  refine zv_iload C dL_law_1602 1604 rfl 1 rfl ?_
  refine zv_icmp_eq C dL_law_1604 1607 1609 rfl (by decide) (fun _ => ?_) (fun q => absurd (by decide) q)
  refine zv_iload C dL_law_1609 1611 rfl 1 rfl ?_
  refine zv_if_ne C dL_law_1611 1614 1633 rfl (by decide) (fun _ => ?_) (fun q => absurd q (by decide))
  refine zv_goto C dL_law_1633 1966 (by decide) ?_
  refine zv_widen (k' := kc + 17) (n' := ns + 168) (by omega) (by omega) ?_
  refine zv_sub [2, 3, 4, 5, 6] (lv' := [(0, .ref sc), (1, .ref (q 0)), (2, .ref (mh 0)), (3, .ref o), (4, .int (nI i))]) rfl ?_
  exact K n b y r 1 d f0 f1 f2 f3 f4 f5 f6 f7 f8 f9 f10 f11 f12 f13 n1 r1 g0 g1 g2 g3 g4 g5 g6 g7 g8 g9 g10 g11 g12 g13 bp bn u m0 m1 m2 m3 m4 m5 m6 m7 m8 m9 m10 m11 m12 m13 hI
set_option maxHeartbeats 4000000 in
set_option maxRecDepth 100000 in
theorem lc_isInsulted_ok {pP : Program} {l : Launch} {eE : Env} {sS : State} {mM : MethodId} {aA : Array Value} {bB : List Frame} {mT : Method} {cD : Code} {Q : State → Prop} {D : va_G} {cI cZ cJ : ClassId} {A : Nat → Prop} {sc L : Nat} {xs : Nat → Int32} {q h k mh : Nat → Nat} {o i kc ns : Nat} {n b : Nat} {y r t : Int32} {d : Nat → Nat} {f0 f1 f2 f3 f4 f5 f6 f7 f8 f9 f10 f11 f12 f13 : Nat → Int32} {n1 : Nat} {r1 : Int32} {g0 g1 g2 g3 g4 g5 g6 g7 g8 g9 g10 g11 g12 g13 bp bn : Nat → Int32} {u : Nat → Int64} {m0 m1 m2 m3 m4 m5 m6 m7 m8 m9 m10 m11 m12 m13 : Nat → Int32} (hl : l.stackTraces = false) (C : zv_C pP mM cD cL_law 9 sS aA wsL_law "RiverNamesLaw" A) (hA : A = fun q => sS.heap.size ≤ q) (hE : zx_E sS) (hX : va_X sc L xs sS sS.heap) (hsc : sc < sS.heap.size) (hi : i + 4 ≤ L) (hL : L ≤ 2048) (hkc : kc + 17 ≤ 601024) (hns : ns + 168 ≤ 7293034) (hI : LI n b r d f0 f1 f2 f3 f4 f5 f6 f7 f8 f9 f10 f11 f12 f13 bp bn m0 m1 m2 m3 m4 m5 m6 m7) (K : LK pP l eE sS mM aA bB mT cD Q D cI cZ cJ A sc q h k mh o i kc ns) (p : Nat) (hp : p < b) (e1 : xs (i + 1) = nI p) : zv_V pP l eE room_1 sS mM aA bB mT cD Q 9 D vwCl A A (tyJ cI cZ cJ) ((cR cI cZ q h k (nI b) y (nI n) r f0 f1 f2 f3 f4 f5 f6 f7 f8 f9 f10 f11 f12 f13 (nI n1) r1 g0 g1 g2 g3 g4 g5 g6 g7 g8 g9 g10 g11 g12 g13 bp bn) ++ ((cM cI cZ mh t (nI n) r y (nI b) m0 m1 m2 m3 m4 m5 m6 m7 m8 m9 m10 m11 m12 m13) ++ [(o, .inl (cJ, 1, .inr (.inl u)))])) kc ns 1573 [(0, .ref sc), (1, .ref (q 0)), (2, .ref (mh 0)), (3, .ref o), (4, .int (nI i))] [] := by
  refine zv_aload_n C dL_law_1573 1574 rfl 1 rfl ?_
  refine zv_aload_n C dL_law_1574 1575 rfl 0 rfl ?_
  refine zv_iload C dL_law_1575 1577 rfl 4 rfl ?_
  refine zv_iconst (v := 1) C dL_law_1577 1578 rfl (by decide) ?_
  refine zv_iadd (v := (nI (i + 1))) C dL_law_1578 1579 rfl (nI_1 i) ?_
  refine zv_sld C hA hX hsc dL_law_1579 1580 rfl (i + 1) rfl (by omega) hL (v := (nI p)) e1 ?_
  refine zv_aload_n C dL_law_1580 1581 rfl 3 rfl ?_
  refine zv_callW (rest := []) (wr := (cM cI cZ mh t (nI n) r y (nI b) m0 m1 m2 m3 m4 m5 m6 m7 m8 m9 m10 m11 m12 m13)) C (k_L_isInsulted_ok l D cI cZ cJ q h k b y n r f0 f1 f2 f3 f4 f5 f6 f7 f8 f9 f10 f11 f12 f13 n1 r1 g0 g1 g2 g3 g4 g5 g6 g7 g8 g9 g10 g11 g12 g13 bp bn o u p hI.n16 hI.b16 hI.brg (by first | assumption | omega)) (vx_cwSW 3 C.1.2.2.2.2 gL_law_L_isInsulted rfl rfl rfl (by decide +kernel) ⟨Nat.le_of_ble_eq_true rfl, Nat.le_of_ble_eq_true rfl⟩) dL_law_1581 1584 rfl rfl rfl (Nat.le_of_ble_eq_true rfl) ⟨(by show kc + 0 ≤ 601024; omega), (by show ns + 0 ≤ 7293034; omega)⟩ [0, 1, 2] rfl [0, 1, 2, 3, 4, 5, 6, 7, 8, 9, 10, 11, 12, 13, 14, 15, 16, 17, 18, 19, 20, 21, 22, 23, 24, 25, 26, 27, 28, 29, 30, 31, 32, 48] rfl (by decide) [33, 34, 35, 36, 37, 38, 39, 40, 41, 42, 43, 44, 45, 46, 47] rfl (by decide) (by decide +kernel) (fun v w hv => ?_)
  obtain ⟨uo_1, rfl, rfl, hu⟩ := hv
  refine zv_go rfl rfl (st' := [.int 0]) rfl (kc' := kc) rfl (ns' := ns) rfl ?_
  refine zv_perm [15, 16, 17, 18, 19, 20, 21, 22, 23, 24, 25, 26, 27, 28, 29, 30, 31, 32, 33, 34, 35, 36, 37, 38, 39, 40, 41, 42, 43, 44, 45, 46, 47, 0, 1, 2, 3, 4, 5, 6, 7, 8, 9, 10, 11, 12, 13, 14, 48] (ws' := ((cR cI cZ q h k (nI b) y (nI n) r f0 f1 f2 f3 f4 f5 f6 f7 f8 f9 f10 f11 f12 f13 (nI n1) r1 g0 g1 g2 g3 g4 g5 g6 g7 g8 g9 g10 g11 g12 g13 bp bn) ++ ((cM cI cZ mh t (nI n) r y (nI b) m0 m1 m2 m3 m4 m5 m6 m7 m8 m9 m10 m11 m12 m13) ++ [(o, .inl (cJ, 1, .inr (.inl uo_1)))]))) (by decide) rfl ?_
  refine zv_istore C dL_law_1584 1586 rfl [(5, .int 0), (0, .ref sc), (1, .ref (q 0)), (2, .ref (mh 0)), (3, .ref o), (4, .int (nI i))] (by decide) rfl ?_
  refine zv_aload_n C dL_law_1586 1587 rfl 3 rfl ?_
  refine zv_aload_n C dL_law_1587 1588 rfl 1 rfl ?_
  refine zv_iload C dL_law_1588 1590 rfl 5 rfl ?_
  refine zv_iconst (v := 1) C dL_law_1590 1591 rfl (by decide) ?_
  refine zv_iadd (v := (nI (i + 1))) C dL_law_1591 1592 rfl (nI_1 i) ?_
  refine zv_sld C hA hX hsc dL_law_1592 1593 rfl (i + 1) rfl (by omega) hL (v := (nI p)) e1 ?_
  refine zv_callV (rest := []) (wr := ((cR cI cZ q h k (nI b) y (nI n) r f0 f1 f2 f3 f4 f5 f6 f7 f8 f9 f10 f11 f12 f13 (nI n1) r1 g0 g1 g2 g3 g4 g5 g6 g7 g8 g9 g10 g11 g12 g13 bp bn) ++ [(o, .inl (cJ, 1, .inr (.inl uo_1)))])) C (k_X2_isInsulted_ok l D cI cZ mh t n r y b m0 m1 m2 m3 m4 m5 m6 m7 m8 m9 m10 m11 m12 m13 p f1 d hI.n16 hI.depM hI.b16 hI.brgM (by first | assumption | omega)) (cwV 1 C.1.2.2.2.2 gL_law_X2_isInsulted rfl rfl rfl (by decide +kernel) ⟨Nat.le_of_ble_eq_true rfl, Nat.le_of_ble_eq_true rfl⟩) dL_law_1593 1596 rfl (ci := 2) 0 rfl rfl rfl rfl (Nat.le_of_ble_eq_true rfl) ⟨(by show kc + 0 ≤ 601024; omega), (by show ns + 0 ≤ 7293034; omega)⟩ [0, 1] rfl [33, 34, 35, 36, 37, 38, 39, 40, 41, 42, 43, 44, 45, 46, 47] rfl (by decide) [0, 1, 2, 3, 4, 5, 6, 7, 8, 9, 10, 11, 12, 13, 14, 15, 16, 17, 18, 19, 20, 21, 22, 23, 24, 25, 26, 27, 28, 29, 30, 31, 32, 48] rfl (by decide) (by decide +kernel) (fun v w hv => ?_)
  obtain ⟨eg8_2, eg9_2, eg10_2, eg11_2, rfl, rfl⟩ := hv
  refine zv_go rfl rfl (st' := [.int (zb (insd (m7 p) ((nmS n m0 m1 m2 m3 m5 r) (m6 p).toNatClampNeg)))]) rfl (kc' := kc) rfl (ns' := ns) rfl ?_
  refine zv_perm [0, 1, 2, 3, 4, 5, 6, 7, 8, 9, 10, 11, 12, 13, 14, 15, 16, 17, 18, 19, 20, 21, 22, 23, 24, 25, 26, 27, 28, 29, 30, 31, 32, 34, 35, 36, 37, 38, 39, 40, 41, 42, 43, 44, 45, 46, 47, 48, 33] (ws' := ((cR cI cZ q h k (nI b) y (nI n) r f0 f1 f2 f3 f4 f5 f6 f7 f8 f9 f10 f11 f12 f13 (nI n1) r1 g0 g1 g2 g3 g4 g5 g6 g7 g8 g9 g10 g11 g12 g13 bp bn) ++ ((cM cI cZ mh 0 (nI n) r y (nI b) m0 m1 m2 m3 m4 m5 m6 m7 eg8_2 eg9_2 eg10_2 eg11_2 m12 m13) ++ [(o, .inl (cJ, 1, .inr (.inl uo_1)))]))) (by decide) rfl ?_
  refine zv_istore C dL_law_1596 1598 rfl [(6, .int (zb (insd (m7 p) ((nmS n m0 m1 m2 m3 m5 r) (m6 p).toNatClampNeg)))), (5, .int 0), (0, .ref sc), (1, .ref (q 0)), (2, .ref (mh 0)), (3, .ref o), (4, .int (nI i))] (by decide) rfl ?_
  refine zv_aload_n C dL_law_1598 1599 rfl 4 rfl ?_
  refine zv_callVR (rest := []) C (k_X2_thrown l D cI cZ mh 0 n r y b m0 m1 m2 m3 m4 m5 m6 m7 eg8_2 eg9_2 eg10_2 eg11_2 m12 m13 ) (cwV 0 C.1.2.2.2.2 gL_law_X2_thrown rfl rfl rfl (by decide +kernel) ⟨Nat.le_of_ble_eq_true rfl, Nat.le_of_ble_eq_true rfl⟩) dL_law_1599 1602 rfl (ci := 2) 0 rfl rfl rfl rfl (Nat.le_of_ble_eq_true rfl) ⟨(by show kc + 0 ≤ 601024; omega), (by show ns + 0 ≤ 7293034; omega)⟩ [0, 1] rfl [33, 34, 35, 36, 37, 38, 39, 40, 41, 42, 43, 44, 45, 46, 47] rfl (by decide) (fun v hv => ?_)
  subst hv
  refine zv_go rfl rfl (st' := [.int 0]) rfl (kc' := kc) rfl (ns' := ns) rfl ?_
  refine zv_iload C dL_law_1602 1604 rfl 1 rfl ?_
  refine zv_icmp_eq C dL_law_1604 1607 1609 rfl (by decide) (fun _ => ?_) (fun q => absurd (by decide) q)
  refine zv_iload C dL_law_1609 1611 rfl 1 rfl ?_
  refine zv_if_ne C dL_law_1611 1614 1633 rfl (by decide) (fun q => absurd (by decide) q) (fun _ => ?_)
  refine zv_aload_n C dL_law_1614 1615 rfl 5 rfl ?_
  refine zv_iconst (v := 0) C dL_law_1615 1616 rfl (by decide) ?_
  refine zv_lald (v := (uo_1 0)) C dL_law_1616 1617 rfl 48 2 0 rfl rfl (by decide) (by decide) (by decide) rfl ?_
  refine zv_iload C dL_law_1617 1619 rfl 0 rfl ?_
  refine zv_if_eq C dL_law_1619 1622 1626 rfl (by decide) (fun c1 => ?_) (fun c1 => ?_)
  · refine zv_lconst (v := 0) C dL_law_1626 1627 rfl rfl ?_
    refine zv_lcmpE C dL_law_1627 1628 rfl (hu.trans ((congrArg bitL (congrArg zb (hI.vIns hp))).trans (bitL_y c1))) ?_
    refine zv_if_eq C dL_law_1628 1631 1633 rfl (by decide) (fun _ => ?_) (fun q => absurd (by decide) q)
    refine zv_goto C dL_law_1633 1966 (by decide) ?_
    refine zv_widen (k' := kc + 17) (n' := ns + 168) (by omega) (by omega) ?_
    refine zv_sub [2, 3, 4, 5, 6] (lv' := [(0, .ref sc), (1, .ref (q 0)), (2, .ref (mh 0)), (3, .ref o), (4, .int (nI i))]) rfl ?_
    exact K n b y r 0 d f0 f1 f2 f3 f4 f5 f6 f7 f8 f9 f10 f11 f12 f13 n1 r1 g0 g1 g2 g3 g4 g5 g6 g7 g8 g9 g10 g11 g12 g13 bp bn uo_1 m0 m1 m2 m3 m4 m5 m6 m7 eg8_2 eg9_2 eg10_2 eg11_2 m12 m13 hI
  · refine zv_lconst (v := 1) C dL_law_1622 1623 rfl rfl ?_
    refine zv_goto C dL_law_1623 1627 (by decide) ?_
    refine zv_lcmpE C dL_law_1627 1628 rfl (hu.trans ((congrArg bitL (congrArg zb (hI.vIns hp))).trans (bitL_n c1))) ?_
    refine zv_if_eq C dL_law_1628 1631 1633 rfl (by decide) (fun _ => ?_) (fun q => absurd (by decide) q)
    refine zv_goto C dL_law_1633 1966 (by decide) ?_
    refine zv_widen (k' := kc + 17) (n' := ns + 168) (by omega) (by omega) ?_
    refine zv_sub [2, 3, 4, 5, 6] (lv' := [(0, .ref sc), (1, .ref (q 0)), (2, .ref (mh 0)), (3, .ref o), (4, .int (nI i))]) rfl ?_
    exact K n b y r 0 d f0 f1 f2 f3 f4 f5 f6 f7 f8 f9 f10 f11 f12 f13 n1 r1 g0 g1 g2 g3 g4 g5 g6 g7 g8 g9 g10 g11 g12 g13 bp bn uo_1 m0 m1 m2 m3 m4 m5 m6 m7 eg8_2 eg9_2 eg10_2 eg11_2 m12 m13 hI
set_option maxHeartbeats 4000000 in
set_option maxRecDepth 100000 in
theorem lc_isAbove_n1 {pP : Program} {l : Launch} {eE : Env} {sS : State} {mM : MethodId} {aA : Array Value} {bB : List Frame} {mT : Method} {cD : Code} {Q : State → Prop} {D : va_G} {cI cZ cJ : ClassId} {A : Nat → Prop} {sc L : Nat} {xs : Nat → Int32} {q h k mh : Nat → Nat} {o i kc ns : Nat} {n b : Nat} {y r t : Int32} {d : Nat → Nat} {f0 f1 f2 f3 f4 f5 f6 f7 f8 f9 f10 f11 f12 f13 : Nat → Int32} {n1 : Nat} {r1 : Int32} {g0 g1 g2 g3 g4 g5 g6 g7 g8 g9 g10 g11 g12 g13 bp bn : Nat → Int32} {u : Nat → Int64} {m0 m1 m2 m3 m4 m5 m6 m7 m8 m9 m10 m11 m12 m13 : Nat → Int32} (hl : l.stackTraces = false) (C : zv_C pP mM cD cL_law 9 sS aA wsL_law "RiverNamesLaw" A) (hA : A = fun q => sS.heap.size ≤ q) (hE : zx_E sS) (hX : va_X sc L xs sS sS.heap) (hsc : sc < sS.heap.size) (hi : i + 4 ≤ L) (hL : L ≤ 2048) (hkc : kc + 17 ≤ 601024) (hns : ns + 168 ≤ 7293034) (hI : LI n b r d f0 f1 f2 f3 f4 f5 f6 f7 f8 f9 f10 f11 f12 f13 bp bn m0 m1 m2 m3 m4 m5 m6 m7) (K : LK pP l eE sS mM aA bB mT cD Q D cI cZ cJ A sc q h k mh o i kc ns) (hf : isP n (xs (i + 1)) = false) : zv_V pP l eE room_1 sS mM aA bB mT cD Q 9 D vwCl A A (tyJ cI cZ cJ) ((cR cI cZ q h k (nI b) y (nI n) r f0 f1 f2 f3 f4 f5 f6 f7 f8 f9 f10 f11 f12 f13 (nI n1) r1 g0 g1 g2 g3 g4 g5 g6 g7 g8 g9 g10 g11 g12 g13 bp bn) ++ ((cM cI cZ mh t (nI n) r y (nI b) m0 m1 m2 m3 m4 m5 m6 m7 m8 m9 m10 m11 m12 m13) ++ [(o, .inl (cJ, 1, .inr (.inl u)))])) kc ns 992 [(0, .ref sc), (1, .ref (q 0)), (2, .ref (mh 0)), (3, .ref o), (4, .int (nI i))] [] := by
  refine zv_aload_n C dL_law_992 993 rfl 1 rfl ?_
  refine zv_aload_n C dL_law_993 994 rfl 0 rfl ?_
  refine zv_iload C dL_law_994 996 rfl 4 rfl ?_
  refine zv_iconst (v := 1) C dL_law_996 997 rfl (by decide) ?_
  refine zv_iadd (v := (nI (i + 1))) C dL_law_997 998 rfl (nI_1 i) ?_
  refine zv_sld C hA hX hsc dL_law_998 999 rfl (i + 1) rfl (by omega) hL (v := (xs (i + 1))) rfl ?_
  refine zv_aload_n C dL_law_999 1000 rfl 0 rfl ?_
  refine zv_iload C dL_law_1000 1002 rfl 4 rfl ?_
  refine zv_iconst (v := 2) C dL_law_1002 1003 rfl (by decide) ?_
  refine zv_iadd (v := (nI (i + 2))) C dL_law_1003 1004 rfl (nI_c i 2 2 rfl) ?_
  refine zv_sld C hA hX hsc dL_law_1004 1005 rfl (i + 2) rfl (by omega) hL (v := (xs (i + 2))) rfl ?_
  refine zv_aload_n C dL_law_1005 1006 rfl 3 rfl ?_
  refine zv_callWE (rest := []) C hA hE (k_L_isAbove_t1 l D cI cZ cJ q h k b y n r f0 f1 f2 f3 f4 f5 f6 f7 f8 f9 f10 f11 f12 f13 n1 r1 g0 g1 g2 g3 g4 g5 g6 g7 g8 g9 g10 g11 g12 g13 bp bn o u (xs (i + 1)) (xs (i + 2)) hI.n16 (by first | assumption | omega) hl) (vx_cwSW 4 C.1.2.2.2.2 gL_law_L_isAbove rfl rfl rfl (by decide +kernel) ⟨Nat.le_of_ble_eq_true rfl, Nat.le_of_ble_eq_true rfl⟩) dL_law_1006 1009 rfl rfl rfl (Nat.le_of_ble_eq_true rfl) ⟨(by show kc + 1 ≤ 601024; omega), (by show ns + 6 ≤ 7293034; omega)⟩ [0, 1, 2] rfl [0, 1, 2, 3, 4, 5, 6, 7, 8, 9, 10, 11, 12, 13, 14, 15, 16, 17, 18, 19, 20, 21, 22, 23, 24, 25, 26, 27, 28, 29, 30, 31, 32, 48] rfl (by decide) (fun v hv => ?_)
  subst hv
  refine zv_go rfl rfl (st' := [.int 1]) rfl (kc' := kc + 1) rfl (ns' := ns + 6) rfl ?_
  refine zv_istore C dL_law_1009 1011 rfl [(5, .int 1), (0, .ref sc), (1, .ref (q 0)), (2, .ref (mh 0)), (3, .ref o), (4, .int (nI i))] (by decide) rfl ?_
  refine zv_aload_n C dL_law_1011 1012 rfl 3 rfl ?_
  refine zv_aload_n C dL_law_1012 1013 rfl 1 rfl ?_
  refine zv_iload C dL_law_1013 1015 rfl 5 rfl ?_
  refine zv_iconst (v := 1) C dL_law_1015 1016 rfl (by decide) ?_
  refine zv_iadd (v := (nI (i + 1))) C dL_law_1016 1017 rfl (nI_1 i) ?_
  refine zv_sld C hA hX hsc dL_law_1017 1018 rfl (i + 1) rfl (by omega) hL (v := (xs (i + 1))) rfl ?_
  refine zv_aload_n C dL_law_1018 1019 rfl 1 rfl ?_
  refine zv_iload C dL_law_1019 1021 rfl 5 rfl ?_
  refine zv_iconst (v := 2) C dL_law_1021 1022 rfl (by decide) ?_
  refine zv_iadd (v := (nI (i + 2))) C dL_law_1022 1023 rfl (nI_c i 2 2 rfl) ?_
  refine zv_sld C hA hX hsc dL_law_1023 1024 rfl (i + 2) rfl (by omega) hL (v := (xs (i + 2))) rfl ?_
  refine zv_callV (rest := []) (wr := ((cR cI cZ q h k (nI b) y (nI n) r f0 f1 f2 f3 f4 f5 f6 f7 f8 f9 f10 f11 f12 f13 (nI n1) r1 g0 g1 g2 g3 g4 g5 g6 g7 g8 g9 g10 g11 g12 g13 bp bn) ++ [(o, .inl (cJ, 1, .inr (.inl u)))])) C (k_X2_isAbove_n1 l D cI cZ mh t n r y b m0 m1 m2 m3 m4 m5 m6 m7 m8 m9 m10 m11 m12 m13 (xs (i + 1)) (xs (i + 2)) hI.n16 (by first | assumption | omega)) (cwV 2 C.1.2.2.2.2 gL_law_X2_isAbove rfl rfl rfl (by decide +kernel) ⟨Nat.le_of_ble_eq_true rfl, Nat.le_of_ble_eq_true rfl⟩) dL_law_1024 1027 rfl (ci := 2) 0 rfl rfl rfl rfl (Nat.le_of_ble_eq_true rfl) ⟨(by show kc + 1 + 0 ≤ 601024; omega), (by show ns + 6 + 0 ≤ 7293034; omega)⟩ [0, 1] rfl [33, 34, 35, 36, 37, 38, 39, 40, 41, 42, 43, 44, 45, 46, 47] rfl (by decide) [0, 1, 2, 3, 4, 5, 6, 7, 8, 9, 10, 11, 12, 13, 14, 15, 16, 17, 18, 19, 20, 21, 22, 23, 24, 25, 26, 27, 28, 29, 30, 31, 32, 48] rfl (by decide) (by decide +kernel) (fun v w hv => ?_)
  obtain ⟨rfl, rfl⟩ := hv
  refine zv_go rfl rfl (st' := [.int 0]) rfl (kc' := kc + 1) rfl (ns' := ns + 6) rfl ?_
  refine zv_perm [0, 1, 2, 3, 4, 5, 6, 7, 8, 9, 10, 11, 12, 13, 14, 15, 16, 17, 18, 19, 20, 21, 22, 23, 24, 25, 26, 27, 28, 29, 30, 31, 32, 34, 35, 36, 37, 38, 39, 40, 41, 42, 43, 44, 45, 46, 47, 48, 33] (ws' := ((cR cI cZ q h k (nI b) y (nI n) r f0 f1 f2 f3 f4 f5 f6 f7 f8 f9 f10 f11 f12 f13 (nI n1) r1 g0 g1 g2 g3 g4 g5 g6 g7 g8 g9 g10 g11 g12 g13 bp bn) ++ ((cM cI cZ mh 1 (nI n) r y (nI b) m0 m1 m2 m3 m4 m5 m6 m7 m8 m9 m10 m11 m12 m13) ++ [(o, .inl (cJ, 1, .inr (.inl u)))]))) (by decide) rfl ?_
  refine zv_istore C dL_law_1027 1029 rfl [(6, .int 0), (5, .int 1), (0, .ref sc), (1, .ref (q 0)), (2, .ref (mh 0)), (3, .ref o), (4, .int (nI i))] (by decide) rfl ?_
  refine zv_aload_n C dL_law_1029 1030 rfl 4 rfl ?_
  refine zv_callVR (rest := []) C (k_X2_thrown l D cI cZ mh 1 n r y b m0 m1 m2 m3 m4 m5 m6 m7 m8 m9 m10 m11 m12 m13 ) (cwV 0 C.1.2.2.2.2 gL_law_X2_thrown rfl rfl rfl (by decide +kernel) ⟨Nat.le_of_ble_eq_true rfl, Nat.le_of_ble_eq_true rfl⟩) dL_law_1030 1033 rfl (ci := 2) 0 rfl rfl rfl rfl (Nat.le_of_ble_eq_true rfl) ⟨(by show kc + 1 + 0 ≤ 601024; omega), (by show ns + 6 + 0 ≤ 7293034; omega)⟩ [0, 1] rfl [33, 34, 35, 36, 37, 38, 39, 40, 41, 42, 43, 44, 45, 46, 47] rfl (by decide) (fun v hv => ?_)
  subst hv
  refine zv_go rfl rfl (st' := [.int 1]) rfl (kc' := kc + 1) rfl (ns' := ns + 6) rfl ?_
  refine zv_iload C dL_law_1033 1035 rfl 1 rfl ?_
  refine zv_icmp_eq C dL_law_1035 1038 1040 rfl (by decide) (fun _ => ?_) (fun q => absurd (by decide) q)
  refine zv_iload C dL_law_1040 1042 rfl 1 rfl ?_
  refine zv_if_ne C dL_law_1042 1045 1064 rfl (by decide) (fun _ => ?_) (fun q => absurd q (by decide))
  refine zv_goto C dL_law_1064 1966 (by decide) ?_
  refine zv_widen (k' := kc + 17) (n' := ns + 168) (by omega) (by omega) ?_
  refine zv_sub [2, 3, 4, 5, 6] (lv' := [(0, .ref sc), (1, .ref (q 0)), (2, .ref (mh 0)), (3, .ref o), (4, .int (nI i))]) rfl ?_
  exact K n b y r 1 d f0 f1 f2 f3 f4 f5 f6 f7 f8 f9 f10 f11 f12 f13 n1 r1 g0 g1 g2 g3 g4 g5 g6 g7 g8 g9 g10 g11 g12 g13 bp bn u m0 m1 m2 m3 m4 m5 m6 m7 m8 m9 m10 m11 m12 m13 hI
set_option maxHeartbeats 4000000 in
set_option maxRecDepth 100000 in
theorem lc_isAbove_n2 {pP : Program} {l : Launch} {eE : Env} {sS : State} {mM : MethodId} {aA : Array Value} {bB : List Frame} {mT : Method} {cD : Code} {Q : State → Prop} {D : va_G} {cI cZ cJ : ClassId} {A : Nat → Prop} {sc L : Nat} {xs : Nat → Int32} {q h k mh : Nat → Nat} {o i kc ns : Nat} {n b : Nat} {y r t : Int32} {d : Nat → Nat} {f0 f1 f2 f3 f4 f5 f6 f7 f8 f9 f10 f11 f12 f13 : Nat → Int32} {n1 : Nat} {r1 : Int32} {g0 g1 g2 g3 g4 g5 g6 g7 g8 g9 g10 g11 g12 g13 bp bn : Nat → Int32} {u : Nat → Int64} {m0 m1 m2 m3 m4 m5 m6 m7 m8 m9 m10 m11 m12 m13 : Nat → Int32} (hl : l.stackTraces = false) (C : zv_C pP mM cD cL_law 9 sS aA wsL_law "RiverNamesLaw" A) (hA : A = fun q => sS.heap.size ≤ q) (hE : zx_E sS) (hX : va_X sc L xs sS sS.heap) (hsc : sc < sS.heap.size) (hi : i + 4 ≤ L) (hL : L ≤ 2048) (hkc : kc + 17 ≤ 601024) (hns : ns + 168 ≤ 7293034) (hI : LI n b r d f0 f1 f2 f3 f4 f5 f6 f7 f8 f9 f10 f11 f12 f13 bp bn m0 m1 m2 m3 m4 m5 m6 m7) (K : LK pP l eE sS mM aA bB mT cD Q D cI cZ cJ A sc q h k mh o i kc ns) (p : Nat) (hp : p < n) (e1 : xs (i + 1) = nI p) (hf : isP n (xs (i + 2)) = false) : zv_V pP l eE room_1 sS mM aA bB mT cD Q 9 D vwCl A A (tyJ cI cZ cJ) ((cR cI cZ q h k (nI b) y (nI n) r f0 f1 f2 f3 f4 f5 f6 f7 f8 f9 f10 f11 f12 f13 (nI n1) r1 g0 g1 g2 g3 g4 g5 g6 g7 g8 g9 g10 g11 g12 g13 bp bn) ++ ((cM cI cZ mh t (nI n) r y (nI b) m0 m1 m2 m3 m4 m5 m6 m7 m8 m9 m10 m11 m12 m13) ++ [(o, .inl (cJ, 1, .inr (.inl u)))])) kc ns 992 [(0, .ref sc), (1, .ref (q 0)), (2, .ref (mh 0)), (3, .ref o), (4, .int (nI i))] [] := by
  refine zv_aload_n C dL_law_992 993 rfl 1 rfl ?_
  refine zv_aload_n C dL_law_993 994 rfl 0 rfl ?_
  refine zv_iload C dL_law_994 996 rfl 4 rfl ?_
  refine zv_iconst (v := 1) C dL_law_996 997 rfl (by decide) ?_
  refine zv_iadd (v := (nI (i + 1))) C dL_law_997 998 rfl (nI_1 i) ?_
  refine zv_sld C hA hX hsc dL_law_998 999 rfl (i + 1) rfl (by omega) hL (v := (nI p)) e1 ?_
  refine zv_aload_n C dL_law_999 1000 rfl 0 rfl ?_
  refine zv_iload C dL_law_1000 1002 rfl 4 rfl ?_
  refine zv_iconst (v := 2) C dL_law_1002 1003 rfl (by decide) ?_
  refine zv_iadd (v := (nI (i + 2))) C dL_law_1003 1004 rfl (nI_c i 2 2 rfl) ?_
  refine zv_sld C hA hX hsc dL_law_1004 1005 rfl (i + 2) rfl (by omega) hL (v := (xs (i + 2))) rfl ?_
  refine zv_aload_n C dL_law_1005 1006 rfl 3 rfl ?_
  refine zv_callWE (rest := []) C hA hE (k_L_isAbove_t2 l D cI cZ cJ q h k b y n r f0 f1 f2 f3 f4 f5 f6 f7 f8 f9 f10 f11 f12 f13 n1 r1 g0 g1 g2 g3 g4 g5 g6 g7 g8 g9 g10 g11 g12 g13 bp bn o u p (xs (i + 2)) hI.n16 (by first | assumption | omega) (by first | assumption | omega) hl) (vx_cwSW 4 C.1.2.2.2.2 gL_law_L_isAbove rfl rfl rfl (by decide +kernel) ⟨Nat.le_of_ble_eq_true rfl, Nat.le_of_ble_eq_true rfl⟩) dL_law_1006 1009 rfl rfl rfl (Nat.le_of_ble_eq_true rfl) ⟨(by show kc + 1 ≤ 601024; omega), (by show ns + 6 ≤ 7293034; omega)⟩ [0, 1, 2] rfl [0, 1, 2, 3, 4, 5, 6, 7, 8, 9, 10, 11, 12, 13, 14, 15, 16, 17, 18, 19, 20, 21, 22, 23, 24, 25, 26, 27, 28, 29, 30, 31, 32, 48] rfl (by decide) (fun v hv => ?_)
  subst hv
  refine zv_go rfl rfl (st' := [.int 1]) rfl (kc' := kc + 1) rfl (ns' := ns + 6) rfl ?_
  refine zv_istore C dL_law_1009 1011 rfl [(5, .int 1), (0, .ref sc), (1, .ref (q 0)), (2, .ref (mh 0)), (3, .ref o), (4, .int (nI i))] (by decide) rfl ?_
  refine zv_aload_n C dL_law_1011 1012 rfl 3 rfl ?_
  refine zv_aload_n C dL_law_1012 1013 rfl 1 rfl ?_
  refine zv_iload C dL_law_1013 1015 rfl 5 rfl ?_
  refine zv_iconst (v := 1) C dL_law_1015 1016 rfl (by decide) ?_
  refine zv_iadd (v := (nI (i + 1))) C dL_law_1016 1017 rfl (nI_1 i) ?_
  refine zv_sld C hA hX hsc dL_law_1017 1018 rfl (i + 1) rfl (by omega) hL (v := (nI p)) e1 ?_
  refine zv_aload_n C dL_law_1018 1019 rfl 1 rfl ?_
  refine zv_iload C dL_law_1019 1021 rfl 5 rfl ?_
  refine zv_iconst (v := 2) C dL_law_1021 1022 rfl (by decide) ?_
  refine zv_iadd (v := (nI (i + 2))) C dL_law_1022 1023 rfl (nI_c i 2 2 rfl) ?_
  refine zv_sld C hA hX hsc dL_law_1023 1024 rfl (i + 2) rfl (by omega) hL (v := (xs (i + 2))) rfl ?_
  refine zv_callV (rest := []) (wr := ((cR cI cZ q h k (nI b) y (nI n) r f0 f1 f2 f3 f4 f5 f6 f7 f8 f9 f10 f11 f12 f13 (nI n1) r1 g0 g1 g2 g3 g4 g5 g6 g7 g8 g9 g10 g11 g12 g13 bp bn) ++ [(o, .inl (cJ, 1, .inr (.inl u)))])) C (k_X2_isAbove_n2 l D cI cZ mh t n r y b m0 m1 m2 m3 m4 m5 m6 m7 m8 m9 m10 m11 m12 m13 p (xs (i + 2)) hI.n16 (by first | assumption | omega) (by first | assumption | omega)) (cwV 2 C.1.2.2.2.2 gL_law_X2_isAbove rfl rfl rfl (by decide +kernel) ⟨Nat.le_of_ble_eq_true rfl, Nat.le_of_ble_eq_true rfl⟩) dL_law_1024 1027 rfl (ci := 2) 0 rfl rfl rfl rfl (Nat.le_of_ble_eq_true rfl) ⟨(by show kc + 1 + 0 ≤ 601024; omega), (by show ns + 6 + 0 ≤ 7293034; omega)⟩ [0, 1] rfl [33, 34, 35, 36, 37, 38, 39, 40, 41, 42, 43, 44, 45, 46, 47] rfl (by decide) [0, 1, 2, 3, 4, 5, 6, 7, 8, 9, 10, 11, 12, 13, 14, 15, 16, 17, 18, 19, 20, 21, 22, 23, 24, 25, 26, 27, 28, 29, 30, 31, 32, 48] rfl (by decide) (by decide +kernel) (fun v w hv => ?_)
  obtain ⟨rfl, rfl⟩ := hv
  refine zv_go rfl rfl (st' := [.int 0]) rfl (kc' := kc + 1) rfl (ns' := ns + 6) rfl ?_
  refine zv_perm [0, 1, 2, 3, 4, 5, 6, 7, 8, 9, 10, 11, 12, 13, 14, 15, 16, 17, 18, 19, 20, 21, 22, 23, 24, 25, 26, 27, 28, 29, 30, 31, 32, 34, 35, 36, 37, 38, 39, 40, 41, 42, 43, 44, 45, 46, 47, 48, 33] (ws' := ((cR cI cZ q h k (nI b) y (nI n) r f0 f1 f2 f3 f4 f5 f6 f7 f8 f9 f10 f11 f12 f13 (nI n1) r1 g0 g1 g2 g3 g4 g5 g6 g7 g8 g9 g10 g11 g12 g13 bp bn) ++ ((cM cI cZ mh 1 (nI n) r y (nI b) m0 m1 m2 m3 m4 m5 m6 m7 m8 m9 m10 m11 m12 m13) ++ [(o, .inl (cJ, 1, .inr (.inl u)))]))) (by decide) rfl ?_
  refine zv_istore C dL_law_1027 1029 rfl [(6, .int 0), (5, .int 1), (0, .ref sc), (1, .ref (q 0)), (2, .ref (mh 0)), (3, .ref o), (4, .int (nI i))] (by decide) rfl ?_
  refine zv_aload_n C dL_law_1029 1030 rfl 4 rfl ?_
  refine zv_callVR (rest := []) C (k_X2_thrown l D cI cZ mh 1 n r y b m0 m1 m2 m3 m4 m5 m6 m7 m8 m9 m10 m11 m12 m13 ) (cwV 0 C.1.2.2.2.2 gL_law_X2_thrown rfl rfl rfl (by decide +kernel) ⟨Nat.le_of_ble_eq_true rfl, Nat.le_of_ble_eq_true rfl⟩) dL_law_1030 1033 rfl (ci := 2) 0 rfl rfl rfl rfl (Nat.le_of_ble_eq_true rfl) ⟨(by show kc + 1 + 0 ≤ 601024; omega), (by show ns + 6 + 0 ≤ 7293034; omega)⟩ [0, 1] rfl [33, 34, 35, 36, 37, 38, 39, 40, 41, 42, 43, 44, 45, 46, 47] rfl (by decide) (fun v hv => ?_)
  subst hv
  refine zv_go rfl rfl (st' := [.int 1]) rfl (kc' := kc + 1) rfl (ns' := ns + 6) rfl ?_
  refine zv_iload C dL_law_1033 1035 rfl 1 rfl ?_
  refine zv_icmp_eq C dL_law_1035 1038 1040 rfl (by decide) (fun _ => ?_) (fun q => absurd (by decide) q)
  refine zv_iload C dL_law_1040 1042 rfl 1 rfl ?_
  refine zv_if_ne C dL_law_1042 1045 1064 rfl (by decide) (fun _ => ?_) (fun q => absurd q (by decide))
  refine zv_goto C dL_law_1064 1966 (by decide) ?_
  refine zv_widen (k' := kc + 17) (n' := ns + 168) (by omega) (by omega) ?_
  refine zv_sub [2, 3, 4, 5, 6] (lv' := [(0, .ref sc), (1, .ref (q 0)), (2, .ref (mh 0)), (3, .ref o), (4, .int (nI i))]) rfl ?_
  exact K n b y r 1 d f0 f1 f2 f3 f4 f5 f6 f7 f8 f9 f10 f11 f12 f13 n1 r1 g0 g1 g2 g3 g4 g5 g6 g7 g8 g9 g10 g11 g12 g13 bp bn u m0 m1 m2 m3 m4 m5 m6 m7 m8 m9 m10 m11 m12 m13 hI
set_option maxHeartbeats 4000000 in
set_option maxRecDepth 100000 in
theorem lc_isAbove_ok {pP : Program} {l : Launch} {eE : Env} {sS : State} {mM : MethodId} {aA : Array Value} {bB : List Frame} {mT : Method} {cD : Code} {Q : State → Prop} {D : va_G} {cI cZ cJ : ClassId} {A : Nat → Prop} {sc L : Nat} {xs : Nat → Int32} {q h k mh : Nat → Nat} {o i kc ns : Nat} {n b : Nat} {y r t : Int32} {d : Nat → Nat} {f0 f1 f2 f3 f4 f5 f6 f7 f8 f9 f10 f11 f12 f13 : Nat → Int32} {n1 : Nat} {r1 : Int32} {g0 g1 g2 g3 g4 g5 g6 g7 g8 g9 g10 g11 g12 g13 bp bn : Nat → Int32} {u : Nat → Int64} {m0 m1 m2 m3 m4 m5 m6 m7 m8 m9 m10 m11 m12 m13 : Nat → Int32} (hl : l.stackTraces = false) (C : zv_C pP mM cD cL_law 9 sS aA wsL_law "RiverNamesLaw" A) (hA : A = fun q => sS.heap.size ≤ q) (hE : zx_E sS) (hX : va_X sc L xs sS sS.heap) (hsc : sc < sS.heap.size) (hi : i + 4 ≤ L) (hL : L ≤ 2048) (hkc : kc + 17 ≤ 601024) (hns : ns + 168 ≤ 7293034) (hI : LI n b r d f0 f1 f2 f3 f4 f5 f6 f7 f8 f9 f10 f11 f12 f13 bp bn m0 m1 m2 m3 m4 m5 m6 m7) (K : LK pP l eE sS mM aA bB mT cD Q D cI cZ cJ A sc q h k mh o i kc ns) (p : Nat) (hp : p < n) (e1 : xs (i + 1) = nI p) (z : Nat) (ho : z < n) (e2 : xs (i + 2) = nI z) : zv_V pP l eE room_1 sS mM aA bB mT cD Q 9 D vwCl A A (tyJ cI cZ cJ) ((cR cI cZ q h k (nI b) y (nI n) r f0 f1 f2 f3 f4 f5 f6 f7 f8 f9 f10 f11 f12 f13 (nI n1) r1 g0 g1 g2 g3 g4 g5 g6 g7 g8 g9 g10 g11 g12 g13 bp bn) ++ ((cM cI cZ mh t (nI n) r y (nI b) m0 m1 m2 m3 m4 m5 m6 m7 m8 m9 m10 m11 m12 m13) ++ [(o, .inl (cJ, 1, .inr (.inl u)))])) kc ns 992 [(0, .ref sc), (1, .ref (q 0)), (2, .ref (mh 0)), (3, .ref o), (4, .int (nI i))] [] := by
  refine zv_aload_n C dL_law_992 993 rfl 1 rfl ?_
  refine zv_aload_n C dL_law_993 994 rfl 0 rfl ?_
  refine zv_iload C dL_law_994 996 rfl 4 rfl ?_
  refine zv_iconst (v := 1) C dL_law_996 997 rfl (by decide) ?_
  refine zv_iadd (v := (nI (i + 1))) C dL_law_997 998 rfl (nI_1 i) ?_
  refine zv_sld C hA hX hsc dL_law_998 999 rfl (i + 1) rfl (by omega) hL (v := (nI p)) e1 ?_
  refine zv_aload_n C dL_law_999 1000 rfl 0 rfl ?_
  refine zv_iload C dL_law_1000 1002 rfl 4 rfl ?_
  refine zv_iconst (v := 2) C dL_law_1002 1003 rfl (by decide) ?_
  refine zv_iadd (v := (nI (i + 2))) C dL_law_1003 1004 rfl (nI_c i 2 2 rfl) ?_
  refine zv_sld C hA hX hsc dL_law_1004 1005 rfl (i + 2) rfl (by omega) hL (v := (nI z)) e2 ?_
  refine zv_aload_n C dL_law_1005 1006 rfl 3 rfl ?_
  refine zv_callW (rest := []) (wr := (cM cI cZ mh t (nI n) r y (nI b) m0 m1 m2 m3 m4 m5 m6 m7 m8 m9 m10 m11 m12 m13)) C (k_L_isAbove_ok l D cI cZ cJ q h k b y n r f0 f1 f2 f3 f4 f5 f6 f7 f8 f9 f10 f11 f12 f13 n1 r1 g0 g1 g2 g3 g4 g5 g6 g7 g8 g9 g10 g11 g12 g13 bp bn o u p z hI.n16 (by first | assumption | omega) (by first | assumption | omega) hI.vw) (vx_cwSW 4 C.1.2.2.2.2 gL_law_L_isAbove rfl rfl rfl (by decide +kernel) ⟨Nat.le_of_ble_eq_true rfl, Nat.le_of_ble_eq_true rfl⟩) dL_law_1006 1009 rfl rfl rfl (Nat.le_of_ble_eq_true rfl) ⟨(by show kc + 0 ≤ 601024; omega), (by show ns + 0 ≤ 7293034; omega)⟩ [0, 1, 2] rfl [0, 1, 2, 3, 4, 5, 6, 7, 8, 9, 10, 11, 12, 13, 14, 15, 16, 17, 18, 19, 20, 21, 22, 23, 24, 25, 26, 27, 28, 29, 30, 31, 32, 48] rfl (by decide) [33, 34, 35, 36, 37, 38, 39, 40, 41, 42, 43, 44, 45, 46, 47] rfl (by decide) (by decide +kernel) (fun v w hv => ?_)
  obtain ⟨uo_1, rfl, rfl, hu⟩ := hv
  refine zv_go rfl rfl (st' := [.int 0]) rfl (kc' := kc) rfl (ns' := ns) rfl ?_
  refine zv_perm [15, 16, 17, 18, 19, 20, 21, 22, 23, 24, 25, 26, 27, 28, 29, 30, 31, 32, 33, 34, 35, 36, 37, 38, 39, 40, 41, 42, 43, 44, 45, 46, 47, 0, 1, 2, 3, 4, 5, 6, 7, 8, 9, 10, 11, 12, 13, 14, 48] (ws' := ((cR cI cZ q h k (nI b) y (nI n) r f0 f1 f2 f3 f4 f5 f6 f7 f8 f9 f10 f11 f12 f13 (nI n1) r1 g0 g1 g2 g3 g4 g5 g6 g7 g8 g9 g10 g11 g12 g13 bp bn) ++ ((cM cI cZ mh t (nI n) r y (nI b) m0 m1 m2 m3 m4 m5 m6 m7 m8 m9 m10 m11 m12 m13) ++ [(o, .inl (cJ, 1, .inr (.inl uo_1)))]))) (by decide) rfl ?_
  refine zv_istore C dL_law_1009 1011 rfl [(5, .int 0), (0, .ref sc), (1, .ref (q 0)), (2, .ref (mh 0)), (3, .ref o), (4, .int (nI i))] (by decide) rfl ?_
  refine zv_aload_n C dL_law_1011 1012 rfl 3 rfl ?_
  refine zv_aload_n C dL_law_1012 1013 rfl 1 rfl ?_
  refine zv_iload C dL_law_1013 1015 rfl 5 rfl ?_
  refine zv_iconst (v := 1) C dL_law_1015 1016 rfl (by decide) ?_
  refine zv_iadd (v := (nI (i + 1))) C dL_law_1016 1017 rfl (nI_1 i) ?_
  refine zv_sld C hA hX hsc dL_law_1017 1018 rfl (i + 1) rfl (by omega) hL (v := (nI p)) e1 ?_
  refine zv_aload_n C dL_law_1018 1019 rfl 1 rfl ?_
  refine zv_iload C dL_law_1019 1021 rfl 5 rfl ?_
  refine zv_iconst (v := 2) C dL_law_1021 1022 rfl (by decide) ?_
  refine zv_iadd (v := (nI (i + 2))) C dL_law_1022 1023 rfl (nI_c i 2 2 rfl) ?_
  refine zv_sld C hA hX hsc dL_law_1023 1024 rfl (i + 2) rfl (by omega) hL (v := (nI z)) e2 ?_
  refine zv_callV (rest := []) (wr := ((cR cI cZ q h k (nI b) y (nI n) r f0 f1 f2 f3 f4 f5 f6 f7 f8 f9 f10 f11 f12 f13 (nI n1) r1 g0 g1 g2 g3 g4 g5 g6 g7 g8 g9 g10 g11 g12 g13 bp bn) ++ [(o, .inl (cJ, 1, .inr (.inl uo_1)))])) C (k_X2_isAbove_ok l D cI cZ mh t n r y b m0 m1 m2 m3 m4 m5 m6 m7 m8 m9 m10 m11 m12 m13 p z f1 d hI.n16 hI.depM (by first | assumption | omega) (by first | assumption | omega)) (cwV 2 C.1.2.2.2.2 gL_law_X2_isAbove rfl rfl rfl (by decide +kernel) ⟨Nat.le_of_ble_eq_true rfl, Nat.le_of_ble_eq_true rfl⟩) dL_law_1024 1027 rfl (ci := 2) 0 rfl rfl rfl rfl (Nat.le_of_ble_eq_true rfl) ⟨(by show kc + 0 ≤ 601024; omega), (by show ns + 0 ≤ 7293034; omega)⟩ [0, 1] rfl [33, 34, 35, 36, 37, 38, 39, 40, 41, 42, 43, 44, 45, 46, 47] rfl (by decide) [0, 1, 2, 3, 4, 5, 6, 7, 8, 9, 10, 11, 12, 13, 14, 15, 16, 17, 18, 19, 20, 21, 22, 23, 24, 25, 26, 27, 28, 29, 30, 31, 32, 48] rfl (by decide) (by decide +kernel) (fun v w hv => ?_)
  obtain ⟨rfl, rfl⟩ := hv
  refine zv_go rfl rfl (st' := [.int (zb (fl m0 (nI z) 16 (m0 p)))]) rfl (kc' := kc) rfl (ns' := ns) rfl ?_
  refine zv_perm [0, 1, 2, 3, 4, 5, 6, 7, 8, 9, 10, 11, 12, 13, 14, 15, 16, 17, 18, 19, 20, 21, 22, 23, 24, 25, 26, 27, 28, 29, 30, 31, 32, 34, 35, 36, 37, 38, 39, 40, 41, 42, 43, 44, 45, 46, 47, 48, 33] (ws' := ((cR cI cZ q h k (nI b) y (nI n) r f0 f1 f2 f3 f4 f5 f6 f7 f8 f9 f10 f11 f12 f13 (nI n1) r1 g0 g1 g2 g3 g4 g5 g6 g7 g8 g9 g10 g11 g12 g13 bp bn) ++ ((cM cI cZ mh 0 (nI n) r y (nI b) m0 m1 m2 m3 m4 m5 m6 m7 m8 m9 m10 m11 m12 m13) ++ [(o, .inl (cJ, 1, .inr (.inl uo_1)))]))) (by decide) rfl ?_
  refine zv_istore C dL_law_1027 1029 rfl [(6, .int (zb (fl m0 (nI z) 16 (m0 p)))), (5, .int 0), (0, .ref sc), (1, .ref (q 0)), (2, .ref (mh 0)), (3, .ref o), (4, .int (nI i))] (by decide) rfl ?_
  refine zv_aload_n C dL_law_1029 1030 rfl 4 rfl ?_
  refine zv_callVR (rest := []) C (k_X2_thrown l D cI cZ mh 0 n r y b m0 m1 m2 m3 m4 m5 m6 m7 m8 m9 m10 m11 m12 m13 ) (cwV 0 C.1.2.2.2.2 gL_law_X2_thrown rfl rfl rfl (by decide +kernel) ⟨Nat.le_of_ble_eq_true rfl, Nat.le_of_ble_eq_true rfl⟩) dL_law_1030 1033 rfl (ci := 2) 0 rfl rfl rfl rfl (Nat.le_of_ble_eq_true rfl) ⟨(by show kc + 0 ≤ 601024; omega), (by show ns + 0 ≤ 7293034; omega)⟩ [0, 1] rfl [33, 34, 35, 36, 37, 38, 39, 40, 41, 42, 43, 44, 45, 46, 47] rfl (by decide) (fun v hv => ?_)
  subst hv
  refine zv_go rfl rfl (st' := [.int 0]) rfl (kc' := kc) rfl (ns' := ns) rfl ?_
  refine zv_iload C dL_law_1033 1035 rfl 1 rfl ?_
  refine zv_icmp_eq C dL_law_1035 1038 1040 rfl (by decide) (fun _ => ?_) (fun q => absurd (by decide) q)
  refine zv_iload C dL_law_1040 1042 rfl 1 rfl ?_
  refine zv_if_ne C dL_law_1042 1045 1064 rfl (by decide) (fun q => absurd (by decide) q) (fun _ => ?_)
  refine zv_aload_n C dL_law_1045 1046 rfl 5 rfl ?_
  refine zv_iconst (v := 0) C dL_law_1046 1047 rfl (by decide) ?_
  refine zv_lald (v := (uo_1 0)) C dL_law_1047 1048 rfl 48 2 0 rfl rfl (by decide) (by decide) (by decide) rfl ?_
  refine zv_iload C dL_law_1048 1050 rfl 0 rfl ?_
  refine zv_if_eq C dL_law_1050 1053 1057 rfl (by decide) (fun c1 => ?_) (fun c1 => ?_)
  · refine zv_lconst (v := 0) C dL_law_1057 1058 rfl rfl ?_
    refine zv_lcmpE C dL_law_1058 1059 rfl (hu.trans ((congrArg bitL (congrArg zb (hI.vAbove hp))).trans (bitL_y c1))) ?_
    refine zv_if_eq C dL_law_1059 1062 1064 rfl (by decide) (fun _ => ?_) (fun q => absurd (by decide) q)
    refine zv_goto C dL_law_1064 1966 (by decide) ?_
    refine zv_widen (k' := kc + 17) (n' := ns + 168) (by omega) (by omega) ?_
    refine zv_sub [2, 3, 4, 5, 6] (lv' := [(0, .ref sc), (1, .ref (q 0)), (2, .ref (mh 0)), (3, .ref o), (4, .int (nI i))]) rfl ?_
    exact K n b y r 0 d f0 f1 f2 f3 f4 f5 f6 f7 f8 f9 f10 f11 f12 f13 n1 r1 g0 g1 g2 g3 g4 g5 g6 g7 g8 g9 g10 g11 g12 g13 bp bn uo_1 m0 m1 m2 m3 m4 m5 m6 m7 m8 m9 m10 m11 m12 m13 hI
  · refine zv_lconst (v := 1) C dL_law_1053 1054 rfl rfl ?_
    refine zv_goto C dL_law_1054 1058 (by decide) ?_
    refine zv_lcmpE C dL_law_1058 1059 rfl (hu.trans ((congrArg bitL (congrArg zb (hI.vAbove hp))).trans (bitL_n c1))) ?_
    refine zv_if_eq C dL_law_1059 1062 1064 rfl (by decide) (fun _ => ?_) (fun q => absurd (by decide) q)
    refine zv_goto C dL_law_1064 1966 (by decide) ?_
    refine zv_widen (k' := kc + 17) (n' := ns + 168) (by omega) (by omega) ?_
    refine zv_sub [2, 3, 4, 5, 6] (lv' := [(0, .ref sc), (1, .ref (q 0)), (2, .ref (mh 0)), (3, .ref o), (4, .int (nI i))]) rfl ?_
    exact K n b y r 0 d f0 f1 f2 f3 f4 f5 f6 f7 f8 f9 f10 f11 f12 f13 n1 r1 g0 g1 g2 g3 g4 g5 g6 g7 g8 g9 g10 g11 g12 g13 bp bn uo_1 m0 m1 m2 m3 m4 m5 m6 m7 m8 m9 m10 m11 m12 m13 hI
set_option maxHeartbeats 4000000 in
set_option maxRecDepth 100000 in
theorem lc_meeting_n1 {pP : Program} {l : Launch} {eE : Env} {sS : State} {mM : MethodId} {aA : Array Value} {bB : List Frame} {mT : Method} {cD : Code} {Q : State → Prop} {D : va_G} {cI cZ cJ : ClassId} {A : Nat → Prop} {sc L : Nat} {xs : Nat → Int32} {q h k mh : Nat → Nat} {o i kc ns : Nat} {n b : Nat} {y r t : Int32} {d : Nat → Nat} {f0 f1 f2 f3 f4 f5 f6 f7 f8 f9 f10 f11 f12 f13 : Nat → Int32} {n1 : Nat} {r1 : Int32} {g0 g1 g2 g3 g4 g5 g6 g7 g8 g9 g10 g11 g12 g13 bp bn : Nat → Int32} {u : Nat → Int64} {m0 m1 m2 m3 m4 m5 m6 m7 m8 m9 m10 m11 m12 m13 : Nat → Int32} (hl : l.stackTraces = false) (C : zv_C pP mM cD cL_law 9 sS aA wsL_law "RiverNamesLaw" A) (hA : A = fun q => sS.heap.size ≤ q) (hE : zx_E sS) (hX : va_X sc L xs sS sS.heap) (hsc : sc < sS.heap.size) (hi : i + 4 ≤ L) (hL : L ≤ 2048) (hkc : kc + 17 ≤ 601024) (hns : ns + 168 ≤ 7293034) (hI : LI n b r d f0 f1 f2 f3 f4 f5 f6 f7 f8 f9 f10 f11 f12 f13 bp bn m0 m1 m2 m3 m4 m5 m6 m7) (K : LK pP l eE sS mM aA bB mT cD Q D cI cZ cJ A sc q h k mh o i kc ns) (hf : isP n (xs (i + 1)) = false) : zv_V pP l eE room_1 sS mM aA bB mT cD Q 9 D vwCl A A (tyJ cI cZ cJ) ((cR cI cZ q h k (nI b) y (nI n) r f0 f1 f2 f3 f4 f5 f6 f7 f8 f9 f10 f11 f12 f13 (nI n1) r1 g0 g1 g2 g3 g4 g5 g6 g7 g8 g9 g10 g11 g12 g13 bp bn) ++ ((cM cI cZ mh t (nI n) r y (nI b) m0 m1 m2 m3 m4 m5 m6 m7 m8 m9 m10 m11 m12 m13) ++ [(o, .inl (cJ, 1, .inr (.inl u)))])) kc ns 1123 [(0, .ref sc), (1, .ref (q 0)), (2, .ref (mh 0)), (3, .ref o), (4, .int (nI i))] [] := by
  refine zv_aload_n C dL_law_1123 1124 rfl 1 rfl ?_
  refine zv_aload_n C dL_law_1124 1125 rfl 0 rfl ?_
  refine zv_iload C dL_law_1125 1127 rfl 4 rfl ?_
  refine zv_iconst (v := 1) C dL_law_1127 1128 rfl (by decide) ?_
  refine zv_iadd (v := (nI (i + 1))) C dL_law_1128 1129 rfl (nI_1 i) ?_
  refine zv_sld C hA hX hsc dL_law_1129 1130 rfl (i + 1) rfl (by omega) hL (v := (xs (i + 1))) rfl ?_
  refine zv_aload_n C dL_law_1130 1131 rfl 0 rfl ?_
  refine zv_iload C dL_law_1131 1133 rfl 4 rfl ?_
  refine zv_iconst (v := 2) C dL_law_1133 1134 rfl (by decide) ?_
  refine zv_iadd (v := (nI (i + 2))) C dL_law_1134 1135 rfl (nI_c i 2 2 rfl) ?_
  refine zv_sld C hA hX hsc dL_law_1135 1136 rfl (i + 2) rfl (by omega) hL (v := (xs (i + 2))) rfl ?_
  refine zv_aload_n C dL_law_1136 1137 rfl 3 rfl ?_
  refine zv_callWE (rest := []) C hA hE (k_L_meeting_t1 l D cI cZ cJ q h k b y n r f0 f1 f2 f3 f4 f5 f6 f7 f8 f9 f10 f11 f12 f13 n1 r1 g0 g1 g2 g3 g4 g5 g6 g7 g8 g9 g10 g11 g12 g13 bp bn o u (xs (i + 1)) (xs (i + 2)) hI.n16 (by first | assumption | omega) hl) (vx_cwSW 4 C.1.2.2.2.2 gL_law_L_meeting rfl rfl rfl (by decide +kernel) ⟨Nat.le_of_ble_eq_true rfl, Nat.le_of_ble_eq_true rfl⟩) dL_law_1137 1140 rfl rfl rfl (Nat.le_of_ble_eq_true rfl) ⟨(by show kc + 1 ≤ 601024; omega), (by show ns + 6 ≤ 7293034; omega)⟩ [0, 1, 2] rfl [0, 1, 2, 3, 4, 5, 6, 7, 8, 9, 10, 11, 12, 13, 14, 15, 16, 17, 18, 19, 20, 21, 22, 23, 24, 25, 26, 27, 28, 29, 30, 31, 32, 48] rfl (by decide) (fun v hv => ?_)
  subst hv
  refine zv_go rfl rfl (st' := [.int 1]) rfl (kc' := kc + 1) rfl (ns' := ns + 6) rfl ?_
  refine zv_istore C dL_law_1140 1142 rfl [(5, .int 1), (0, .ref sc), (1, .ref (q 0)), (2, .ref (mh 0)), (3, .ref o), (4, .int (nI i))] (by decide) rfl ?_
  refine zv_aload_n C dL_law_1142 1143 rfl 3 rfl ?_
  refine zv_aload_n C dL_law_1143 1144 rfl 1 rfl ?_
  refine zv_iload C dL_law_1144 1146 rfl 5 rfl ?_
  refine zv_iconst (v := 1) C dL_law_1146 1147 rfl (by decide) ?_
  refine zv_iadd (v := (nI (i + 1))) C dL_law_1147 1148 rfl (nI_1 i) ?_
  refine zv_sld C hA hX hsc dL_law_1148 1149 rfl (i + 1) rfl (by omega) hL (v := (xs (i + 1))) rfl ?_
  refine zv_aload_n C dL_law_1149 1150 rfl 1 rfl ?_
  refine zv_iload C dL_law_1150 1152 rfl 5 rfl ?_
  refine zv_iconst (v := 2) C dL_law_1152 1153 rfl (by decide) ?_
  refine zv_iadd (v := (nI (i + 2))) C dL_law_1153 1154 rfl (nI_c i 2 2 rfl) ?_
  refine zv_sld C hA hX hsc dL_law_1154 1155 rfl (i + 2) rfl (by omega) hL (v := (xs (i + 2))) rfl ?_
  refine zv_callV (rest := []) (wr := ((cR cI cZ q h k (nI b) y (nI n) r f0 f1 f2 f3 f4 f5 f6 f7 f8 f9 f10 f11 f12 f13 (nI n1) r1 g0 g1 g2 g3 g4 g5 g6 g7 g8 g9 g10 g11 g12 g13 bp bn) ++ [(o, .inl (cJ, 1, .inr (.inl u)))])) C (k_X2_meeting_n1 l D cI cZ mh t n r y b m0 m1 m2 m3 m4 m5 m6 m7 m8 m9 m10 m11 m12 m13 (xs (i + 1)) (xs (i + 2)) hI.n16 (by first | assumption | omega)) (cwV 2 C.1.2.2.2.2 gL_law_X2_meeting rfl rfl rfl (by decide +kernel) ⟨Nat.le_of_ble_eq_true rfl, Nat.le_of_ble_eq_true rfl⟩) dL_law_1155 1158 rfl (ci := 2) 0 rfl rfl rfl rfl (Nat.le_of_ble_eq_true rfl) ⟨(by show kc + 1 + 0 ≤ 601024; omega), (by show ns + 6 + 0 ≤ 7293034; omega)⟩ [0, 1] rfl [33, 34, 35, 36, 37, 38, 39, 40, 41, 42, 43, 44, 45, 46, 47] rfl (by decide) [0, 1, 2, 3, 4, 5, 6, 7, 8, 9, 10, 11, 12, 13, 14, 15, 16, 17, 18, 19, 20, 21, 22, 23, 24, 25, 26, 27, 28, 29, 30, 31, 32, 48] rfl (by decide) (by decide +kernel) (fun v w hv => ?_)
  obtain ⟨rfl, rfl⟩ := hv
  refine zv_go rfl rfl (st' := [.int 0]) rfl (kc' := kc + 1) rfl (ns' := ns + 6) rfl ?_
  refine zv_perm [0, 1, 2, 3, 4, 5, 6, 7, 8, 9, 10, 11, 12, 13, 14, 15, 16, 17, 18, 19, 20, 21, 22, 23, 24, 25, 26, 27, 28, 29, 30, 31, 32, 34, 35, 36, 37, 38, 39, 40, 41, 42, 43, 44, 45, 46, 47, 48, 33] (ws' := ((cR cI cZ q h k (nI b) y (nI n) r f0 f1 f2 f3 f4 f5 f6 f7 f8 f9 f10 f11 f12 f13 (nI n1) r1 g0 g1 g2 g3 g4 g5 g6 g7 g8 g9 g10 g11 g12 g13 bp bn) ++ ((cM cI cZ mh 1 (nI n) r y (nI b) m0 m1 m2 m3 m4 m5 m6 m7 m8 m9 m10 m11 m12 m13) ++ [(o, .inl (cJ, 1, .inr (.inl u)))]))) (by decide) rfl ?_
  refine zv_istore C dL_law_1158 1160 rfl [(6, .int 0), (5, .int 1), (0, .ref sc), (1, .ref (q 0)), (2, .ref (mh 0)), (3, .ref o), (4, .int (nI i))] (by decide) rfl ?_
  refine zv_aload_n C dL_law_1160 1161 rfl 4 rfl ?_
  refine zv_callVR (rest := []) C (k_X2_thrown l D cI cZ mh 1 n r y b m0 m1 m2 m3 m4 m5 m6 m7 m8 m9 m10 m11 m12 m13 ) (cwV 0 C.1.2.2.2.2 gL_law_X2_thrown rfl rfl rfl (by decide +kernel) ⟨Nat.le_of_ble_eq_true rfl, Nat.le_of_ble_eq_true rfl⟩) dL_law_1161 1164 rfl (ci := 2) 0 rfl rfl rfl rfl (Nat.le_of_ble_eq_true rfl) ⟨(by show kc + 1 + 0 ≤ 601024; omega), (by show ns + 6 + 0 ≤ 7293034; omega)⟩ [0, 1] rfl [33, 34, 35, 36, 37, 38, 39, 40, 41, 42, 43, 44, 45, 46, 47] rfl (by decide) (fun v hv => ?_)
  subst hv
  refine zv_go rfl rfl (st' := [.int 1]) rfl (kc' := kc + 1) rfl (ns' := ns + 6) rfl ?_
  refine zv_iload C dL_law_1164 1166 rfl 1 rfl ?_
  refine zv_icmp_eq C dL_law_1166 1169 1171 rfl (by decide) (fun _ => ?_) (fun q => absurd (by decide) q)
  refine zv_iload C dL_law_1171 1173 rfl 1 rfl ?_
  refine zv_if_ne C dL_law_1173 1176 1188 rfl (by decide) (fun _ => ?_) (fun q => absurd q (by decide))
  refine zv_goto C dL_law_1188 1966 (by decide) ?_
  refine zv_widen (k' := kc + 17) (n' := ns + 168) (by omega) (by omega) ?_
  refine zv_sub [2, 3, 4, 5, 6] (lv' := [(0, .ref sc), (1, .ref (q 0)), (2, .ref (mh 0)), (3, .ref o), (4, .int (nI i))]) rfl ?_
  exact K n b y r 1 d f0 f1 f2 f3 f4 f5 f6 f7 f8 f9 f10 f11 f12 f13 n1 r1 g0 g1 g2 g3 g4 g5 g6 g7 g8 g9 g10 g11 g12 g13 bp bn u m0 m1 m2 m3 m4 m5 m6 m7 m8 m9 m10 m11 m12 m13 hI
set_option maxHeartbeats 4000000 in
set_option maxRecDepth 100000 in
theorem lc_meeting_n2 {pP : Program} {l : Launch} {eE : Env} {sS : State} {mM : MethodId} {aA : Array Value} {bB : List Frame} {mT : Method} {cD : Code} {Q : State → Prop} {D : va_G} {cI cZ cJ : ClassId} {A : Nat → Prop} {sc L : Nat} {xs : Nat → Int32} {q h k mh : Nat → Nat} {o i kc ns : Nat} {n b : Nat} {y r t : Int32} {d : Nat → Nat} {f0 f1 f2 f3 f4 f5 f6 f7 f8 f9 f10 f11 f12 f13 : Nat → Int32} {n1 : Nat} {r1 : Int32} {g0 g1 g2 g3 g4 g5 g6 g7 g8 g9 g10 g11 g12 g13 bp bn : Nat → Int32} {u : Nat → Int64} {m0 m1 m2 m3 m4 m5 m6 m7 m8 m9 m10 m11 m12 m13 : Nat → Int32} (hl : l.stackTraces = false) (C : zv_C pP mM cD cL_law 9 sS aA wsL_law "RiverNamesLaw" A) (hA : A = fun q => sS.heap.size ≤ q) (hE : zx_E sS) (hX : va_X sc L xs sS sS.heap) (hsc : sc < sS.heap.size) (hi : i + 4 ≤ L) (hL : L ≤ 2048) (hkc : kc + 17 ≤ 601024) (hns : ns + 168 ≤ 7293034) (hI : LI n b r d f0 f1 f2 f3 f4 f5 f6 f7 f8 f9 f10 f11 f12 f13 bp bn m0 m1 m2 m3 m4 m5 m6 m7) (K : LK pP l eE sS mM aA bB mT cD Q D cI cZ cJ A sc q h k mh o i kc ns) (p : Nat) (hp : p < n) (e1 : xs (i + 1) = nI p) (hf : isP n (xs (i + 2)) = false) : zv_V pP l eE room_1 sS mM aA bB mT cD Q 9 D vwCl A A (tyJ cI cZ cJ) ((cR cI cZ q h k (nI b) y (nI n) r f0 f1 f2 f3 f4 f5 f6 f7 f8 f9 f10 f11 f12 f13 (nI n1) r1 g0 g1 g2 g3 g4 g5 g6 g7 g8 g9 g10 g11 g12 g13 bp bn) ++ ((cM cI cZ mh t (nI n) r y (nI b) m0 m1 m2 m3 m4 m5 m6 m7 m8 m9 m10 m11 m12 m13) ++ [(o, .inl (cJ, 1, .inr (.inl u)))])) kc ns 1123 [(0, .ref sc), (1, .ref (q 0)), (2, .ref (mh 0)), (3, .ref o), (4, .int (nI i))] [] := by
  refine zv_aload_n C dL_law_1123 1124 rfl 1 rfl ?_
  refine zv_aload_n C dL_law_1124 1125 rfl 0 rfl ?_
  refine zv_iload C dL_law_1125 1127 rfl 4 rfl ?_
  refine zv_iconst (v := 1) C dL_law_1127 1128 rfl (by decide) ?_
  refine zv_iadd (v := (nI (i + 1))) C dL_law_1128 1129 rfl (nI_1 i) ?_
  refine zv_sld C hA hX hsc dL_law_1129 1130 rfl (i + 1) rfl (by omega) hL (v := (nI p)) e1 ?_
  refine zv_aload_n C dL_law_1130 1131 rfl 0 rfl ?_
  refine zv_iload C dL_law_1131 1133 rfl 4 rfl ?_
  refine zv_iconst (v := 2) C dL_law_1133 1134 rfl (by decide) ?_
  refine zv_iadd (v := (nI (i + 2))) C dL_law_1134 1135 rfl (nI_c i 2 2 rfl) ?_
  refine zv_sld C hA hX hsc dL_law_1135 1136 rfl (i + 2) rfl (by omega) hL (v := (xs (i + 2))) rfl ?_
  refine zv_aload_n C dL_law_1136 1137 rfl 3 rfl ?_
  refine zv_callWE (rest := []) C hA hE (k_L_meeting_t2 l D cI cZ cJ q h k b y n r f0 f1 f2 f3 f4 f5 f6 f7 f8 f9 f10 f11 f12 f13 n1 r1 g0 g1 g2 g3 g4 g5 g6 g7 g8 g9 g10 g11 g12 g13 bp bn o u p (xs (i + 2)) hI.n16 (by first | assumption | omega) (by first | assumption | omega) hl) (vx_cwSW 4 C.1.2.2.2.2 gL_law_L_meeting rfl rfl rfl (by decide +kernel) ⟨Nat.le_of_ble_eq_true rfl, Nat.le_of_ble_eq_true rfl⟩) dL_law_1137 1140 rfl rfl rfl (Nat.le_of_ble_eq_true rfl) ⟨(by show kc + 1 ≤ 601024; omega), (by show ns + 6 ≤ 7293034; omega)⟩ [0, 1, 2] rfl [0, 1, 2, 3, 4, 5, 6, 7, 8, 9, 10, 11, 12, 13, 14, 15, 16, 17, 18, 19, 20, 21, 22, 23, 24, 25, 26, 27, 28, 29, 30, 31, 32, 48] rfl (by decide) (fun v hv => ?_)
  subst hv
  refine zv_go rfl rfl (st' := [.int 1]) rfl (kc' := kc + 1) rfl (ns' := ns + 6) rfl ?_
  refine zv_istore C dL_law_1140 1142 rfl [(5, .int 1), (0, .ref sc), (1, .ref (q 0)), (2, .ref (mh 0)), (3, .ref o), (4, .int (nI i))] (by decide) rfl ?_
  refine zv_aload_n C dL_law_1142 1143 rfl 3 rfl ?_
  refine zv_aload_n C dL_law_1143 1144 rfl 1 rfl ?_
  refine zv_iload C dL_law_1144 1146 rfl 5 rfl ?_
  refine zv_iconst (v := 1) C dL_law_1146 1147 rfl (by decide) ?_
  refine zv_iadd (v := (nI (i + 1))) C dL_law_1147 1148 rfl (nI_1 i) ?_
  refine zv_sld C hA hX hsc dL_law_1148 1149 rfl (i + 1) rfl (by omega) hL (v := (nI p)) e1 ?_
  refine zv_aload_n C dL_law_1149 1150 rfl 1 rfl ?_
  refine zv_iload C dL_law_1150 1152 rfl 5 rfl ?_
  refine zv_iconst (v := 2) C dL_law_1152 1153 rfl (by decide) ?_
  refine zv_iadd (v := (nI (i + 2))) C dL_law_1153 1154 rfl (nI_c i 2 2 rfl) ?_
  refine zv_sld C hA hX hsc dL_law_1154 1155 rfl (i + 2) rfl (by omega) hL (v := (xs (i + 2))) rfl ?_
  refine zv_callV (rest := []) (wr := ((cR cI cZ q h k (nI b) y (nI n) r f0 f1 f2 f3 f4 f5 f6 f7 f8 f9 f10 f11 f12 f13 (nI n1) r1 g0 g1 g2 g3 g4 g5 g6 g7 g8 g9 g10 g11 g12 g13 bp bn) ++ [(o, .inl (cJ, 1, .inr (.inl u)))])) C (k_X2_meeting_n2 l D cI cZ mh t n r y b m0 m1 m2 m3 m4 m5 m6 m7 m8 m9 m10 m11 m12 m13 p (xs (i + 2)) hI.n16 (by first | assumption | omega) (by first | assumption | omega)) (cwV 2 C.1.2.2.2.2 gL_law_X2_meeting rfl rfl rfl (by decide +kernel) ⟨Nat.le_of_ble_eq_true rfl, Nat.le_of_ble_eq_true rfl⟩) dL_law_1155 1158 rfl (ci := 2) 0 rfl rfl rfl rfl (Nat.le_of_ble_eq_true rfl) ⟨(by show kc + 1 + 0 ≤ 601024; omega), (by show ns + 6 + 0 ≤ 7293034; omega)⟩ [0, 1] rfl [33, 34, 35, 36, 37, 38, 39, 40, 41, 42, 43, 44, 45, 46, 47] rfl (by decide) [0, 1, 2, 3, 4, 5, 6, 7, 8, 9, 10, 11, 12, 13, 14, 15, 16, 17, 18, 19, 20, 21, 22, 23, 24, 25, 26, 27, 28, 29, 30, 31, 32, 48] rfl (by decide) (by decide +kernel) (fun v w hv => ?_)
  obtain ⟨rfl, rfl⟩ := hv
  refine zv_go rfl rfl (st' := [.int 0]) rfl (kc' := kc + 1) rfl (ns' := ns + 6) rfl ?_
  refine zv_perm [0, 1, 2, 3, 4, 5, 6, 7, 8, 9, 10, 11, 12, 13, 14, 15, 16, 17, 18, 19, 20, 21, 22, 23, 24, 25, 26, 27, 28, 29, 30, 31, 32, 34, 35, 36, 37, 38, 39, 40, 41, 42, 43, 44, 45, 46, 47, 48, 33] (ws' := ((cR cI cZ q h k (nI b) y (nI n) r f0 f1 f2 f3 f4 f5 f6 f7 f8 f9 f10 f11 f12 f13 (nI n1) r1 g0 g1 g2 g3 g4 g5 g6 g7 g8 g9 g10 g11 g12 g13 bp bn) ++ ((cM cI cZ mh 1 (nI n) r y (nI b) m0 m1 m2 m3 m4 m5 m6 m7 m8 m9 m10 m11 m12 m13) ++ [(o, .inl (cJ, 1, .inr (.inl u)))]))) (by decide) rfl ?_
  refine zv_istore C dL_law_1158 1160 rfl [(6, .int 0), (5, .int 1), (0, .ref sc), (1, .ref (q 0)), (2, .ref (mh 0)), (3, .ref o), (4, .int (nI i))] (by decide) rfl ?_
  refine zv_aload_n C dL_law_1160 1161 rfl 4 rfl ?_
  refine zv_callVR (rest := []) C (k_X2_thrown l D cI cZ mh 1 n r y b m0 m1 m2 m3 m4 m5 m6 m7 m8 m9 m10 m11 m12 m13 ) (cwV 0 C.1.2.2.2.2 gL_law_X2_thrown rfl rfl rfl (by decide +kernel) ⟨Nat.le_of_ble_eq_true rfl, Nat.le_of_ble_eq_true rfl⟩) dL_law_1161 1164 rfl (ci := 2) 0 rfl rfl rfl rfl (Nat.le_of_ble_eq_true rfl) ⟨(by show kc + 1 + 0 ≤ 601024; omega), (by show ns + 6 + 0 ≤ 7293034; omega)⟩ [0, 1] rfl [33, 34, 35, 36, 37, 38, 39, 40, 41, 42, 43, 44, 45, 46, 47] rfl (by decide) (fun v hv => ?_)
  subst hv
  refine zv_go rfl rfl (st' := [.int 1]) rfl (kc' := kc + 1) rfl (ns' := ns + 6) rfl ?_
  refine zv_iload C dL_law_1164 1166 rfl 1 rfl ?_
  refine zv_icmp_eq C dL_law_1166 1169 1171 rfl (by decide) (fun _ => ?_) (fun q => absurd (by decide) q)
  refine zv_iload C dL_law_1171 1173 rfl 1 rfl ?_
  refine zv_if_ne C dL_law_1173 1176 1188 rfl (by decide) (fun _ => ?_) (fun q => absurd q (by decide))
  refine zv_goto C dL_law_1188 1966 (by decide) ?_
  refine zv_widen (k' := kc + 17) (n' := ns + 168) (by omega) (by omega) ?_
  refine zv_sub [2, 3, 4, 5, 6] (lv' := [(0, .ref sc), (1, .ref (q 0)), (2, .ref (mh 0)), (3, .ref o), (4, .int (nI i))]) rfl ?_
  exact K n b y r 1 d f0 f1 f2 f3 f4 f5 f6 f7 f8 f9 f10 f11 f12 f13 n1 r1 g0 g1 g2 g3 g4 g5 g6 g7 g8 g9 g10 g11 g12 g13 bp bn u m0 m1 m2 m3 m4 m5 m6 m7 m8 m9 m10 m11 m12 m13 hI
set_option maxHeartbeats 4000000 in
set_option maxRecDepth 100000 in
theorem lc_meeting_ok {pP : Program} {l : Launch} {eE : Env} {sS : State} {mM : MethodId} {aA : Array Value} {bB : List Frame} {mT : Method} {cD : Code} {Q : State → Prop} {D : va_G} {cI cZ cJ : ClassId} {A : Nat → Prop} {sc L : Nat} {xs : Nat → Int32} {q h k mh : Nat → Nat} {o i kc ns : Nat} {n b : Nat} {y r t : Int32} {d : Nat → Nat} {f0 f1 f2 f3 f4 f5 f6 f7 f8 f9 f10 f11 f12 f13 : Nat → Int32} {n1 : Nat} {r1 : Int32} {g0 g1 g2 g3 g4 g5 g6 g7 g8 g9 g10 g11 g12 g13 bp bn : Nat → Int32} {u : Nat → Int64} {m0 m1 m2 m3 m4 m5 m6 m7 m8 m9 m10 m11 m12 m13 : Nat → Int32} (hl : l.stackTraces = false) (C : zv_C pP mM cD cL_law 9 sS aA wsL_law "RiverNamesLaw" A) (hA : A = fun q => sS.heap.size ≤ q) (hE : zx_E sS) (hX : va_X sc L xs sS sS.heap) (hsc : sc < sS.heap.size) (hi : i + 4 ≤ L) (hL : L ≤ 2048) (hkc : kc + 17 ≤ 601024) (hns : ns + 168 ≤ 7293034) (hI : LI n b r d f0 f1 f2 f3 f4 f5 f6 f7 f8 f9 f10 f11 f12 f13 bp bn m0 m1 m2 m3 m4 m5 m6 m7) (K : LK pP l eE sS mM aA bB mT cD Q D cI cZ cJ A sc q h k mh o i kc ns) (p : Nat) (hp : p < n) (e1 : xs (i + 1) = nI p) (z : Nat) (ho : z < n) (e2 : xs (i + 2) = nI z) : zv_V pP l eE room_1 sS mM aA bB mT cD Q 9 D vwCl A A (tyJ cI cZ cJ) ((cR cI cZ q h k (nI b) y (nI n) r f0 f1 f2 f3 f4 f5 f6 f7 f8 f9 f10 f11 f12 f13 (nI n1) r1 g0 g1 g2 g3 g4 g5 g6 g7 g8 g9 g10 g11 g12 g13 bp bn) ++ ((cM cI cZ mh t (nI n) r y (nI b) m0 m1 m2 m3 m4 m5 m6 m7 m8 m9 m10 m11 m12 m13) ++ [(o, .inl (cJ, 1, .inr (.inl u)))])) kc ns 1123 [(0, .ref sc), (1, .ref (q 0)), (2, .ref (mh 0)), (3, .ref o), (4, .int (nI i))] [] := by
  refine zv_aload_n C dL_law_1123 1124 rfl 1 rfl ?_
  refine zv_aload_n C dL_law_1124 1125 rfl 0 rfl ?_
  refine zv_iload C dL_law_1125 1127 rfl 4 rfl ?_
  refine zv_iconst (v := 1) C dL_law_1127 1128 rfl (by decide) ?_
  refine zv_iadd (v := (nI (i + 1))) C dL_law_1128 1129 rfl (nI_1 i) ?_
  refine zv_sld C hA hX hsc dL_law_1129 1130 rfl (i + 1) rfl (by omega) hL (v := (nI p)) e1 ?_
  refine zv_aload_n C dL_law_1130 1131 rfl 0 rfl ?_
  refine zv_iload C dL_law_1131 1133 rfl 4 rfl ?_
  refine zv_iconst (v := 2) C dL_law_1133 1134 rfl (by decide) ?_
  refine zv_iadd (v := (nI (i + 2))) C dL_law_1134 1135 rfl (nI_c i 2 2 rfl) ?_
  refine zv_sld C hA hX hsc dL_law_1135 1136 rfl (i + 2) rfl (by omega) hL (v := (nI z)) e2 ?_
  refine zv_aload_n C dL_law_1136 1137 rfl 3 rfl ?_
  refine zv_callW (rest := []) (wr := (cM cI cZ mh t (nI n) r y (nI b) m0 m1 m2 m3 m4 m5 m6 m7 m8 m9 m10 m11 m12 m13)) C (k_L_meeting_ok l D cI cZ cJ q h k b y n r f0 f1 f2 f3 f4 f5 f6 f7 f8 f9 f10 f11 f12 f13 n1 r1 g0 g1 g2 g3 g4 g5 g6 g7 g8 g9 g10 g11 g12 g13 bp bn o u p z hI.n16 (by first | assumption | omega) (by first | assumption | omega) hI.vw) (vx_cwSW 4 C.1.2.2.2.2 gL_law_L_meeting rfl rfl rfl (by decide +kernel) ⟨Nat.le_of_ble_eq_true rfl, Nat.le_of_ble_eq_true rfl⟩) dL_law_1137 1140 rfl rfl rfl (Nat.le_of_ble_eq_true rfl) ⟨(by show kc + 0 ≤ 601024; omega), (by show ns + 0 ≤ 7293034; omega)⟩ [0, 1, 2] rfl [0, 1, 2, 3, 4, 5, 6, 7, 8, 9, 10, 11, 12, 13, 14, 15, 16, 17, 18, 19, 20, 21, 22, 23, 24, 25, 26, 27, 28, 29, 30, 31, 32, 48] rfl (by decide) [33, 34, 35, 36, 37, 38, 39, 40, 41, 42, 43, 44, 45, 46, 47] rfl (by decide) (by decide +kernel) (fun v w hv => ?_)
  obtain ⟨uo_1, rfl, rfl, hu⟩ := hv
  refine zv_go rfl rfl (st' := [.int 0]) rfl (kc' := kc) rfl (ns' := ns) rfl ?_
  refine zv_perm [15, 16, 17, 18, 19, 20, 21, 22, 23, 24, 25, 26, 27, 28, 29, 30, 31, 32, 33, 34, 35, 36, 37, 38, 39, 40, 41, 42, 43, 44, 45, 46, 47, 0, 1, 2, 3, 4, 5, 6, 7, 8, 9, 10, 11, 12, 13, 14, 48] (ws' := ((cR cI cZ q h k (nI b) y (nI n) r f0 f1 f2 f3 f4 f5 f6 f7 f8 f9 f10 f11 f12 f13 (nI n1) r1 g0 g1 g2 g3 g4 g5 g6 g7 g8 g9 g10 g11 g12 g13 bp bn) ++ ((cM cI cZ mh t (nI n) r y (nI b) m0 m1 m2 m3 m4 m5 m6 m7 m8 m9 m10 m11 m12 m13) ++ [(o, .inl (cJ, 1, .inr (.inl uo_1)))]))) (by decide) rfl ?_
  refine zv_istore C dL_law_1140 1142 rfl [(5, .int 0), (0, .ref sc), (1, .ref (q 0)), (2, .ref (mh 0)), (3, .ref o), (4, .int (nI i))] (by decide) rfl ?_
  refine zv_aload_n C dL_law_1142 1143 rfl 3 rfl ?_
  refine zv_aload_n C dL_law_1143 1144 rfl 1 rfl ?_
  refine zv_iload C dL_law_1144 1146 rfl 5 rfl ?_
  refine zv_iconst (v := 1) C dL_law_1146 1147 rfl (by decide) ?_
  refine zv_iadd (v := (nI (i + 1))) C dL_law_1147 1148 rfl (nI_1 i) ?_
  refine zv_sld C hA hX hsc dL_law_1148 1149 rfl (i + 1) rfl (by omega) hL (v := (nI p)) e1 ?_
  refine zv_aload_n C dL_law_1149 1150 rfl 1 rfl ?_
  refine zv_iload C dL_law_1150 1152 rfl 5 rfl ?_
  refine zv_iconst (v := 2) C dL_law_1152 1153 rfl (by decide) ?_
  refine zv_iadd (v := (nI (i + 2))) C dL_law_1153 1154 rfl (nI_c i 2 2 rfl) ?_
  refine zv_sld C hA hX hsc dL_law_1154 1155 rfl (i + 2) rfl (by omega) hL (v := (nI z)) e2 ?_
  refine zv_callV (rest := []) (wr := ((cR cI cZ q h k (nI b) y (nI n) r f0 f1 f2 f3 f4 f5 f6 f7 f8 f9 f10 f11 f12 f13 (nI n1) r1 g0 g1 g2 g3 g4 g5 g6 g7 g8 g9 g10 g11 g12 g13 bp bn) ++ [(o, .inl (cJ, 1, .inr (.inl uo_1)))])) C (k_X2_meeting_ok l D cI cZ mh t n r y b m0 m1 m2 m3 m4 m5 m6 m7 m8 m9 m10 m11 m12 m13 p z f1 d hI.n16 hI.depM (by first | assumption | omega) (by first | assumption | omega)) (cwV 2 C.1.2.2.2.2 gL_law_X2_meeting rfl rfl rfl (by decide +kernel) ⟨Nat.le_of_ble_eq_true rfl, Nat.le_of_ble_eq_true rfl⟩) dL_law_1155 1158 rfl (ci := 2) 0 rfl rfl rfl rfl (Nat.le_of_ble_eq_true rfl) ⟨(by show kc + 0 ≤ 601024; omega), (by show ns + 0 ≤ 7293034; omega)⟩ [0, 1] rfl [33, 34, 35, 36, 37, 38, 39, 40, 41, 42, 43, 44, 45, 46, 47] rfl (by decide) [0, 1, 2, 3, 4, 5, 6, 7, 8, 9, 10, 11, 12, 13, 14, 15, 16, 17, 18, 19, 20, 21, 22, 23, 24, 25, 26, 27, 28, 29, 30, 31, 32, 48] rfl (by decide) (by decide +kernel) (fun v w hv => ?_)
  obtain ⟨rfl, rfl⟩ := hv
  refine zv_go rfl rfl (st' := [.int (fc m0 z 16 (nI p))]) rfl (kc' := kc) rfl (ns' := ns) rfl ?_
  refine zv_perm [0, 1, 2, 3, 4, 5, 6, 7, 8, 9, 10, 11, 12, 13, 14, 15, 16, 17, 18, 19, 20, 21, 22, 23, 24, 25, 26, 27, 28, 29, 30, 31, 32, 34, 35, 36, 37, 38, 39, 40, 41, 42, 43, 44, 45, 46, 47, 48, 33] (ws' := ((cR cI cZ q h k (nI b) y (nI n) r f0 f1 f2 f3 f4 f5 f6 f7 f8 f9 f10 f11 f12 f13 (nI n1) r1 g0 g1 g2 g3 g4 g5 g6 g7 g8 g9 g10 g11 g12 g13 bp bn) ++ ((cM cI cZ mh 0 (nI n) r y (nI b) m0 m1 m2 m3 m4 m5 m6 m7 m8 m9 m10 m11 m12 m13) ++ [(o, .inl (cJ, 1, .inr (.inl uo_1)))]))) (by decide) rfl ?_
  refine zv_istore C dL_law_1158 1160 rfl [(6, .int (fc m0 z 16 (nI p))), (5, .int 0), (0, .ref sc), (1, .ref (q 0)), (2, .ref (mh 0)), (3, .ref o), (4, .int (nI i))] (by decide) rfl ?_
  refine zv_aload_n C dL_law_1160 1161 rfl 4 rfl ?_
  refine zv_callVR (rest := []) C (k_X2_thrown l D cI cZ mh 0 n r y b m0 m1 m2 m3 m4 m5 m6 m7 m8 m9 m10 m11 m12 m13 ) (cwV 0 C.1.2.2.2.2 gL_law_X2_thrown rfl rfl rfl (by decide +kernel) ⟨Nat.le_of_ble_eq_true rfl, Nat.le_of_ble_eq_true rfl⟩) dL_law_1161 1164 rfl (ci := 2) 0 rfl rfl rfl rfl (Nat.le_of_ble_eq_true rfl) ⟨(by show kc + 0 ≤ 601024; omega), (by show ns + 0 ≤ 7293034; omega)⟩ [0, 1] rfl [33, 34, 35, 36, 37, 38, 39, 40, 41, 42, 43, 44, 45, 46, 47] rfl (by decide) (fun v hv => ?_)
  subst hv
  refine zv_go rfl rfl (st' := [.int 0]) rfl (kc' := kc) rfl (ns' := ns) rfl ?_
  refine zv_iload C dL_law_1164 1166 rfl 1 rfl ?_
  refine zv_icmp_eq C dL_law_1166 1169 1171 rfl (by decide) (fun _ => ?_) (fun q => absurd (by decide) q)
  refine zv_iload C dL_law_1171 1173 rfl 1 rfl ?_
  refine zv_if_ne C dL_law_1173 1176 1188 rfl (by decide) (fun q => absurd (by decide) q) (fun _ => ?_)
  refine zv_aload_n C dL_law_1176 1177 rfl 5 rfl ?_
  refine zv_iconst (v := 0) C dL_law_1177 1178 rfl (by decide) ?_
  refine zv_lald (v := (uo_1 0)) C dL_law_1178 1179 rfl 48 2 0 rfl rfl (by decide) (by decide) (by decide) rfl ?_
  refine zv_iload C dL_law_1179 1181 rfl 0 rfl ?_
  refine zv_i2l C dL_law_1181 1182 rfl ?_
  refine zv_lcmpE C dL_law_1182 1183 rfl (hu.trans (congrArg Int32.toInt64 (hI.vFc hp ho))) ?_
  refine zv_if_eq C dL_law_1183 1186 1188 rfl (by decide) (fun _ => ?_) (fun q => absurd (by decide) q)
  refine zv_goto C dL_law_1188 1966 (by decide) ?_
  refine zv_widen (k' := kc + 17) (n' := ns + 168) (by omega) (by omega) ?_
  refine zv_sub [2, 3, 4, 5, 6] (lv' := [(0, .ref sc), (1, .ref (q 0)), (2, .ref (mh 0)), (3, .ref o), (4, .int (nI i))]) rfl ?_
  exact K n b y r 0 d f0 f1 f2 f3 f4 f5 f6 f7 f8 f9 f10 f11 f12 f13 n1 r1 g0 g1 g2 g3 g4 g5 g6 g7 g8 g9 g10 g11 g12 g13 bp bn uo_1 m0 m1 m2 m3 m4 m5 m6 m7 m8 m9 m10 m11 m12 m13 hI
set_option maxHeartbeats 4000000 in
set_option maxRecDepth 100000 in
theorem lc_lead_n1 {pP : Program} {l : Launch} {eE : Env} {sS : State} {mM : MethodId} {aA : Array Value} {bB : List Frame} {mT : Method} {cD : Code} {Q : State → Prop} {D : va_G} {cI cZ cJ : ClassId} {A : Nat → Prop} {sc L : Nat} {xs : Nat → Int32} {q h k mh : Nat → Nat} {o i kc ns : Nat} {n b : Nat} {y r t : Int32} {d : Nat → Nat} {f0 f1 f2 f3 f4 f5 f6 f7 f8 f9 f10 f11 f12 f13 : Nat → Int32} {n1 : Nat} {r1 : Int32} {g0 g1 g2 g3 g4 g5 g6 g7 g8 g9 g10 g11 g12 g13 bp bn : Nat → Int32} {u : Nat → Int64} {m0 m1 m2 m3 m4 m5 m6 m7 m8 m9 m10 m11 m12 m13 : Nat → Int32} (hl : l.stackTraces = false) (C : zv_C pP mM cD cL_law 9 sS aA wsL_law "RiverNamesLaw" A) (hA : A = fun q => sS.heap.size ≤ q) (hE : zx_E sS) (hX : va_X sc L xs sS sS.heap) (hsc : sc < sS.heap.size) (hi : i + 4 ≤ L) (hL : L ≤ 2048) (hkc : kc + 17 ≤ 601024) (hns : ns + 168 ≤ 7293034) (hI : LI n b r d f0 f1 f2 f3 f4 f5 f6 f7 f8 f9 f10 f11 f12 f13 bp bn m0 m1 m2 m3 m4 m5 m6 m7) (K : LK pP l eE sS mM aA bB mT cD Q D cI cZ cJ A sc q h k mh o i kc ns) (hf : isP n (xs (i + 1)) = false) : zv_V pP l eE room_1 sS mM aA bB mT cD Q 9 D vwCl A A (tyJ cI cZ cJ) ((cR cI cZ q h k (nI b) y (nI n) r f0 f1 f2 f3 f4 f5 f6 f7 f8 f9 f10 f11 f12 f13 (nI n1) r1 g0 g1 g2 g3 g4 g5 g6 g7 g8 g9 g10 g11 g12 g13 bp bn) ++ ((cM cI cZ mh t (nI n) r y (nI b) m0 m1 m2 m3 m4 m5 m6 m7 m8 m9 m10 m11 m12 m13) ++ [(o, .inl (cJ, 1, .inr (.inl u)))])) kc ns 324 [(0, .ref sc), (1, .ref (q 0)), (2, .ref (mh 0)), (3, .ref o), (4, .int (nI i))] [] := by
  refine zv_aload_n C dL_law_324 325 rfl 1 rfl ?_
  refine zv_aload_n C dL_law_325 326 rfl 0 rfl ?_
  refine zv_iload C dL_law_326 328 rfl 4 rfl ?_
  refine zv_iconst (v := 1) C dL_law_328 329 rfl (by decide) ?_
  refine zv_iadd (v := (nI (i + 1))) C dL_law_329 330 rfl (nI_1 i) ?_
  refine zv_sld C hA hX hsc dL_law_330 331 rfl (i + 1) rfl (by omega) hL (v := (xs (i + 1))) rfl ?_
  refine zv_aload_n C dL_law_331 332 rfl 0 rfl ?_
  refine zv_iload C dL_law_332 334 rfl 4 rfl ?_
  refine zv_iconst (v := 2) C dL_law_334 335 rfl (by decide) ?_
  refine zv_iadd (v := (nI (i + 2))) C dL_law_335 336 rfl (nI_c i 2 2 rfl) ?_
  refine zv_sld C hA hX hsc dL_law_336 337 rfl (i + 2) rfl (by omega) hL (v := (xs (i + 2))) rfl ?_
  refine zv_aload_n C dL_law_337 338 rfl 3 rfl ?_
  refine zv_callWE (rest := []) C hA hE (k_L_lead_t1 l D cI cZ cJ q h k b y n r f0 f1 f2 f3 f4 f5 f6 f7 f8 f9 f10 f11 f12 f13 n1 r1 g0 g1 g2 g3 g4 g5 g6 g7 g8 g9 g10 g11 g12 g13 bp bn o u (xs (i + 1)) (xs (i + 2)) hI.n16 (by first | assumption | omega) hl) (vx_cwSW 4 C.1.2.2.2.2 gL_law_L_lead rfl rfl rfl (by decide +kernel) ⟨Nat.le_of_ble_eq_true rfl, Nat.le_of_ble_eq_true rfl⟩) dL_law_338 341 rfl rfl rfl (Nat.le_of_ble_eq_true rfl) ⟨(by show kc + 1 ≤ 601024; omega), (by show ns + 6 ≤ 7293034; omega)⟩ [0, 1, 2] rfl [0, 1, 2, 3, 4, 5, 6, 7, 8, 9, 10, 11, 12, 13, 14, 15, 16, 17, 18, 19, 20, 21, 22, 23, 24, 25, 26, 27, 28, 29, 30, 31, 32, 48] rfl (by decide) (fun v hv => ?_)
  subst hv
  refine zv_go rfl rfl (st' := [.int 1]) rfl (kc' := kc + 1) rfl (ns' := ns + 6) rfl ?_
  refine zv_istore C dL_law_341 343 rfl [(5, .int 1), (0, .ref sc), (1, .ref (q 0)), (2, .ref (mh 0)), (3, .ref o), (4, .int (nI i))] (by decide) rfl ?_
  refine zv_aload_n C dL_law_343 344 rfl 3 rfl ?_
  refine zv_aload_n C dL_law_344 345 rfl 1 rfl ?_
  refine zv_iload C dL_law_345 347 rfl 5 rfl ?_
  refine zv_iconst (v := 1) C dL_law_347 348 rfl (by decide) ?_
  refine zv_iadd (v := (nI (i + 1))) C dL_law_348 349 rfl (nI_1 i) ?_
  refine zv_sld C hA hX hsc dL_law_349 350 rfl (i + 1) rfl (by omega) hL (v := (xs (i + 1))) rfl ?_
  refine zv_aload_n C dL_law_350 351 rfl 1 rfl ?_
  refine zv_iload C dL_law_351 353 rfl 5 rfl ?_
  refine zv_iconst (v := 2) C dL_law_353 354 rfl (by decide) ?_
  refine zv_iadd (v := (nI (i + 2))) C dL_law_354 355 rfl (nI_c i 2 2 rfl) ?_
  refine zv_sld C hA hX hsc dL_law_355 356 rfl (i + 2) rfl (by omega) hL (v := (xs (i + 2))) rfl ?_
  refine zv_callV (rest := []) (wr := ((cR cI cZ q h k (nI b) y (nI n) r f0 f1 f2 f3 f4 f5 f6 f7 f8 f9 f10 f11 f12 f13 (nI n1) r1 g0 g1 g2 g3 g4 g5 g6 g7 g8 g9 g10 g11 g12 g13 bp bn) ++ [(o, .inl (cJ, 1, .inr (.inl u)))])) C (k_X2_lead_n1 l D cI cZ mh t n r y b m0 m1 m2 m3 m4 m5 m6 m7 m8 m9 m10 m11 m12 m13 (xs (i + 1)) (xs (i + 2)) hI.n16 (by first | assumption | omega)) (cwV 2 C.1.2.2.2.2 gL_law_X2_lead rfl rfl rfl (by decide +kernel) ⟨Nat.le_of_ble_eq_true rfl, Nat.le_of_ble_eq_true rfl⟩) dL_law_356 359 rfl (ci := 2) 0 rfl rfl rfl rfl (Nat.le_of_ble_eq_true rfl) ⟨(by show kc + 1 + 0 ≤ 601024; omega), (by show ns + 6 + 0 ≤ 7293034; omega)⟩ [0, 1] rfl [33, 34, 35, 36, 37, 38, 39, 40, 41, 42, 43, 44, 45, 46, 47] rfl (by decide) [0, 1, 2, 3, 4, 5, 6, 7, 8, 9, 10, 11, 12, 13, 14, 15, 16, 17, 18, 19, 20, 21, 22, 23, 24, 25, 26, 27, 28, 29, 30, 31, 32, 48] rfl (by decide) (by decide +kernel) (fun v w hv => ?_)
  obtain ⟨rfl, rfl⟩ := hv
  refine zv_go rfl rfl (st' := [.int 0]) rfl (kc' := kc + 1) rfl (ns' := ns + 6) rfl ?_
  refine zv_perm [0, 1, 2, 3, 4, 5, 6, 7, 8, 9, 10, 11, 12, 13, 14, 15, 16, 17, 18, 19, 20, 21, 22, 23, 24, 25, 26, 27, 28, 29, 30, 31, 32, 34, 35, 36, 37, 38, 39, 40, 41, 42, 43, 44, 45, 46, 47, 48, 33] (ws' := ((cR cI cZ q h k (nI b) y (nI n) r f0 f1 f2 f3 f4 f5 f6 f7 f8 f9 f10 f11 f12 f13 (nI n1) r1 g0 g1 g2 g3 g4 g5 g6 g7 g8 g9 g10 g11 g12 g13 bp bn) ++ ((cM cI cZ mh 1 (nI n) r y (nI b) m0 m1 m2 m3 m4 m5 m6 m7 m8 m9 m10 m11 m12 m13) ++ [(o, .inl (cJ, 1, .inr (.inl u)))]))) (by decide) rfl ?_
  refine zv_istore C dL_law_359 361 rfl [(6, .int 0), (5, .int 1), (0, .ref sc), (1, .ref (q 0)), (2, .ref (mh 0)), (3, .ref o), (4, .int (nI i))] (by decide) rfl ?_
  refine zv_aload_n C dL_law_361 362 rfl 4 rfl ?_
  refine zv_callVR (rest := []) C (k_X2_thrown l D cI cZ mh 1 n r y b m0 m1 m2 m3 m4 m5 m6 m7 m8 m9 m10 m11 m12 m13 ) (cwV 0 C.1.2.2.2.2 gL_law_X2_thrown rfl rfl rfl (by decide +kernel) ⟨Nat.le_of_ble_eq_true rfl, Nat.le_of_ble_eq_true rfl⟩) dL_law_362 365 rfl (ci := 2) 0 rfl rfl rfl rfl (Nat.le_of_ble_eq_true rfl) ⟨(by show kc + 1 + 0 ≤ 601024; omega), (by show ns + 6 + 0 ≤ 7293034; omega)⟩ [0, 1] rfl [33, 34, 35, 36, 37, 38, 39, 40, 41, 42, 43, 44, 45, 46, 47] rfl (by decide) (fun v hv => ?_)
  subst hv
  refine zv_go rfl rfl (st' := [.int 1]) rfl (kc' := kc + 1) rfl (ns' := ns + 6) rfl ?_
  refine zv_iload C dL_law_365 367 rfl 1 rfl ?_
  refine zv_icmp_eq C dL_law_367 370 372 rfl (by decide) (fun _ => ?_) (fun q => absurd (by decide) q)
  refine zv_iload C dL_law_372 374 rfl 1 rfl ?_
  refine zv_if_ne C dL_law_374 377 389 rfl (by decide) (fun _ => ?_) (fun q => absurd q (by decide))
  refine zv_goto C dL_law_389 1966 (by decide) ?_
  refine zv_widen (k' := kc + 17) (n' := ns + 168) (by omega) (by omega) ?_
  refine zv_sub [2, 3, 4, 5, 6] (lv' := [(0, .ref sc), (1, .ref (q 0)), (2, .ref (mh 0)), (3, .ref o), (4, .int (nI i))]) rfl ?_
  exact K n b y r 1 d f0 f1 f2 f3 f4 f5 f6 f7 f8 f9 f10 f11 f12 f13 n1 r1 g0 g1 g2 g3 g4 g5 g6 g7 g8 g9 g10 g11 g12 g13 bp bn u m0 m1 m2 m3 m4 m5 m6 m7 m8 m9 m10 m11 m12 m13 hI
set_option maxHeartbeats 4000000 in
set_option maxRecDepth 100000 in
theorem lc_lead_n2 {pP : Program} {l : Launch} {eE : Env} {sS : State} {mM : MethodId} {aA : Array Value} {bB : List Frame} {mT : Method} {cD : Code} {Q : State → Prop} {D : va_G} {cI cZ cJ : ClassId} {A : Nat → Prop} {sc L : Nat} {xs : Nat → Int32} {q h k mh : Nat → Nat} {o i kc ns : Nat} {n b : Nat} {y r t : Int32} {d : Nat → Nat} {f0 f1 f2 f3 f4 f5 f6 f7 f8 f9 f10 f11 f12 f13 : Nat → Int32} {n1 : Nat} {r1 : Int32} {g0 g1 g2 g3 g4 g5 g6 g7 g8 g9 g10 g11 g12 g13 bp bn : Nat → Int32} {u : Nat → Int64} {m0 m1 m2 m3 m4 m5 m6 m7 m8 m9 m10 m11 m12 m13 : Nat → Int32} (hl : l.stackTraces = false) (C : zv_C pP mM cD cL_law 9 sS aA wsL_law "RiverNamesLaw" A) (hA : A = fun q => sS.heap.size ≤ q) (hE : zx_E sS) (hX : va_X sc L xs sS sS.heap) (hsc : sc < sS.heap.size) (hi : i + 4 ≤ L) (hL : L ≤ 2048) (hkc : kc + 17 ≤ 601024) (hns : ns + 168 ≤ 7293034) (hI : LI n b r d f0 f1 f2 f3 f4 f5 f6 f7 f8 f9 f10 f11 f12 f13 bp bn m0 m1 m2 m3 m4 m5 m6 m7) (K : LK pP l eE sS mM aA bB mT cD Q D cI cZ cJ A sc q h k mh o i kc ns) (p : Nat) (hp : p < n) (e1 : xs (i + 1) = nI p) (hf : isP n (xs (i + 2)) = false) : zv_V pP l eE room_1 sS mM aA bB mT cD Q 9 D vwCl A A (tyJ cI cZ cJ) ((cR cI cZ q h k (nI b) y (nI n) r f0 f1 f2 f3 f4 f5 f6 f7 f8 f9 f10 f11 f12 f13 (nI n1) r1 g0 g1 g2 g3 g4 g5 g6 g7 g8 g9 g10 g11 g12 g13 bp bn) ++ ((cM cI cZ mh t (nI n) r y (nI b) m0 m1 m2 m3 m4 m5 m6 m7 m8 m9 m10 m11 m12 m13) ++ [(o, .inl (cJ, 1, .inr (.inl u)))])) kc ns 324 [(0, .ref sc), (1, .ref (q 0)), (2, .ref (mh 0)), (3, .ref o), (4, .int (nI i))] [] := by
  refine zv_aload_n C dL_law_324 325 rfl 1 rfl ?_
  refine zv_aload_n C dL_law_325 326 rfl 0 rfl ?_
  refine zv_iload C dL_law_326 328 rfl 4 rfl ?_
  refine zv_iconst (v := 1) C dL_law_328 329 rfl (by decide) ?_
  refine zv_iadd (v := (nI (i + 1))) C dL_law_329 330 rfl (nI_1 i) ?_
  refine zv_sld C hA hX hsc dL_law_330 331 rfl (i + 1) rfl (by omega) hL (v := (nI p)) e1 ?_
  refine zv_aload_n C dL_law_331 332 rfl 0 rfl ?_
  refine zv_iload C dL_law_332 334 rfl 4 rfl ?_
  refine zv_iconst (v := 2) C dL_law_334 335 rfl (by decide) ?_
  refine zv_iadd (v := (nI (i + 2))) C dL_law_335 336 rfl (nI_c i 2 2 rfl) ?_
  refine zv_sld C hA hX hsc dL_law_336 337 rfl (i + 2) rfl (by omega) hL (v := (xs (i + 2))) rfl ?_
  refine zv_aload_n C dL_law_337 338 rfl 3 rfl ?_
  refine zv_callWE (rest := []) C hA hE (k_L_lead_t2 l D cI cZ cJ q h k b y n r f0 f1 f2 f3 f4 f5 f6 f7 f8 f9 f10 f11 f12 f13 n1 r1 g0 g1 g2 g3 g4 g5 g6 g7 g8 g9 g10 g11 g12 g13 bp bn o u p (xs (i + 2)) hI.n16 (by first | assumption | omega) (by first | assumption | omega) hl) (vx_cwSW 4 C.1.2.2.2.2 gL_law_L_lead rfl rfl rfl (by decide +kernel) ⟨Nat.le_of_ble_eq_true rfl, Nat.le_of_ble_eq_true rfl⟩) dL_law_338 341 rfl rfl rfl (Nat.le_of_ble_eq_true rfl) ⟨(by show kc + 1 ≤ 601024; omega), (by show ns + 6 ≤ 7293034; omega)⟩ [0, 1, 2] rfl [0, 1, 2, 3, 4, 5, 6, 7, 8, 9, 10, 11, 12, 13, 14, 15, 16, 17, 18, 19, 20, 21, 22, 23, 24, 25, 26, 27, 28, 29, 30, 31, 32, 48] rfl (by decide) (fun v hv => ?_)
  subst hv
  refine zv_go rfl rfl (st' := [.int 1]) rfl (kc' := kc + 1) rfl (ns' := ns + 6) rfl ?_
  refine zv_istore C dL_law_341 343 rfl [(5, .int 1), (0, .ref sc), (1, .ref (q 0)), (2, .ref (mh 0)), (3, .ref o), (4, .int (nI i))] (by decide) rfl ?_
  refine zv_aload_n C dL_law_343 344 rfl 3 rfl ?_
  refine zv_aload_n C dL_law_344 345 rfl 1 rfl ?_
  refine zv_iload C dL_law_345 347 rfl 5 rfl ?_
  refine zv_iconst (v := 1) C dL_law_347 348 rfl (by decide) ?_
  refine zv_iadd (v := (nI (i + 1))) C dL_law_348 349 rfl (nI_1 i) ?_
  refine zv_sld C hA hX hsc dL_law_349 350 rfl (i + 1) rfl (by omega) hL (v := (nI p)) e1 ?_
  refine zv_aload_n C dL_law_350 351 rfl 1 rfl ?_
  refine zv_iload C dL_law_351 353 rfl 5 rfl ?_
  refine zv_iconst (v := 2) C dL_law_353 354 rfl (by decide) ?_
  refine zv_iadd (v := (nI (i + 2))) C dL_law_354 355 rfl (nI_c i 2 2 rfl) ?_
  refine zv_sld C hA hX hsc dL_law_355 356 rfl (i + 2) rfl (by omega) hL (v := (xs (i + 2))) rfl ?_
  refine zv_callV (rest := []) (wr := ((cR cI cZ q h k (nI b) y (nI n) r f0 f1 f2 f3 f4 f5 f6 f7 f8 f9 f10 f11 f12 f13 (nI n1) r1 g0 g1 g2 g3 g4 g5 g6 g7 g8 g9 g10 g11 g12 g13 bp bn) ++ [(o, .inl (cJ, 1, .inr (.inl u)))])) C (k_X2_lead_n2 l D cI cZ mh t n r y b m0 m1 m2 m3 m4 m5 m6 m7 m8 m9 m10 m11 m12 m13 p (xs (i + 2)) hI.n16 (by first | assumption | omega) (by first | assumption | omega)) (cwV 2 C.1.2.2.2.2 gL_law_X2_lead rfl rfl rfl (by decide +kernel) ⟨Nat.le_of_ble_eq_true rfl, Nat.le_of_ble_eq_true rfl⟩) dL_law_356 359 rfl (ci := 2) 0 rfl rfl rfl rfl (Nat.le_of_ble_eq_true rfl) ⟨(by show kc + 1 + 0 ≤ 601024; omega), (by show ns + 6 + 0 ≤ 7293034; omega)⟩ [0, 1] rfl [33, 34, 35, 36, 37, 38, 39, 40, 41, 42, 43, 44, 45, 46, 47] rfl (by decide) [0, 1, 2, 3, 4, 5, 6, 7, 8, 9, 10, 11, 12, 13, 14, 15, 16, 17, 18, 19, 20, 21, 22, 23, 24, 25, 26, 27, 28, 29, 30, 31, 32, 48] rfl (by decide) (by decide +kernel) (fun v w hv => ?_)
  obtain ⟨rfl, rfl⟩ := hv
  refine zv_go rfl rfl (st' := [.int 0]) rfl (kc' := kc + 1) rfl (ns' := ns + 6) rfl ?_
  refine zv_perm [0, 1, 2, 3, 4, 5, 6, 7, 8, 9, 10, 11, 12, 13, 14, 15, 16, 17, 18, 19, 20, 21, 22, 23, 24, 25, 26, 27, 28, 29, 30, 31, 32, 34, 35, 36, 37, 38, 39, 40, 41, 42, 43, 44, 45, 46, 47, 48, 33] (ws' := ((cR cI cZ q h k (nI b) y (nI n) r f0 f1 f2 f3 f4 f5 f6 f7 f8 f9 f10 f11 f12 f13 (nI n1) r1 g0 g1 g2 g3 g4 g5 g6 g7 g8 g9 g10 g11 g12 g13 bp bn) ++ ((cM cI cZ mh 1 (nI n) r y (nI b) m0 m1 m2 m3 m4 m5 m6 m7 m8 m9 m10 m11 m12 m13) ++ [(o, .inl (cJ, 1, .inr (.inl u)))]))) (by decide) rfl ?_
  refine zv_istore C dL_law_359 361 rfl [(6, .int 0), (5, .int 1), (0, .ref sc), (1, .ref (q 0)), (2, .ref (mh 0)), (3, .ref o), (4, .int (nI i))] (by decide) rfl ?_
  refine zv_aload_n C dL_law_361 362 rfl 4 rfl ?_
  refine zv_callVR (rest := []) C (k_X2_thrown l D cI cZ mh 1 n r y b m0 m1 m2 m3 m4 m5 m6 m7 m8 m9 m10 m11 m12 m13 ) (cwV 0 C.1.2.2.2.2 gL_law_X2_thrown rfl rfl rfl (by decide +kernel) ⟨Nat.le_of_ble_eq_true rfl, Nat.le_of_ble_eq_true rfl⟩) dL_law_362 365 rfl (ci := 2) 0 rfl rfl rfl rfl (Nat.le_of_ble_eq_true rfl) ⟨(by show kc + 1 + 0 ≤ 601024; omega), (by show ns + 6 + 0 ≤ 7293034; omega)⟩ [0, 1] rfl [33, 34, 35, 36, 37, 38, 39, 40, 41, 42, 43, 44, 45, 46, 47] rfl (by decide) (fun v hv => ?_)
  subst hv
  refine zv_go rfl rfl (st' := [.int 1]) rfl (kc' := kc + 1) rfl (ns' := ns + 6) rfl ?_
  refine zv_iload C dL_law_365 367 rfl 1 rfl ?_
  refine zv_icmp_eq C dL_law_367 370 372 rfl (by decide) (fun _ => ?_) (fun q => absurd (by decide) q)
  refine zv_iload C dL_law_372 374 rfl 1 rfl ?_
  refine zv_if_ne C dL_law_374 377 389 rfl (by decide) (fun _ => ?_) (fun q => absurd q (by decide))
  refine zv_goto C dL_law_389 1966 (by decide) ?_
  refine zv_widen (k' := kc + 17) (n' := ns + 168) (by omega) (by omega) ?_
  refine zv_sub [2, 3, 4, 5, 6] (lv' := [(0, .ref sc), (1, .ref (q 0)), (2, .ref (mh 0)), (3, .ref o), (4, .int (nI i))]) rfl ?_
  exact K n b y r 1 d f0 f1 f2 f3 f4 f5 f6 f7 f8 f9 f10 f11 f12 f13 n1 r1 g0 g1 g2 g3 g4 g5 g6 g7 g8 g9 g10 g11 g12 g13 bp bn u m0 m1 m2 m3 m4 m5 m6 m7 m8 m9 m10 m11 m12 m13 hI
set_option maxHeartbeats 4000000 in
set_option maxRecDepth 100000 in
theorem lc_lead_n3 {pP : Program} {l : Launch} {eE : Env} {sS : State} {mM : MethodId} {aA : Array Value} {bB : List Frame} {mT : Method} {cD : Code} {Q : State → Prop} {D : va_G} {cI cZ cJ : ClassId} {A : Nat → Prop} {sc L : Nat} {xs : Nat → Int32} {q h k mh : Nat → Nat} {o i kc ns : Nat} {n b : Nat} {y r t : Int32} {d : Nat → Nat} {f0 f1 f2 f3 f4 f5 f6 f7 f8 f9 f10 f11 f12 f13 : Nat → Int32} {n1 : Nat} {r1 : Int32} {g0 g1 g2 g3 g4 g5 g6 g7 g8 g9 g10 g11 g12 g13 bp bn : Nat → Int32} {u : Nat → Int64} {m0 m1 m2 m3 m4 m5 m6 m7 m8 m9 m10 m11 m12 m13 : Nat → Int32} (hl : l.stackTraces = false) (C : zv_C pP mM cD cL_law 9 sS aA wsL_law "RiverNamesLaw" A) (hA : A = fun q => sS.heap.size ≤ q) (hE : zx_E sS) (hX : va_X sc L xs sS sS.heap) (hsc : sc < sS.heap.size) (hi : i + 4 ≤ L) (hL : L ≤ 2048) (hkc : kc + 17 ≤ 601024) (hns : ns + 168 ≤ 7293034) (hI : LI n b r d f0 f1 f2 f3 f4 f5 f6 f7 f8 f9 f10 f11 f12 f13 bp bn m0 m1 m2 m3 m4 m5 m6 m7) (K : LK pP l eE sS mM aA bB mT cD Q D cI cZ cJ A sc q h k mh o i kc ns) (p : Nat) (hp : p < n) (e1 : xs (i + 1) = nI p) (z : Nat) (ho : z < n) (e2 : xs (i + 2) = nI z) (he : p = z) : zv_V pP l eE room_1 sS mM aA bB mT cD Q 9 D vwCl A A (tyJ cI cZ cJ) ((cR cI cZ q h k (nI b) y (nI n) r f0 f1 f2 f3 f4 f5 f6 f7 f8 f9 f10 f11 f12 f13 (nI n1) r1 g0 g1 g2 g3 g4 g5 g6 g7 g8 g9 g10 g11 g12 g13 bp bn) ++ ((cM cI cZ mh t (nI n) r y (nI b) m0 m1 m2 m3 m4 m5 m6 m7 m8 m9 m10 m11 m12 m13) ++ [(o, .inl (cJ, 1, .inr (.inl u)))])) kc ns 324 [(0, .ref sc), (1, .ref (q 0)), (2, .ref (mh 0)), (3, .ref o), (4, .int (nI i))] [] := by
  refine zv_aload_n C dL_law_324 325 rfl 1 rfl ?_
  refine zv_aload_n C dL_law_325 326 rfl 0 rfl ?_
  refine zv_iload C dL_law_326 328 rfl 4 rfl ?_
  refine zv_iconst (v := 1) C dL_law_328 329 rfl (by decide) ?_
  refine zv_iadd (v := (nI (i + 1))) C dL_law_329 330 rfl (nI_1 i) ?_
  refine zv_sld C hA hX hsc dL_law_330 331 rfl (i + 1) rfl (by omega) hL (v := (nI p)) e1 ?_
  refine zv_aload_n C dL_law_331 332 rfl 0 rfl ?_
  refine zv_iload C dL_law_332 334 rfl 4 rfl ?_
  refine zv_iconst (v := 2) C dL_law_334 335 rfl (by decide) ?_
  refine zv_iadd (v := (nI (i + 2))) C dL_law_335 336 rfl (nI_c i 2 2 rfl) ?_
  refine zv_sld C hA hX hsc dL_law_336 337 rfl (i + 2) rfl (by omega) hL (v := (nI z)) e2 ?_
  refine zv_aload_n C dL_law_337 338 rfl 3 rfl ?_
  refine zv_callWE (rest := []) C hA hE (k_L_lead_t3 l D cI cZ cJ q h k b y n r f0 f1 f2 f3 f4 f5 f6 f7 f8 f9 f10 f11 f12 f13 n1 r1 g0 g1 g2 g3 g4 g5 g6 g7 g8 g9 g10 g11 g12 g13 bp bn o u p z hI.n16 (by first | assumption | omega) (by first | assumption | omega) (by first | assumption | omega) hl) (vx_cwSW 4 C.1.2.2.2.2 gL_law_L_lead rfl rfl rfl (by decide +kernel) ⟨Nat.le_of_ble_eq_true rfl, Nat.le_of_ble_eq_true rfl⟩) dL_law_338 341 rfl rfl rfl (Nat.le_of_ble_eq_true rfl) ⟨(by show kc + 1 ≤ 601024; omega), (by show ns + 6 ≤ 7293034; omega)⟩ [0, 1, 2] rfl [0, 1, 2, 3, 4, 5, 6, 7, 8, 9, 10, 11, 12, 13, 14, 15, 16, 17, 18, 19, 20, 21, 22, 23, 24, 25, 26, 27, 28, 29, 30, 31, 32, 48] rfl (by decide) (fun v hv => ?_)
  subst hv
  refine zv_go rfl rfl (st' := [.int 2]) rfl (kc' := kc + 1) rfl (ns' := ns + 6) rfl ?_
  refine zv_istore C dL_law_341 343 rfl [(5, .int 2), (0, .ref sc), (1, .ref (q 0)), (2, .ref (mh 0)), (3, .ref o), (4, .int (nI i))] (by decide) rfl ?_
  refine zv_aload_n C dL_law_343 344 rfl 3 rfl ?_
  refine zv_aload_n C dL_law_344 345 rfl 1 rfl ?_
  refine zv_iload C dL_law_345 347 rfl 5 rfl ?_
  refine zv_iconst (v := 1) C dL_law_347 348 rfl (by decide) ?_
  refine zv_iadd (v := (nI (i + 1))) C dL_law_348 349 rfl (nI_1 i) ?_
  refine zv_sld C hA hX hsc dL_law_349 350 rfl (i + 1) rfl (by omega) hL (v := (nI p)) e1 ?_
  refine zv_aload_n C dL_law_350 351 rfl 1 rfl ?_
  refine zv_iload C dL_law_351 353 rfl 5 rfl ?_
  refine zv_iconst (v := 2) C dL_law_353 354 rfl (by decide) ?_
  refine zv_iadd (v := (nI (i + 2))) C dL_law_354 355 rfl (nI_c i 2 2 rfl) ?_
  refine zv_sld C hA hX hsc dL_law_355 356 rfl (i + 2) rfl (by omega) hL (v := (nI z)) e2 ?_
  refine zv_callV (rest := []) (wr := ((cR cI cZ q h k (nI b) y (nI n) r f0 f1 f2 f3 f4 f5 f6 f7 f8 f9 f10 f11 f12 f13 (nI n1) r1 g0 g1 g2 g3 g4 g5 g6 g7 g8 g9 g10 g11 g12 g13 bp bn) ++ [(o, .inl (cJ, 1, .inr (.inl u)))])) C (k_X2_lead_n3 l D cI cZ mh t n r y b m0 m1 m2 m3 m4 m5 m6 m7 m8 m9 m10 m11 m12 m13 p z f1 d hI.n16 hI.depM (by first | assumption | omega) (by first | assumption | omega) (Or.inl he)) (cwV 2 C.1.2.2.2.2 gL_law_X2_lead rfl rfl rfl (by decide +kernel) ⟨Nat.le_of_ble_eq_true rfl, Nat.le_of_ble_eq_true rfl⟩) dL_law_356 359 rfl (ci := 2) 0 rfl rfl rfl rfl (Nat.le_of_ble_eq_true rfl) ⟨(by show kc + 1 + 0 ≤ 601024; omega), (by show ns + 6 + 0 ≤ 7293034; omega)⟩ [0, 1] rfl [33, 34, 35, 36, 37, 38, 39, 40, 41, 42, 43, 44, 45, 46, 47] rfl (by decide) [0, 1, 2, 3, 4, 5, 6, 7, 8, 9, 10, 11, 12, 13, 14, 15, 16, 17, 18, 19, 20, 21, 22, 23, 24, 25, 26, 27, 28, 29, 30, 31, 32, 48] rfl (by decide) (by decide +kernel) (fun v w hv => ?_)
  obtain ⟨rfl, rfl⟩ := hv
  refine zv_go rfl rfl (st' := [.int 0]) rfl (kc' := kc + 1) rfl (ns' := ns + 6) rfl ?_
  refine zv_perm [0, 1, 2, 3, 4, 5, 6, 7, 8, 9, 10, 11, 12, 13, 14, 15, 16, 17, 18, 19, 20, 21, 22, 23, 24, 25, 26, 27, 28, 29, 30, 31, 32, 34, 35, 36, 37, 38, 39, 40, 41, 42, 43, 44, 45, 46, 47, 48, 33] (ws' := ((cR cI cZ q h k (nI b) y (nI n) r f0 f1 f2 f3 f4 f5 f6 f7 f8 f9 f10 f11 f12 f13 (nI n1) r1 g0 g1 g2 g3 g4 g5 g6 g7 g8 g9 g10 g11 g12 g13 bp bn) ++ ((cM cI cZ mh 2 (nI n) r y (nI b) m0 m1 m2 m3 m4 m5 m6 m7 m8 m9 m10 m11 m12 m13) ++ [(o, .inl (cJ, 1, .inr (.inl u)))]))) (by decide) rfl ?_
  refine zv_istore C dL_law_359 361 rfl [(6, .int 0), (5, .int 2), (0, .ref sc), (1, .ref (q 0)), (2, .ref (mh 0)), (3, .ref o), (4, .int (nI i))] (by decide) rfl ?_
  refine zv_aload_n C dL_law_361 362 rfl 4 rfl ?_
  refine zv_callVR (rest := []) C (k_X2_thrown l D cI cZ mh 2 n r y b m0 m1 m2 m3 m4 m5 m6 m7 m8 m9 m10 m11 m12 m13 ) (cwV 0 C.1.2.2.2.2 gL_law_X2_thrown rfl rfl rfl (by decide +kernel) ⟨Nat.le_of_ble_eq_true rfl, Nat.le_of_ble_eq_true rfl⟩) dL_law_362 365 rfl (ci := 2) 0 rfl rfl rfl rfl (Nat.le_of_ble_eq_true rfl) ⟨(by show kc + 1 + 0 ≤ 601024; omega), (by show ns + 6 + 0 ≤ 7293034; omega)⟩ [0, 1] rfl [33, 34, 35, 36, 37, 38, 39, 40, 41, 42, 43, 44, 45, 46, 47] rfl (by decide) (fun v hv => ?_)
  subst hv
  refine zv_go rfl rfl (st' := [.int 2]) rfl (kc' := kc + 1) rfl (ns' := ns + 6) rfl ?_
  refine zv_iload C dL_law_365 367 rfl 1 rfl ?_
  refine zv_icmp_eq C dL_law_367 370 372 rfl (by decide) (fun _ => ?_) (fun q => absurd (by decide) q)
  refine zv_iload C dL_law_372 374 rfl 1 rfl ?_
  refine zv_if_ne C dL_law_374 377 389 rfl (by decide) (fun _ => ?_) (fun q => absurd q (by decide))
  refine zv_goto C dL_law_389 1966 (by decide) ?_
  refine zv_widen (k' := kc + 17) (n' := ns + 168) (by omega) (by omega) ?_
  refine zv_sub [2, 3, 4, 5, 6] (lv' := [(0, .ref sc), (1, .ref (q 0)), (2, .ref (mh 0)), (3, .ref o), (4, .int (nI i))]) rfl ?_
  exact K n b y r 2 d f0 f1 f2 f3 f4 f5 f6 f7 f8 f9 f10 f11 f12 f13 n1 r1 g0 g1 g2 g3 g4 g5 g6 g7 g8 g9 g10 g11 g12 g13 bp bn u m0 m1 m2 m3 m4 m5 m6 m7 m8 m9 m10 m11 m12 m13 hI
set_option maxHeartbeats 4000000 in
set_option maxRecDepth 100000 in
theorem lc_lead_n4 {pP : Program} {l : Launch} {eE : Env} {sS : State} {mM : MethodId} {aA : Array Value} {bB : List Frame} {mT : Method} {cD : Code} {Q : State → Prop} {D : va_G} {cI cZ cJ : ClassId} {A : Nat → Prop} {sc L : Nat} {xs : Nat → Int32} {q h k mh : Nat → Nat} {o i kc ns : Nat} {n b : Nat} {y r t : Int32} {d : Nat → Nat} {f0 f1 f2 f3 f4 f5 f6 f7 f8 f9 f10 f11 f12 f13 : Nat → Int32} {n1 : Nat} {r1 : Int32} {g0 g1 g2 g3 g4 g5 g6 g7 g8 g9 g10 g11 g12 g13 bp bn : Nat → Int32} {u : Nat → Int64} {m0 m1 m2 m3 m4 m5 m6 m7 m8 m9 m10 m11 m12 m13 : Nat → Int32} (hl : l.stackTraces = false) (C : zv_C pP mM cD cL_law 9 sS aA wsL_law "RiverNamesLaw" A) (hA : A = fun q => sS.heap.size ≤ q) (hE : zx_E sS) (hX : va_X sc L xs sS sS.heap) (hsc : sc < sS.heap.size) (hi : i + 4 ≤ L) (hL : L ≤ 2048) (hkc : kc + 17 ≤ 601024) (hns : ns + 168 ≤ 7293034) (hI : LI n b r d f0 f1 f2 f3 f4 f5 f6 f7 f8 f9 f10 f11 f12 f13 bp bn m0 m1 m2 m3 m4 m5 m6 m7) (K : LK pP l eE sS mM aA bB mT cD Q D cI cZ cJ A sc q h k mh o i kc ns) (p : Nat) (hp : p < n) (e1 : xs (i + 1) = nI p) (z : Nat) (ho : z < n) (e2 : xs (i + 2) = nI z) (hne : ¬ p = z) (hfl : fl f0 (nI p) 16 (f0 z) = true) : zv_V pP l eE room_1 sS mM aA bB mT cD Q 9 D vwCl A A (tyJ cI cZ cJ) ((cR cI cZ q h k (nI b) y (nI n) r f0 f1 f2 f3 f4 f5 f6 f7 f8 f9 f10 f11 f12 f13 (nI n1) r1 g0 g1 g2 g3 g4 g5 g6 g7 g8 g9 g10 g11 g12 g13 bp bn) ++ ((cM cI cZ mh t (nI n) r y (nI b) m0 m1 m2 m3 m4 m5 m6 m7 m8 m9 m10 m11 m12 m13) ++ [(o, .inl (cJ, 1, .inr (.inl u)))])) kc ns 324 [(0, .ref sc), (1, .ref (q 0)), (2, .ref (mh 0)), (3, .ref o), (4, .int (nI i))] [] := by
  refine zv_aload_n C dL_law_324 325 rfl 1 rfl ?_
  refine zv_aload_n C dL_law_325 326 rfl 0 rfl ?_
  refine zv_iload C dL_law_326 328 rfl 4 rfl ?_
  refine zv_iconst (v := 1) C dL_law_328 329 rfl (by decide) ?_
  refine zv_iadd (v := (nI (i + 1))) C dL_law_329 330 rfl (nI_1 i) ?_
  refine zv_sld C hA hX hsc dL_law_330 331 rfl (i + 1) rfl (by omega) hL (v := (nI p)) e1 ?_
  refine zv_aload_n C dL_law_331 332 rfl 0 rfl ?_
  refine zv_iload C dL_law_332 334 rfl 4 rfl ?_
  refine zv_iconst (v := 2) C dL_law_334 335 rfl (by decide) ?_
  refine zv_iadd (v := (nI (i + 2))) C dL_law_335 336 rfl (nI_c i 2 2 rfl) ?_
  refine zv_sld C hA hX hsc dL_law_336 337 rfl (i + 2) rfl (by omega) hL (v := (nI z)) e2 ?_
  refine zv_aload_n C dL_law_337 338 rfl 3 rfl ?_
  refine zv_callWE (rest := []) C hA hE (k_L_lead_t4 l D cI cZ cJ q h k b y n r f0 f1 f2 f3 f4 f5 f6 f7 f8 f9 f10 f11 f12 f13 n1 r1 g0 g1 g2 g3 g4 g5 g6 g7 g8 g9 g10 g11 g12 g13 bp bn o u p z hI.n16 (by first | assumption | omega) (by first | assumption | omega) hI.vw (by first | assumption | omega) (by first | assumption | omega) hl) (vx_cwSW 4 C.1.2.2.2.2 gL_law_L_lead rfl rfl rfl (by decide +kernel) ⟨Nat.le_of_ble_eq_true rfl, Nat.le_of_ble_eq_true rfl⟩) dL_law_338 341 rfl rfl rfl (Nat.le_of_ble_eq_true rfl) ⟨(by show kc + 1 ≤ 601024; omega), (by show ns + 6 ≤ 7293034; omega)⟩ [0, 1, 2] rfl [0, 1, 2, 3, 4, 5, 6, 7, 8, 9, 10, 11, 12, 13, 14, 15, 16, 17, 18, 19, 20, 21, 22, 23, 24, 25, 26, 27, 28, 29, 30, 31, 32, 48] rfl (by decide) (fun v hv => ?_)
  subst hv
  refine zv_go rfl rfl (st' := [.int 2]) rfl (kc' := kc + 1) rfl (ns' := ns + 6) rfl ?_
  refine zv_istore C dL_law_341 343 rfl [(5, .int 2), (0, .ref sc), (1, .ref (q 0)), (2, .ref (mh 0)), (3, .ref o), (4, .int (nI i))] (by decide) rfl ?_
  refine zv_aload_n C dL_law_343 344 rfl 3 rfl ?_
  refine zv_aload_n C dL_law_344 345 rfl 1 rfl ?_
  refine zv_iload C dL_law_345 347 rfl 5 rfl ?_
  refine zv_iconst (v := 1) C dL_law_347 348 rfl (by decide) ?_
  refine zv_iadd (v := (nI (i + 1))) C dL_law_348 349 rfl (nI_1 i) ?_
  refine zv_sld C hA hX hsc dL_law_349 350 rfl (i + 1) rfl (by omega) hL (v := (nI p)) e1 ?_
  refine zv_aload_n C dL_law_350 351 rfl 1 rfl ?_
  refine zv_iload C dL_law_351 353 rfl 5 rfl ?_
  refine zv_iconst (v := 2) C dL_law_353 354 rfl (by decide) ?_
  refine zv_iadd (v := (nI (i + 2))) C dL_law_354 355 rfl (nI_c i 2 2 rfl) ?_
  refine zv_sld C hA hX hsc dL_law_355 356 rfl (i + 2) rfl (by omega) hL (v := (nI z)) e2 ?_
  refine zv_callV (rest := []) (wr := ((cR cI cZ q h k (nI b) y (nI n) r f0 f1 f2 f3 f4 f5 f6 f7 f8 f9 f10 f11 f12 f13 (nI n1) r1 g0 g1 g2 g3 g4 g5 g6 g7 g8 g9 g10 g11 g12 g13 bp bn) ++ [(o, .inl (cJ, 1, .inr (.inl u)))])) C (k_X2_lead_n3 l D cI cZ mh t n r y b m0 m1 m2 m3 m4 m5 m6 m7 m8 m9 m10 m11 m12 m13 p z f1 d hI.n16 hI.depM (by first | assumption | omega) (by first | assumption | omega) (Or.inr ((hI.vAbove (z := p) ho).symm.trans hfl))) (cwV 2 C.1.2.2.2.2 gL_law_X2_lead rfl rfl rfl (by decide +kernel) ⟨Nat.le_of_ble_eq_true rfl, Nat.le_of_ble_eq_true rfl⟩) dL_law_356 359 rfl (ci := 2) 0 rfl rfl rfl rfl (Nat.le_of_ble_eq_true rfl) ⟨(by show kc + 1 + 0 ≤ 601024; omega), (by show ns + 6 + 0 ≤ 7293034; omega)⟩ [0, 1] rfl [33, 34, 35, 36, 37, 38, 39, 40, 41, 42, 43, 44, 45, 46, 47] rfl (by decide) [0, 1, 2, 3, 4, 5, 6, 7, 8, 9, 10, 11, 12, 13, 14, 15, 16, 17, 18, 19, 20, 21, 22, 23, 24, 25, 26, 27, 28, 29, 30, 31, 32, 48] rfl (by decide) (by decide +kernel) (fun v w hv => ?_)
  obtain ⟨rfl, rfl⟩ := hv
  refine zv_go rfl rfl (st' := [.int 0]) rfl (kc' := kc + 1) rfl (ns' := ns + 6) rfl ?_
  refine zv_perm [0, 1, 2, 3, 4, 5, 6, 7, 8, 9, 10, 11, 12, 13, 14, 15, 16, 17, 18, 19, 20, 21, 22, 23, 24, 25, 26, 27, 28, 29, 30, 31, 32, 34, 35, 36, 37, 38, 39, 40, 41, 42, 43, 44, 45, 46, 47, 48, 33] (ws' := ((cR cI cZ q h k (nI b) y (nI n) r f0 f1 f2 f3 f4 f5 f6 f7 f8 f9 f10 f11 f12 f13 (nI n1) r1 g0 g1 g2 g3 g4 g5 g6 g7 g8 g9 g10 g11 g12 g13 bp bn) ++ ((cM cI cZ mh 2 (nI n) r y (nI b) m0 m1 m2 m3 m4 m5 m6 m7 m8 m9 m10 m11 m12 m13) ++ [(o, .inl (cJ, 1, .inr (.inl u)))]))) (by decide) rfl ?_
  refine zv_istore C dL_law_359 361 rfl [(6, .int 0), (5, .int 2), (0, .ref sc), (1, .ref (q 0)), (2, .ref (mh 0)), (3, .ref o), (4, .int (nI i))] (by decide) rfl ?_
  refine zv_aload_n C dL_law_361 362 rfl 4 rfl ?_
  refine zv_callVR (rest := []) C (k_X2_thrown l D cI cZ mh 2 n r y b m0 m1 m2 m3 m4 m5 m6 m7 m8 m9 m10 m11 m12 m13 ) (cwV 0 C.1.2.2.2.2 gL_law_X2_thrown rfl rfl rfl (by decide +kernel) ⟨Nat.le_of_ble_eq_true rfl, Nat.le_of_ble_eq_true rfl⟩) dL_law_362 365 rfl (ci := 2) 0 rfl rfl rfl rfl (Nat.le_of_ble_eq_true rfl) ⟨(by show kc + 1 + 0 ≤ 601024; omega), (by show ns + 6 + 0 ≤ 7293034; omega)⟩ [0, 1] rfl [33, 34, 35, 36, 37, 38, 39, 40, 41, 42, 43, 44, 45, 46, 47] rfl (by decide) (fun v hv => ?_)
  subst hv
  refine zv_go rfl rfl (st' := [.int 2]) rfl (kc' := kc + 1) rfl (ns' := ns + 6) rfl ?_
  refine zv_iload C dL_law_365 367 rfl 1 rfl ?_
  refine zv_icmp_eq C dL_law_367 370 372 rfl (by decide) (fun _ => ?_) (fun q => absurd (by decide) q)
  refine zv_iload C dL_law_372 374 rfl 1 rfl ?_
  refine zv_if_ne C dL_law_374 377 389 rfl (by decide) (fun _ => ?_) (fun q => absurd q (by decide))
  refine zv_goto C dL_law_389 1966 (by decide) ?_
  refine zv_widen (k' := kc + 17) (n' := ns + 168) (by omega) (by omega) ?_
  refine zv_sub [2, 3, 4, 5, 6] (lv' := [(0, .ref sc), (1, .ref (q 0)), (2, .ref (mh 0)), (3, .ref o), (4, .int (nI i))]) rfl ?_
  exact K n b y r 2 d f0 f1 f2 f3 f4 f5 f6 f7 f8 f9 f10 f11 f12 f13 n1 r1 g0 g1 g2 g3 g4 g5 g6 g7 g8 g9 g10 g11 g12 g13 bp bn u m0 m1 m2 m3 m4 m5 m6 m7 m8 m9 m10 m11 m12 m13 hI
set_option maxHeartbeats 4000000 in
set_option maxRecDepth 100000 in
theorem lc_lead_ok {pP : Program} {l : Launch} {eE : Env} {sS : State} {mM : MethodId} {aA : Array Value} {bB : List Frame} {mT : Method} {cD : Code} {Q : State → Prop} {D : va_G} {cI cZ cJ : ClassId} {A : Nat → Prop} {sc L : Nat} {xs : Nat → Int32} {q h k mh : Nat → Nat} {o i kc ns : Nat} {n b : Nat} {y r t : Int32} {d : Nat → Nat} {f0 f1 f2 f3 f4 f5 f6 f7 f8 f9 f10 f11 f12 f13 : Nat → Int32} {n1 : Nat} {r1 : Int32} {g0 g1 g2 g3 g4 g5 g6 g7 g8 g9 g10 g11 g12 g13 bp bn : Nat → Int32} {u : Nat → Int64} {m0 m1 m2 m3 m4 m5 m6 m7 m8 m9 m10 m11 m12 m13 : Nat → Int32} (hl : l.stackTraces = false) (C : zv_C pP mM cD cL_law 9 sS aA wsL_law "RiverNamesLaw" A) (hA : A = fun q => sS.heap.size ≤ q) (hE : zx_E sS) (hX : va_X sc L xs sS sS.heap) (hsc : sc < sS.heap.size) (hi : i + 4 ≤ L) (hL : L ≤ 2048) (hkc : kc + 17 ≤ 601024) (hns : ns + 168 ≤ 7293034) (hI : LI n b r d f0 f1 f2 f3 f4 f5 f6 f7 f8 f9 f10 f11 f12 f13 bp bn m0 m1 m2 m3 m4 m5 m6 m7) (K : LK pP l eE sS mM aA bB mT cD Q D cI cZ cJ A sc q h k mh o i kc ns) (p : Nat) (hp : p < n) (e1 : xs (i + 1) = nI p) (z : Nat) (ho : z < n) (e2 : xs (i + 2) = nI z) (hne : ¬ p = z) (hfl : fl f0 (nI p) 16 (f0 z) = false) : zv_V pP l eE room_1 sS mM aA bB mT cD Q 9 D vwCl A A (tyJ cI cZ cJ) ((cR cI cZ q h k (nI b) y (nI n) r f0 f1 f2 f3 f4 f5 f6 f7 f8 f9 f10 f11 f12 f13 (nI n1) r1 g0 g1 g2 g3 g4 g5 g6 g7 g8 g9 g10 g11 g12 g13 bp bn) ++ ((cM cI cZ mh t (nI n) r y (nI b) m0 m1 m2 m3 m4 m5 m6 m7 m8 m9 m10 m11 m12 m13) ++ [(o, .inl (cJ, 1, .inr (.inl u)))])) kc ns 324 [(0, .ref sc), (1, .ref (q 0)), (2, .ref (mh 0)), (3, .ref o), (4, .int (nI i))] [] := by
  refine zv_aload_n C dL_law_324 325 rfl 1 rfl ?_
  refine zv_aload_n C dL_law_325 326 rfl 0 rfl ?_
  refine zv_iload C dL_law_326 328 rfl 4 rfl ?_
  refine zv_iconst (v := 1) C dL_law_328 329 rfl (by decide) ?_
  refine zv_iadd (v := (nI (i + 1))) C dL_law_329 330 rfl (nI_1 i) ?_
  refine zv_sld C hA hX hsc dL_law_330 331 rfl (i + 1) rfl (by omega) hL (v := (nI p)) e1 ?_
  refine zv_aload_n C dL_law_331 332 rfl 0 rfl ?_
  refine zv_iload C dL_law_332 334 rfl 4 rfl ?_
  refine zv_iconst (v := 2) C dL_law_334 335 rfl (by decide) ?_
  refine zv_iadd (v := (nI (i + 2))) C dL_law_335 336 rfl (nI_c i 2 2 rfl) ?_
  refine zv_sld C hA hX hsc dL_law_336 337 rfl (i + 2) rfl (by omega) hL (v := (nI z)) e2 ?_
  refine zv_aload_n C dL_law_337 338 rfl 3 rfl ?_
  refine zv_callW (rest := []) (wr := (cM cI cZ mh t (nI n) r y (nI b) m0 m1 m2 m3 m4 m5 m6 m7 m8 m9 m10 m11 m12 m13)) C (k_L_lead_ok l D cI cZ cJ q h k b y n r f0 f1 f2 f3 f4 f5 f6 f7 f8 f9 f10 f11 f12 f13 n1 r1 g0 g1 g2 g3 g4 g5 g6 g7 g8 g9 g10 g11 g12 g13 bp bn o u p z (leadD f0 d p z) hI.n16 (by first | assumption | omega) (by first | assumption | omega) hI.vw (by first | assumption | omega) (by first | assumption | omega) (lead_vw hI.dep hI.n16 hp ho hne hfl) (lead_dep hI.dep hI.n16 hp ho hne hfl)) (vx_cwSW 4 C.1.2.2.2.2 gL_law_L_lead rfl rfl rfl (by decide +kernel) ⟨Nat.le_of_ble_eq_true rfl, Nat.le_of_ble_eq_true rfl⟩) dL_law_338 341 rfl rfl rfl (Nat.le_of_ble_eq_true rfl) ⟨(by show kc + 0 ≤ 601024; omega), (by show ns + 0 ≤ 7293034; omega)⟩ [0, 1, 2] rfl [0, 1, 2, 3, 4, 5, 6, 7, 8, 9, 10, 11, 12, 13, 14, 15, 16, 17, 18, 19, 20, 21, 22, 23, 24, 25, 26, 27, 28, 29, 30, 31, 32, 48] rfl (by decide) [33, 34, 35, 36, 37, 38, 39, 40, 41, 42, 43, 44, 45, 46, 47] rfl (by decide) (by decide +kernel) (fun v w hv => ?_)
  obtain ⟨v1_1, v7_1, v8_1, v9_1, v10_1, v11_1, v12_1, v13_1, uo_1, rfl, rfl, hu, hw1, hw2, hw3⟩ := hv
  refine zv_go rfl rfl (st' := [.int 0]) rfl (kc' := kc) rfl (ns' := ns) rfl ?_
  refine zv_perm [15, 16, 17, 18, 19, 20, 21, 22, 23, 24, 25, 26, 27, 28, 29, 30, 31, 32, 33, 34, 35, 36, 37, 38, 39, 40, 41, 42, 43, 44, 45, 46, 47, 0, 1, 2, 3, 4, 5, 6, 7, 8, 9, 10, 11, 12, 13, 14, 48] (ws' := ((cR cI cZ q h k (nI b) y (nI n) r (upd f0 p (nI z)) v1_1 f2 f3 f4 f5 f6 v7_1 v8_1 v9_1 v10_1 v11_1 v12_1 v13_1 (nI n1) r1 g0 g1 g2 g3 g4 g5 g6 g7 g8 g9 g10 g11 g12 g13 bp bn) ++ ((cM cI cZ mh t (nI n) r y (nI b) m0 m1 m2 m3 m4 m5 m6 m7 m8 m9 m10 m11 m12 m13) ++ [(o, .inl (cJ, 1, .inr (.inl uo_1)))]))) (by decide) rfl ?_
  refine zv_istore C dL_law_341 343 rfl [(5, .int 0), (0, .ref sc), (1, .ref (q 0)), (2, .ref (mh 0)), (3, .ref o), (4, .int (nI i))] (by decide) rfl ?_
  refine zv_aload_n C dL_law_343 344 rfl 3 rfl ?_
  refine zv_aload_n C dL_law_344 345 rfl 1 rfl ?_
  refine zv_iload C dL_law_345 347 rfl 5 rfl ?_
  refine zv_iconst (v := 1) C dL_law_347 348 rfl (by decide) ?_
  refine zv_iadd (v := (nI (i + 1))) C dL_law_348 349 rfl (nI_1 i) ?_
  refine zv_sld C hA hX hsc dL_law_349 350 rfl (i + 1) rfl (by omega) hL (v := (nI p)) e1 ?_
  refine zv_aload_n C dL_law_350 351 rfl 1 rfl ?_
  refine zv_iload C dL_law_351 353 rfl 5 rfl ?_
  refine zv_iconst (v := 2) C dL_law_353 354 rfl (by decide) ?_
  refine zv_iadd (v := (nI (i + 2))) C dL_law_354 355 rfl (nI_c i 2 2 rfl) ?_
  refine zv_sld C hA hX hsc dL_law_355 356 rfl (i + 2) rfl (by omega) hL (v := (nI z)) e2 ?_
  refine zv_callV (rest := []) (wr := ((cR cI cZ q h k (nI b) y (nI n) r (upd f0 p (nI z)) v1_1 f2 f3 f4 f5 f6 v7_1 v8_1 v9_1 v10_1 v11_1 v12_1 v13_1 (nI n1) r1 g0 g1 g2 g3 g4 g5 g6 g7 g8 g9 g10 g11 g12 g13 bp bn) ++ [(o, .inl (cJ, 1, .inr (.inl uo_1)))])) C (k_X2_lead_ok l D cI cZ mh t n r y b m0 m1 m2 m3 m4 m5 m6 m7 m8 m9 m10 m11 m12 m13 p z f1 d hI.n16 hI.depM (by first | assumption | omega) (by first | assumption | omega) (by first | assumption | omega) ((hI.vAbove (z := p) ho).symm.trans hfl)) (cwV 2 C.1.2.2.2.2 gL_law_X2_lead rfl rfl rfl (by decide +kernel) ⟨Nat.le_of_ble_eq_true rfl, Nat.le_of_ble_eq_true rfl⟩) dL_law_356 359 rfl (ci := 2) 0 rfl rfl rfl rfl (Nat.le_of_ble_eq_true rfl) ⟨(by show kc + 0 ≤ 601024; omega), (by show ns + 0 ≤ 7293034; omega)⟩ [0, 1] rfl [33, 34, 35, 36, 37, 38, 39, 40, 41, 42, 43, 44, 45, 46, 47] rfl (by decide) [0, 1, 2, 3, 4, 5, 6, 7, 8, 9, 10, 11, 12, 13, 14, 15, 16, 17, 18, 19, 20, 21, 22, 23, 24, 25, 26, 27, 28, 29, 30, 31, 32, 48] rfl (by decide) (by decide +kernel) (fun v w hv => ?_)
  obtain ⟨rfl, rfl⟩ := hv
  refine zv_go rfl rfl (st' := [.int (m0 p)]) rfl (kc' := kc) rfl (ns' := ns) rfl ?_
  refine zv_perm [0, 1, 2, 3, 4, 5, 6, 7, 8, 9, 10, 11, 12, 13, 14, 15, 16, 17, 18, 19, 20, 21, 22, 23, 24, 25, 26, 27, 28, 29, 30, 31, 32, 34, 35, 36, 37, 38, 39, 40, 41, 42, 43, 44, 45, 46, 47, 48, 33] (ws' := ((cR cI cZ q h k (nI b) y (nI n) r (upd f0 p (nI z)) v1_1 f2 f3 f4 f5 f6 v7_1 v8_1 v9_1 v10_1 v11_1 v12_1 v13_1 (nI n1) r1 g0 g1 g2 g3 g4 g5 g6 g7 g8 g9 g10 g11 g12 g13 bp bn) ++ ((cM cI cZ mh 0 (nI n) r y (nI b) (upd m0 p (nI z)) m1 m2 m3 m4 m5 m6 m7 m8 m9 m10 m11 m12 m13) ++ [(o, .inl (cJ, 1, .inr (.inl uo_1)))]))) (by decide) rfl ?_
  refine zv_istore C dL_law_359 361 rfl [(6, .int (m0 p)), (5, .int 0), (0, .ref sc), (1, .ref (q 0)), (2, .ref (mh 0)), (3, .ref o), (4, .int (nI i))] (by decide) rfl ?_
  refine zv_aload_n C dL_law_361 362 rfl 4 rfl ?_
  refine zv_callVR (rest := []) C (k_X2_thrown l D cI cZ mh 0 n r y b (upd m0 p (nI z)) m1 m2 m3 m4 m5 m6 m7 m8 m9 m10 m11 m12 m13 ) (cwV 0 C.1.2.2.2.2 gL_law_X2_thrown rfl rfl rfl (by decide +kernel) ⟨Nat.le_of_ble_eq_true rfl, Nat.le_of_ble_eq_true rfl⟩) dL_law_362 365 rfl (ci := 2) 0 rfl rfl rfl rfl (Nat.le_of_ble_eq_true rfl) ⟨(by show kc + 0 ≤ 601024; omega), (by show ns + 0 ≤ 7293034; omega)⟩ [0, 1] rfl [33, 34, 35, 36, 37, 38, 39, 40, 41, 42, 43, 44, 45, 46, 47] rfl (by decide) (fun v hv => ?_)
  subst hv
  refine zv_go rfl rfl (st' := [.int 0]) rfl (kc' := kc) rfl (ns' := ns) rfl ?_
  refine zv_iload C dL_law_365 367 rfl 1 rfl ?_
  refine zv_icmp_eq C dL_law_367 370 372 rfl (by decide) (fun _ => ?_) (fun q => absurd (by decide) q)
  refine zv_iload C dL_law_372 374 rfl 1 rfl ?_
  refine zv_if_ne C dL_law_374 377 389 rfl (by decide) (fun q => absurd (by decide) q) (fun _ => ?_)
  refine zv_aload_n C dL_law_377 378 rfl 5 rfl ?_
  refine zv_iconst (v := 0) C dL_law_378 379 rfl (by decide) ?_
  refine zv_lald (v := (uo_1 0)) C dL_law_379 380 rfl 48 2 0 rfl rfl (by decide) (by decide) (by decide) rfl ?_
  refine zv_iload C dL_law_380 382 rfl 0 rfl ?_
  refine zv_i2l C dL_law_382 383 rfl ?_
  refine zv_lcmpE C dL_law_383 384 rfl (hu.trans (congrArg Int32.toInt64 (hI.e0 p hp))) ?_
  refine zv_if_eq C dL_law_384 387 389 rfl (by decide) (fun _ => ?_) (fun q => absurd (by decide) q)
  refine zv_goto C dL_law_389 1966 (by decide) ?_
  refine zv_widen (k' := kc + 17) (n' := ns + 168) (by omega) (by omega) ?_
  refine zv_sub [2, 3, 4, 5, 6] (lv' := [(0, .ref sc), (1, .ref (q 0)), (2, .ref (mh 0)), (3, .ref o), (4, .int (nI i))]) rfl ?_
  exact K n b y r 0 (leadD f0 d p z) (upd f0 p (nI z)) v1_1 f2 f3 f4 f5 f6 v7_1 v8_1 v9_1 v10_1 v11_1 v12_1 v13_1 n1 r1 g0 g1 g2 g3 g4 g5 g6 g7 g8 g9 g10 g11 g12 g13 bp bn uo_1 (upd m0 p (nI z)) m1 m2 m3 m4 m5 m6 m7 m8 m9 m10 m11 m12 m13 (hI.lead hp ho hne hfl hw1 hw2 hw3)
set_option maxHeartbeats 4000000 in
set_option maxRecDepth 100000 in
theorem lc_placesNamed_no {pP : Program} {l : Launch} {eE : Env} {sS : State} {mM : MethodId} {aA : Array Value} {bB : List Frame} {mT : Method} {cD : Code} {Q : State → Prop} {D : va_G} {cI cZ cJ : ClassId} {A : Nat → Prop} {sc L : Nat} {xs : Nat → Int32} {q h k mh : Nat → Nat} {o i kc ns : Nat} {n b : Nat} {y r t : Int32} {d : Nat → Nat} {f0 f1 f2 f3 f4 f5 f6 f7 f8 f9 f10 f11 f12 f13 : Nat → Int32} {n1 : Nat} {r1 : Int32} {g0 g1 g2 g3 g4 g5 g6 g7 g8 g9 g10 g11 g12 g13 bp bn : Nat → Int32} {u : Nat → Int64} {m0 m1 m2 m3 m4 m5 m6 m7 m8 m9 m10 m11 m12 m13 : Nat → Int32} (hl : l.stackTraces = false) (C : zv_C pP mM cD cL_law 9 sS aA wsL_law "RiverNamesLaw" A) (hA : A = fun q => sS.heap.size ≤ q) (hE : zx_E sS) (hX : va_X sc L xs sS sS.heap) (hsc : sc < sS.heap.size) (hi : i + 4 ≤ L) (hL : L ≤ 2048) (hkc : kc + 17 ≤ 601024) (hns : ns + 168 ≤ 7293034) (hI : LI n b r d f0 f1 f2 f3 f4 f5 f6 f7 f8 f9 f10 f11 f12 f13 bp bn m0 m1 m2 m3 m4 m5 m6 m7) (K : LK pP l eE sS mM aA bB mT cD Q D cI cZ cJ A sc q h k mh o i kc ns) (h1 : isI (xs (i + 1)) 0 9 = false) : zv_V pP l eE room_1 sS mM aA bB mT cD Q 9 D vwCl A A (tyJ cI cZ cJ) ((cR cI cZ q h k (nI b) y (nI n) r f0 f1 f2 f3 f4 f5 f6 f7 f8 f9 f10 f11 f12 f13 (nI n1) r1 g0 g1 g2 g3 g4 g5 g6 g7 g8 g9 g10 g11 g12 g13 bp bn) ++ ((cM cI cZ mh t (nI n) r y (nI b) m0 m1 m2 m3 m4 m5 m6 m7 m8 m9 m10 m11 m12 m13) ++ [(o, .inl (cJ, 1, .inr (.inl u)))])) kc ns 1366 [(0, .ref sc), (1, .ref (q 0)), (2, .ref (mh 0)), (3, .ref o), (4, .int (nI i))] [] := by
  refine zv_aload_n C dL_law_1366 1367 rfl 1 rfl ?_
  refine zv_aload_n C dL_law_1367 1368 rfl 0 rfl ?_
  refine zv_iload C dL_law_1368 1370 rfl 4 rfl ?_
  refine zv_iconst (v := 1) C dL_law_1370 1371 rfl (by decide) ?_
  refine zv_iadd (v := (nI (i + 1))) C dL_law_1371 1372 rfl (nI_1 i) ?_
  refine zv_sld C hA hX hsc dL_law_1372 1373 rfl (i + 1) rfl (by omega) hL (v := (xs (i + 1))) rfl ?_
  refine zv_aload_n C dL_law_1373 1374 rfl 3 rfl ?_
  refine zv_callWE (rest := []) C hA hE (k_L_placesNamed_t l D cI cZ cJ q h k b y n r f0 f1 f2 f3 f4 f5 f6 f7 f8 f9 f10 f11 f12 f13 n1 r1 g0 g1 g2 g3 g4 g5 g6 g7 g8 g9 g10 g11 g12 g13 bp bn o u (xs (i + 1)) (by first | assumption | omega) hl) (vx_cwSW 3 C.1.2.2.2.2 gL_law_L_placesNamed rfl rfl rfl (by decide +kernel) ⟨Nat.le_of_ble_eq_true rfl, Nat.le_of_ble_eq_true rfl⟩) dL_law_1374 1377 rfl rfl rfl (Nat.le_of_ble_eq_true rfl) ⟨(by show kc + 1 ≤ 601024; omega), (by show ns + 6 ≤ 7293034; omega)⟩ [0, 1, 2] rfl [0, 1, 2, 3, 4, 5, 6, 7, 8, 9, 10, 11, 12, 13, 14, 15, 16, 17, 18, 19, 20, 21, 22, 23, 24, 25, 26, 27, 28, 29, 30, 31, 32, 48] rfl (by decide) (fun v hv => ?_)
  subst hv
  refine zv_go rfl rfl (st' := [.int 1]) rfl (kc' := kc + 1) rfl (ns' := ns + 6) rfl ?_
  refine zv_istore C dL_law_1377 1379 rfl [(5, .int 1), (0, .ref sc), (1, .ref (q 0)), (2, .ref (mh 0)), (3, .ref o), (4, .int (nI i))] (by decide) rfl ?_
  refine zv_aload_n C dL_law_1379 1380 rfl 3 rfl ?_
  refine zv_aload_n C dL_law_1380 1381 rfl 1 rfl ?_
  refine zv_iload C dL_law_1381 1383 rfl 5 rfl ?_
  refine zv_iconst (v := 1) C dL_law_1383 1384 rfl (by decide) ?_
  refine zv_iadd (v := (nI (i + 1))) C dL_law_1384 1385 rfl (nI_1 i) ?_
  refine zv_sld C hA hX hsc dL_law_1385 1386 rfl (i + 1) rfl (by omega) hL (v := (xs (i + 1))) rfl ?_
  refine zv_callV (rest := []) (wr := ((cR cI cZ q h k (nI b) y (nI n) r f0 f1 f2 f3 f4 f5 f6 f7 f8 f9 f10 f11 f12 f13 (nI n1) r1 g0 g1 g2 g3 g4 g5 g6 g7 g8 g9 g10 g11 g12 g13 bp bn) ++ [(o, .inl (cJ, 1, .inr (.inl u)))])) C (k_X2_placesNamed_no l D cI cZ mh t n r y b m0 m1 m2 m3 m4 m5 m6 m7 m8 m9 m10 m11 m12 m13 (xs (i + 1)) (by first | assumption | omega)) (cwV 1 C.1.2.2.2.2 gL_law_X2_placesNamed rfl rfl rfl (by decide +kernel) ⟨Nat.le_of_ble_eq_true rfl, Nat.le_of_ble_eq_true rfl⟩) dL_law_1386 1389 rfl (ci := 2) 0 rfl rfl rfl rfl (Nat.le_of_ble_eq_true rfl) ⟨(by show kc + 1 + 0 ≤ 601024; omega), (by show ns + 6 + 0 ≤ 7293034; omega)⟩ [0, 1] rfl [33, 34, 35, 36, 37, 38, 39, 40, 41, 42, 43, 44, 45, 46, 47] rfl (by decide) [0, 1, 2, 3, 4, 5, 6, 7, 8, 9, 10, 11, 12, 13, 14, 15, 16, 17, 18, 19, 20, 21, 22, 23, 24, 25, 26, 27, 28, 29, 30, 31, 32, 48] rfl (by decide) (by decide +kernel) (fun v w hv => ?_)
  obtain ⟨rfl, rfl⟩ := hv
  refine zv_go rfl rfl (st' := [.int 0]) rfl (kc' := kc + 1) rfl (ns' := ns + 6) rfl ?_
  refine zv_perm [0, 1, 2, 3, 4, 5, 6, 7, 8, 9, 10, 11, 12, 13, 14, 15, 16, 17, 18, 19, 20, 21, 22, 23, 24, 25, 26, 27, 28, 29, 30, 31, 32, 34, 35, 36, 37, 38, 39, 40, 41, 42, 43, 44, 45, 46, 47, 48, 33] (ws' := ((cR cI cZ q h k (nI b) y (nI n) r f0 f1 f2 f3 f4 f5 f6 f7 f8 f9 f10 f11 f12 f13 (nI n1) r1 g0 g1 g2 g3 g4 g5 g6 g7 g8 g9 g10 g11 g12 g13 bp bn) ++ ((cM cI cZ mh 1 (nI n) r y (nI b) m0 m1 m2 m3 m4 m5 m6 m7 m8 m9 m10 m11 m12 m13) ++ [(o, .inl (cJ, 1, .inr (.inl u)))]))) (by decide) rfl ?_
  refine zv_istore C dL_law_1389 1391 rfl [(6, .int 0), (5, .int 1), (0, .ref sc), (1, .ref (q 0)), (2, .ref (mh 0)), (3, .ref o), (4, .int (nI i))] (by decide) rfl ?_
  refine zv_aload_n C dL_law_1391 1392 rfl 4 rfl ?_
  refine zv_callVR (rest := []) C (k_X2_thrown l D cI cZ mh 1 n r y b m0 m1 m2 m3 m4 m5 m6 m7 m8 m9 m10 m11 m12 m13 ) (cwV 0 C.1.2.2.2.2 gL_law_X2_thrown rfl rfl rfl (by decide +kernel) ⟨Nat.le_of_ble_eq_true rfl, Nat.le_of_ble_eq_true rfl⟩) dL_law_1392 1395 rfl (ci := 2) 0 rfl rfl rfl rfl (Nat.le_of_ble_eq_true rfl) ⟨(by show kc + 1 + 0 ≤ 601024; omega), (by show ns + 6 + 0 ≤ 7293034; omega)⟩ [0, 1] rfl [33, 34, 35, 36, 37, 38, 39, 40, 41, 42, 43, 44, 45, 46, 47] rfl (by decide) (fun v hv => ?_)
  subst hv
  refine zv_go rfl rfl (st' := [.int 1]) rfl (kc' := kc + 1) rfl (ns' := ns + 6) rfl ?_
  refine zv_iload C dL_law_1395 1397 rfl 1 rfl ?_
  refine zv_icmp_eq C dL_law_1397 1400 1402 rfl (by decide) (fun _ => ?_) (fun q => absurd (by decide) q)
  refine zv_iload C dL_law_1402 1404 rfl 1 rfl ?_
  refine zv_if_ne C dL_law_1404 1407 1419 rfl (by decide) (fun _ => ?_) (fun q => absurd q (by decide))
  refine zv_goto C dL_law_1419 1966 (by decide) ?_
  refine zv_widen (k' := kc + 17) (n' := ns + 168) (by omega) (by omega) ?_
  refine zv_sub [2, 3, 4, 5, 6] (lv' := [(0, .ref sc), (1, .ref (q 0)), (2, .ref (mh 0)), (3, .ref o), (4, .int (nI i))]) rfl ?_
  exact K n b y r 1 d f0 f1 f2 f3 f4 f5 f6 f7 f8 f9 f10 f11 f12 f13 n1 r1 g0 g1 g2 g3 g4 g5 g6 g7 g8 g9 g10 g11 g12 g13 bp bn u m0 m1 m2 m3 m4 m5 m6 m7 m8 m9 m10 m11 m12 m13 hI
set_option maxHeartbeats 4000000 in
set_option maxRecDepth 100000 in
theorem lc_placesNamed_ok {pP : Program} {l : Launch} {eE : Env} {sS : State} {mM : MethodId} {aA : Array Value} {bB : List Frame} {mT : Method} {cD : Code} {Q : State → Prop} {D : va_G} {cI cZ cJ : ClassId} {A : Nat → Prop} {sc L : Nat} {xs : Nat → Int32} {q h k mh : Nat → Nat} {o i kc ns : Nat} {n b : Nat} {y r t : Int32} {d : Nat → Nat} {f0 f1 f2 f3 f4 f5 f6 f7 f8 f9 f10 f11 f12 f13 : Nat → Int32} {n1 : Nat} {r1 : Int32} {g0 g1 g2 g3 g4 g5 g6 g7 g8 g9 g10 g11 g12 g13 bp bn : Nat → Int32} {u : Nat → Int64} {m0 m1 m2 m3 m4 m5 m6 m7 m8 m9 m10 m11 m12 m13 : Nat → Int32} (hl : l.stackTraces = false) (C : zv_C pP mM cD cL_law 9 sS aA wsL_law "RiverNamesLaw" A) (hA : A = fun q => sS.heap.size ≤ q) (hE : zx_E sS) (hX : va_X sc L xs sS sS.heap) (hsc : sc < sS.heap.size) (hi : i + 4 ≤ L) (hL : L ≤ 2048) (hkc : kc + 17 ≤ 601024) (hns : ns + 168 ≤ 7293034) (hI : LI n b r d f0 f1 f2 f3 f4 f5 f6 f7 f8 f9 f10 f11 f12 f13 bp bn m0 m1 m2 m3 m4 m5 m6 m7) (K : LK pP l eE sS mM aA bB mT cD Q D cI cZ cJ A sc q h k mh o i kc ns) (h1 : isI (xs (i + 1)) 0 9 = true) : zv_V pP l eE room_1 sS mM aA bB mT cD Q 9 D vwCl A A (tyJ cI cZ cJ) ((cR cI cZ q h k (nI b) y (nI n) r f0 f1 f2 f3 f4 f5 f6 f7 f8 f9 f10 f11 f12 f13 (nI n1) r1 g0 g1 g2 g3 g4 g5 g6 g7 g8 g9 g10 g11 g12 g13 bp bn) ++ ((cM cI cZ mh t (nI n) r y (nI b) m0 m1 m2 m3 m4 m5 m6 m7 m8 m9 m10 m11 m12 m13) ++ [(o, .inl (cJ, 1, .inr (.inl u)))])) kc ns 1366 [(0, .ref sc), (1, .ref (q 0)), (2, .ref (mh 0)), (3, .ref o), (4, .int (nI i))] [] := by
  refine zv_aload_n C dL_law_1366 1367 rfl 1 rfl ?_
  refine zv_aload_n C dL_law_1367 1368 rfl 0 rfl ?_
  refine zv_iload C dL_law_1368 1370 rfl 4 rfl ?_
  refine zv_iconst (v := 1) C dL_law_1370 1371 rfl (by decide) ?_
  refine zv_iadd (v := (nI (i + 1))) C dL_law_1371 1372 rfl (nI_1 i) ?_
  refine zv_sld C hA hX hsc dL_law_1372 1373 rfl (i + 1) rfl (by omega) hL (v := (xs (i + 1))) rfl ?_
  refine zv_aload_n C dL_law_1373 1374 rfl 3 rfl ?_
  refine zv_callW (rest := []) (wr := (cM cI cZ mh t (nI n) r y (nI b) m0 m1 m2 m3 m4 m5 m6 m7 m8 m9 m10 m11 m12 m13)) C (k_L_placesNamed_ok l D cI cZ cJ q h k b y n r f0 f1 f2 f3 f4 f5 f6 f7 f8 f9 f10 f11 f12 f13 n1 r1 g0 g1 g2 g3 g4 g5 g6 g7 g8 g9 g10 g11 g12 g13 bp bn o u (xs (i + 1)) hI.n16 (by first | assumption | omega)) (vx_cwSW 3 C.1.2.2.2.2 gL_law_L_placesNamed rfl rfl rfl (by decide +kernel) ⟨Nat.le_of_ble_eq_true rfl, Nat.le_of_ble_eq_true rfl⟩) dL_law_1374 1377 rfl rfl rfl (Nat.le_of_ble_eq_true rfl) ⟨(by show kc + 0 ≤ 601024; omega), (by show ns + 0 ≤ 7293034; omega)⟩ [0, 1, 2] rfl [0, 1, 2, 3, 4, 5, 6, 7, 8, 9, 10, 11, 12, 13, 14, 15, 16, 17, 18, 19, 20, 21, 22, 23, 24, 25, 26, 27, 28, 29, 30, 31, 32, 48] rfl (by decide) [33, 34, 35, 36, 37, 38, 39, 40, 41, 42, 43, 44, 45, 46, 47] rfl (by decide) (by decide +kernel) (fun v w hv => ?_)
  obtain ⟨uo_1, rfl, rfl, hu⟩ := hv
  refine zv_go rfl rfl (st' := [.int 0]) rfl (kc' := kc) rfl (ns' := ns) rfl ?_
  refine zv_perm [15, 16, 17, 18, 19, 20, 21, 22, 23, 24, 25, 26, 27, 28, 29, 30, 31, 32, 33, 34, 35, 36, 37, 38, 39, 40, 41, 42, 43, 44, 45, 46, 47, 0, 1, 2, 3, 4, 5, 6, 7, 8, 9, 10, 11, 12, 13, 14, 48] (ws' := ((cR cI cZ q h k (nI b) y (nI n) r f0 f1 f2 f3 f4 f5 f6 f7 f8 f9 f10 f11 f12 f13 (nI n1) r1 g0 g1 g2 g3 g4 g5 g6 g7 g8 g9 g10 g11 g12 g13 bp bn) ++ ((cM cI cZ mh t (nI n) r y (nI b) m0 m1 m2 m3 m4 m5 m6 m7 m8 m9 m10 m11 m12 m13) ++ [(o, .inl (cJ, 1, .inr (.inl uo_1)))]))) (by decide) rfl ?_
  refine zv_istore C dL_law_1377 1379 rfl [(5, .int 0), (0, .ref sc), (1, .ref (q 0)), (2, .ref (mh 0)), (3, .ref o), (4, .int (nI i))] (by decide) rfl ?_
  refine zv_aload_n C dL_law_1379 1380 rfl 3 rfl ?_
  refine zv_aload_n C dL_law_1380 1381 rfl 1 rfl ?_
  refine zv_iload C dL_law_1381 1383 rfl 5 rfl ?_
  refine zv_iconst (v := 1) C dL_law_1383 1384 rfl (by decide) ?_
  refine zv_iadd (v := (nI (i + 1))) C dL_law_1384 1385 rfl (nI_1 i) ?_
  refine zv_sld C hA hX hsc dL_law_1385 1386 rfl (i + 1) rfl (by omega) hL (v := (xs (i + 1))) rfl ?_
  refine zv_callV (rest := []) (wr := ((cR cI cZ q h k (nI b) y (nI n) r f0 f1 f2 f3 f4 f5 f6 f7 f8 f9 f10 f11 f12 f13 (nI n1) r1 g0 g1 g2 g3 g4 g5 g6 g7 g8 g9 g10 g11 g12 g13 bp bn) ++ [(o, .inl (cJ, 1, .inr (.inl uo_1)))])) C (k_X2_placesNamed_ok l D cI cZ mh t n r y b m0 m1 m2 m3 m4 m5 m6 m7 m8 m9 m10 m11 m12 m13 (xs (i + 1)) f1 d hI.n16 hI.depM (by first | assumption | omega)) (cwV 1 C.1.2.2.2.2 gL_law_X2_placesNamed rfl rfl rfl (by decide +kernel) ⟨Nat.le_of_ble_eq_true rfl, Nat.le_of_ble_eq_true rfl⟩) dL_law_1386 1389 rfl (ci := 2) 0 rfl rfl rfl rfl (Nat.le_of_ble_eq_true rfl) ⟨(by show kc + 0 ≤ 601024; omega), (by show ns + 0 ≤ 7293034; omega)⟩ [0, 1] rfl [33, 34, 35, 36, 37, 38, 39, 40, 41, 42, 43, 44, 45, 46, 47] rfl (by decide) [0, 1, 2, 3, 4, 5, 6, 7, 8, 9, 10, 11, 12, 13, 14, 15, 16, 17, 18, 19, 20, 21, 22, 23, 24, 25, 26, 27, 28, 29, 30, 31, 32, 48] rfl (by decide) (by decide +kernel) (fun v w hv => ?_)
  obtain ⟨eg8_2, eg9_2, eg10_2, eg11_2, rfl, rfl⟩ := hv
  refine zv_go rfl rfl (st' := [.int (nI (cnt (nmS n m0 m1 m2 m3 m5 r) (xs (i + 1)) n))]) rfl (kc' := kc) rfl (ns' := ns) rfl ?_
  refine zv_perm [0, 1, 2, 3, 4, 5, 6, 7, 8, 9, 10, 11, 12, 13, 14, 15, 16, 17, 18, 19, 20, 21, 22, 23, 24, 25, 26, 27, 28, 29, 30, 31, 32, 34, 35, 36, 37, 38, 39, 40, 41, 42, 43, 44, 45, 46, 47, 48, 33] (ws' := ((cR cI cZ q h k (nI b) y (nI n) r f0 f1 f2 f3 f4 f5 f6 f7 f8 f9 f10 f11 f12 f13 (nI n1) r1 g0 g1 g2 g3 g4 g5 g6 g7 g8 g9 g10 g11 g12 g13 bp bn) ++ ((cM cI cZ mh 0 (nI n) r y (nI b) m0 m1 m2 m3 m4 m5 m6 m7 eg8_2 eg9_2 eg10_2 eg11_2 m12 m13) ++ [(o, .inl (cJ, 1, .inr (.inl uo_1)))]))) (by decide) rfl ?_
  refine zv_istore C dL_law_1389 1391 rfl [(6, .int (nI (cnt (nmS n m0 m1 m2 m3 m5 r) (xs (i + 1)) n))), (5, .int 0), (0, .ref sc), (1, .ref (q 0)), (2, .ref (mh 0)), (3, .ref o), (4, .int (nI i))] (by decide) rfl ?_
  refine zv_aload_n C dL_law_1391 1392 rfl 4 rfl ?_
  refine zv_callVR (rest := []) C (k_X2_thrown l D cI cZ mh 0 n r y b m0 m1 m2 m3 m4 m5 m6 m7 eg8_2 eg9_2 eg10_2 eg11_2 m12 m13 ) (cwV 0 C.1.2.2.2.2 gL_law_X2_thrown rfl rfl rfl (by decide +kernel) ⟨Nat.le_of_ble_eq_true rfl, Nat.le_of_ble_eq_true rfl⟩) dL_law_1392 1395 rfl (ci := 2) 0 rfl rfl rfl rfl (Nat.le_of_ble_eq_true rfl) ⟨(by show kc + 0 ≤ 601024; omega), (by show ns + 0 ≤ 7293034; omega)⟩ [0, 1] rfl [33, 34, 35, 36, 37, 38, 39, 40, 41, 42, 43, 44, 45, 46, 47] rfl (by decide) (fun v hv => ?_)
  subst hv
  refine zv_go rfl rfl (st' := [.int 0]) rfl (kc' := kc) rfl (ns' := ns) rfl ?_
  refine zv_iload C dL_law_1395 1397 rfl 1 rfl ?_
  refine zv_icmp_eq C dL_law_1397 1400 1402 rfl (by decide) (fun _ => ?_) (fun q => absurd (by decide) q)
  refine zv_iload C dL_law_1402 1404 rfl 1 rfl ?_
  refine zv_if_ne C dL_law_1404 1407 1419 rfl (by decide) (fun q => absurd (by decide) q) (fun _ => ?_)
  refine zv_aload_n C dL_law_1407 1408 rfl 5 rfl ?_
  refine zv_iconst (v := 0) C dL_law_1408 1409 rfl (by decide) ?_
  refine zv_lald (v := (uo_1 0)) C dL_law_1409 1410 rfl 48 2 0 rfl rfl (by decide) (by decide) (by decide) rfl ?_
  refine zv_iload C dL_law_1410 1412 rfl 0 rfl ?_
  refine zv_i2l C dL_law_1412 1413 rfl ?_
  refine zv_lcmpE C dL_law_1413 1414 rfl (hu.trans (congrArg Int32.toInt64 (congrArg nI (hI.vCnt _)))) ?_
  refine zv_if_eq C dL_law_1414 1417 1419 rfl (by decide) (fun _ => ?_) (fun q => absurd (by decide) q)
  refine zv_goto C dL_law_1419 1966 (by decide) ?_
  refine zv_widen (k' := kc + 17) (n' := ns + 168) (by omega) (by omega) ?_
  refine zv_sub [2, 3, 4, 5, 6] (lv' := [(0, .ref sc), (1, .ref (q 0)), (2, .ref (mh 0)), (3, .ref o), (4, .int (nI i))]) rfl ?_
  exact K n b y r 0 d f0 f1 f2 f3 f4 f5 f6 f7 f8 f9 f10 f11 f12 f13 n1 r1 g0 g1 g2 g3 g4 g5 g6 g7 g8 g9 g10 g11 g12 g13 bp bn uo_1 m0 m1 m2 m3 m4 m5 m6 m7 eg8_2 eg9_2 eg10_2 eg11_2 m12 m13 hI
set_option maxHeartbeats 4000000 in
set_option maxRecDepth 100000 in
theorem lc_setRule_no {pP : Program} {l : Launch} {eE : Env} {sS : State} {mM : MethodId} {aA : Array Value} {bB : List Frame} {mT : Method} {cD : Code} {Q : State → Prop} {D : va_G} {cI cZ cJ : ClassId} {A : Nat → Prop} {sc L : Nat} {xs : Nat → Int32} {q h k mh : Nat → Nat} {o i kc ns : Nat} {n b : Nat} {y r t : Int32} {d : Nat → Nat} {f0 f1 f2 f3 f4 f5 f6 f7 f8 f9 f10 f11 f12 f13 : Nat → Int32} {n1 : Nat} {r1 : Int32} {g0 g1 g2 g3 g4 g5 g6 g7 g8 g9 g10 g11 g12 g13 bp bn : Nat → Int32} {u : Nat → Int64} {m0 m1 m2 m3 m4 m5 m6 m7 m8 m9 m10 m11 m12 m13 : Nat → Int32} (hl : l.stackTraces = false) (C : zv_C pP mM cD cL_law 9 sS aA wsL_law "RiverNamesLaw" A) (hA : A = fun q => sS.heap.size ≤ q) (hE : zx_E sS) (hX : va_X sc L xs sS sS.heap) (hsc : sc < sS.heap.size) (hi : i + 4 ≤ L) (hL : L ≤ 2048) (hkc : kc + 17 ≤ 601024) (hns : ns + 168 ≤ 7293034) (hI : LI n b r d f0 f1 f2 f3 f4 f5 f6 f7 f8 f9 f10 f11 f12 f13 bp bn m0 m1 m2 m3 m4 m5 m6 m7) (K : LK pP l eE sS mM aA bB mT cD Q D cI cZ cJ A sc q h k mh o i kc ns) (h1 : isI (xs (i + 1)) 0 1 = false) : zv_V pP l eE room_1 sS mM aA bB mT cD Q 9 D vwCl A A (tyJ cI cZ cJ) ((cR cI cZ q h k (nI b) y (nI n) r f0 f1 f2 f3 f4 f5 f6 f7 f8 f9 f10 f11 f12 f13 (nI n1) r1 g0 g1 g2 g3 g4 g5 g6 g7 g8 g9 g10 g11 g12 g13 bp bn) ++ ((cM cI cZ mh t (nI n) r y (nI b) m0 m1 m2 m3 m4 m5 m6 m7 m8 m9 m10 m11 m12 m13) ++ [(o, .inl (cJ, 1, .inr (.inl u)))])) kc ns 455 [(0, .ref sc), (1, .ref (q 0)), (2, .ref (mh 0)), (3, .ref o), (4, .int (nI i))] [] := by
  refine zv_aload_n C dL_law_455 456 rfl 1 rfl ?_
  refine zv_aload_n C dL_law_456 457 rfl 0 rfl ?_
  refine zv_iload C dL_law_457 459 rfl 4 rfl ?_
  refine zv_iconst (v := 1) C dL_law_459 460 rfl (by decide) ?_
  refine zv_iadd (v := (nI (i + 1))) C dL_law_460 461 rfl (nI_1 i) ?_
  refine zv_sld C hA hX hsc dL_law_461 462 rfl (i + 1) rfl (by omega) hL (v := (xs (i + 1))) rfl ?_
  refine zv_aload_n C dL_law_462 463 rfl 3 rfl ?_
  refine zv_callWE (rest := []) C hA hE (k_L_setRule_t l D cI cZ cJ q h k b y n r f0 f1 f2 f3 f4 f5 f6 f7 f8 f9 f10 f11 f12 f13 n1 r1 g0 g1 g2 g3 g4 g5 g6 g7 g8 g9 g10 g11 g12 g13 bp bn o u (xs (i + 1)) (by first | assumption | omega) hl) (vx_cwSW 3 C.1.2.2.2.2 gL_law_L_setRule rfl rfl rfl (by decide +kernel) ⟨Nat.le_of_ble_eq_true rfl, Nat.le_of_ble_eq_true rfl⟩) dL_law_463 466 rfl rfl rfl (Nat.le_of_ble_eq_true rfl) ⟨(by show kc + 1 ≤ 601024; omega), (by show ns + 6 ≤ 7293034; omega)⟩ [0, 1, 2] rfl [0, 1, 2, 3, 4, 5, 6, 7, 8, 9, 10, 11, 12, 13, 14, 15, 16, 17, 18, 19, 20, 21, 22, 23, 24, 25, 26, 27, 28, 29, 30, 31, 32, 48] rfl (by decide) (fun v hv => ?_)
  subst hv
  refine zv_go rfl rfl (st' := [.int 1]) rfl (kc' := kc + 1) rfl (ns' := ns + 6) rfl ?_
  refine zv_istore C dL_law_466 468 rfl [(5, .int 1), (0, .ref sc), (1, .ref (q 0)), (2, .ref (mh 0)), (3, .ref o), (4, .int (nI i))] (by decide) rfl ?_
  refine zv_aload_n C dL_law_468 469 rfl 3 rfl ?_
  refine zv_aload_n C dL_law_469 470 rfl 1 rfl ?_
  refine zv_iload C dL_law_470 472 rfl 5 rfl ?_
  refine zv_iconst (v := 1) C dL_law_472 473 rfl (by decide) ?_
  refine zv_iadd (v := (nI (i + 1))) C dL_law_473 474 rfl (nI_1 i) ?_
  refine zv_sld C hA hX hsc dL_law_474 475 rfl (i + 1) rfl (by omega) hL (v := (xs (i + 1))) rfl ?_
  refine zv_callV (rest := []) (wr := ((cR cI cZ q h k (nI b) y (nI n) r f0 f1 f2 f3 f4 f5 f6 f7 f8 f9 f10 f11 f12 f13 (nI n1) r1 g0 g1 g2 g3 g4 g5 g6 g7 g8 g9 g10 g11 g12 g13 bp bn) ++ [(o, .inl (cJ, 1, .inr (.inl u)))])) C (k_X2_setRule_no l D cI cZ mh t n r y b m0 m1 m2 m3 m4 m5 m6 m7 m8 m9 m10 m11 m12 m13 (xs (i + 1)) (by first | assumption | omega)) (cwV 1 C.1.2.2.2.2 gL_law_X2_setRule rfl rfl rfl (by decide +kernel) ⟨Nat.le_of_ble_eq_true rfl, Nat.le_of_ble_eq_true rfl⟩) dL_law_475 478 rfl (ci := 2) 0 rfl rfl rfl rfl (Nat.le_of_ble_eq_true rfl) ⟨(by show kc + 1 + 0 ≤ 601024; omega), (by show ns + 6 + 0 ≤ 7293034; omega)⟩ [0, 1] rfl [33, 34, 35, 36, 37, 38, 39, 40, 41, 42, 43, 44, 45, 46, 47] rfl (by decide) [0, 1, 2, 3, 4, 5, 6, 7, 8, 9, 10, 11, 12, 13, 14, 15, 16, 17, 18, 19, 20, 21, 22, 23, 24, 25, 26, 27, 28, 29, 30, 31, 32, 48] rfl (by decide) (by decide +kernel) (fun v w hv => ?_)
  obtain ⟨rfl, rfl⟩ := hv
  refine zv_go rfl rfl (st' := [.int 0]) rfl (kc' := kc + 1) rfl (ns' := ns + 6) rfl ?_
  refine zv_perm [0, 1, 2, 3, 4, 5, 6, 7, 8, 9, 10, 11, 12, 13, 14, 15, 16, 17, 18, 19, 20, 21, 22, 23, 24, 25, 26, 27, 28, 29, 30, 31, 32, 34, 35, 36, 37, 38, 39, 40, 41, 42, 43, 44, 45, 46, 47, 48, 33] (ws' := ((cR cI cZ q h k (nI b) y (nI n) r f0 f1 f2 f3 f4 f5 f6 f7 f8 f9 f10 f11 f12 f13 (nI n1) r1 g0 g1 g2 g3 g4 g5 g6 g7 g8 g9 g10 g11 g12 g13 bp bn) ++ ((cM cI cZ mh 1 (nI n) r y (nI b) m0 m1 m2 m3 m4 m5 m6 m7 m8 m9 m10 m11 m12 m13) ++ [(o, .inl (cJ, 1, .inr (.inl u)))]))) (by decide) rfl ?_
  refine zv_istore C dL_law_478 480 rfl [(6, .int 0), (5, .int 1), (0, .ref sc), (1, .ref (q 0)), (2, .ref (mh 0)), (3, .ref o), (4, .int (nI i))] (by decide) rfl ?_
  refine zv_aload_n C dL_law_480 481 rfl 4 rfl ?_
  refine zv_callVR (rest := []) C (k_X2_thrown l D cI cZ mh 1 n r y b m0 m1 m2 m3 m4 m5 m6 m7 m8 m9 m10 m11 m12 m13 ) (cwV 0 C.1.2.2.2.2 gL_law_X2_thrown rfl rfl rfl (by decide +kernel) ⟨Nat.le_of_ble_eq_true rfl, Nat.le_of_ble_eq_true rfl⟩) dL_law_481 484 rfl (ci := 2) 0 rfl rfl rfl rfl (Nat.le_of_ble_eq_true rfl) ⟨(by show kc + 1 + 0 ≤ 601024; omega), (by show ns + 6 + 0 ≤ 7293034; omega)⟩ [0, 1] rfl [33, 34, 35, 36, 37, 38, 39, 40, 41, 42, 43, 44, 45, 46, 47] rfl (by decide) (fun v hv => ?_)
  subst hv
  refine zv_go rfl rfl (st' := [.int 1]) rfl (kc' := kc + 1) rfl (ns' := ns + 6) rfl ?_
  refine zv_iload C dL_law_484 486 rfl 1 rfl ?_
  refine zv_icmp_eq C dL_law_486 489 491 rfl (by decide) (fun _ => ?_) (fun q => absurd (by decide) q)
  refine zv_iload C dL_law_491 493 rfl 1 rfl ?_
  refine zv_if_ne C dL_law_493 496 508 rfl (by decide) (fun _ => ?_) (fun q => absurd q (by decide))
  refine zv_goto C dL_law_508 1966 (by decide) ?_
  refine zv_widen (k' := kc + 17) (n' := ns + 168) (by omega) (by omega) ?_
  refine zv_sub [2, 3, 4, 5, 6] (lv' := [(0, .ref sc), (1, .ref (q 0)), (2, .ref (mh 0)), (3, .ref o), (4, .int (nI i))]) rfl ?_
  exact K n b y r 1 d f0 f1 f2 f3 f4 f5 f6 f7 f8 f9 f10 f11 f12 f13 n1 r1 g0 g1 g2 g3 g4 g5 g6 g7 g8 g9 g10 g11 g12 g13 bp bn u m0 m1 m2 m3 m4 m5 m6 m7 m8 m9 m10 m11 m12 m13 hI
set_option maxHeartbeats 4000000 in
set_option maxRecDepth 100000 in
theorem lc_setRule_ok {pP : Program} {l : Launch} {eE : Env} {sS : State} {mM : MethodId} {aA : Array Value} {bB : List Frame} {mT : Method} {cD : Code} {Q : State → Prop} {D : va_G} {cI cZ cJ : ClassId} {A : Nat → Prop} {sc L : Nat} {xs : Nat → Int32} {q h k mh : Nat → Nat} {o i kc ns : Nat} {n b : Nat} {y r t : Int32} {d : Nat → Nat} {f0 f1 f2 f3 f4 f5 f6 f7 f8 f9 f10 f11 f12 f13 : Nat → Int32} {n1 : Nat} {r1 : Int32} {g0 g1 g2 g3 g4 g5 g6 g7 g8 g9 g10 g11 g12 g13 bp bn : Nat → Int32} {u : Nat → Int64} {m0 m1 m2 m3 m4 m5 m6 m7 m8 m9 m10 m11 m12 m13 : Nat → Int32} (hl : l.stackTraces = false) (C : zv_C pP mM cD cL_law 9 sS aA wsL_law "RiverNamesLaw" A) (hA : A = fun q => sS.heap.size ≤ q) (hE : zx_E sS) (hX : va_X sc L xs sS sS.heap) (hsc : sc < sS.heap.size) (hi : i + 4 ≤ L) (hL : L ≤ 2048) (hkc : kc + 17 ≤ 601024) (hns : ns + 168 ≤ 7293034) (hI : LI n b r d f0 f1 f2 f3 f4 f5 f6 f7 f8 f9 f10 f11 f12 f13 bp bn m0 m1 m2 m3 m4 m5 m6 m7) (K : LK pP l eE sS mM aA bB mT cD Q D cI cZ cJ A sc q h k mh o i kc ns) (h1 : isI (xs (i + 1)) 0 1 = true) : zv_V pP l eE room_1 sS mM aA bB mT cD Q 9 D vwCl A A (tyJ cI cZ cJ) ((cR cI cZ q h k (nI b) y (nI n) r f0 f1 f2 f3 f4 f5 f6 f7 f8 f9 f10 f11 f12 f13 (nI n1) r1 g0 g1 g2 g3 g4 g5 g6 g7 g8 g9 g10 g11 g12 g13 bp bn) ++ ((cM cI cZ mh t (nI n) r y (nI b) m0 m1 m2 m3 m4 m5 m6 m7 m8 m9 m10 m11 m12 m13) ++ [(o, .inl (cJ, 1, .inr (.inl u)))])) kc ns 455 [(0, .ref sc), (1, .ref (q 0)), (2, .ref (mh 0)), (3, .ref o), (4, .int (nI i))] [] := by
  refine zv_aload_n C dL_law_455 456 rfl 1 rfl ?_
  refine zv_aload_n C dL_law_456 457 rfl 0 rfl ?_
  refine zv_iload C dL_law_457 459 rfl 4 rfl ?_
  refine zv_iconst (v := 1) C dL_law_459 460 rfl (by decide) ?_
  refine zv_iadd (v := (nI (i + 1))) C dL_law_460 461 rfl (nI_1 i) ?_
  refine zv_sld C hA hX hsc dL_law_461 462 rfl (i + 1) rfl (by omega) hL (v := (xs (i + 1))) rfl ?_
  refine zv_aload_n C dL_law_462 463 rfl 3 rfl ?_
  refine zv_callW (rest := []) (wr := (cM cI cZ mh t (nI n) r y (nI b) m0 m1 m2 m3 m4 m5 m6 m7 m8 m9 m10 m11 m12 m13)) C (k_L_setRule_ok l D cI cZ cJ q h k b y n r f0 f1 f2 f3 f4 f5 f6 f7 f8 f9 f10 f11 f12 f13 n1 r1 g0 g1 g2 g3 g4 g5 g6 g7 g8 g9 g10 g11 g12 g13 bp bn o u (xs (i + 1)) d hI.n16 hI.dep (by first | assumption | omega)) (vx_cwSW 3 C.1.2.2.2.2 gL_law_L_setRule rfl rfl rfl (by decide +kernel) ⟨Nat.le_of_ble_eq_true rfl, Nat.le_of_ble_eq_true rfl⟩) dL_law_463 466 rfl rfl rfl (Nat.le_of_ble_eq_true rfl) ⟨(by show kc + 0 ≤ 601024; omega), (by show ns + 0 ≤ 7293034; omega)⟩ [0, 1, 2] rfl [0, 1, 2, 3, 4, 5, 6, 7, 8, 9, 10, 11, 12, 13, 14, 15, 16, 17, 18, 19, 20, 21, 22, 23, 24, 25, 26, 27, 28, 29, 30, 31, 32, 48] rfl (by decide) [33, 34, 35, 36, 37, 38, 39, 40, 41, 42, 43, 44, 45, 46, 47] rfl (by decide) (by decide +kernel) (fun v w hv => ?_)
  obtain ⟨v7_1, v8_1, v9_1, v10_1, v11_1, v12_1, v13_1, uo_1, rfl, rfl, hu, hw1⟩ := hv
  refine zv_go rfl rfl (st' := [.int 0]) rfl (kc' := kc) rfl (ns' := ns) rfl ?_
  refine zv_perm [15, 16, 17, 18, 19, 20, 21, 22, 23, 24, 25, 26, 27, 28, 29, 30, 31, 32, 33, 34, 35, 36, 37, 38, 39, 40, 41, 42, 43, 44, 45, 46, 47, 0, 1, 2, 3, 4, 5, 6, 7, 8, 9, 10, 11, 12, 13, 14, 48] (ws' := ((cR cI cZ q h k (nI b) y (nI n) (xs (i + 1)) f0 f1 f2 f3 f4 f5 f6 v7_1 v8_1 v9_1 v10_1 v11_1 v12_1 v13_1 (nI n1) r1 g0 g1 g2 g3 g4 g5 g6 g7 g8 g9 g10 g11 g12 g13 bp bn) ++ ((cM cI cZ mh t (nI n) r y (nI b) m0 m1 m2 m3 m4 m5 m6 m7 m8 m9 m10 m11 m12 m13) ++ [(o, .inl (cJ, 1, .inr (.inl uo_1)))]))) (by decide) rfl ?_
  refine zv_istore C dL_law_466 468 rfl [(5, .int 0), (0, .ref sc), (1, .ref (q 0)), (2, .ref (mh 0)), (3, .ref o), (4, .int (nI i))] (by decide) rfl ?_
  refine zv_aload_n C dL_law_468 469 rfl 3 rfl ?_
  refine zv_aload_n C dL_law_469 470 rfl 1 rfl ?_
  refine zv_iload C dL_law_470 472 rfl 5 rfl ?_
  refine zv_iconst (v := 1) C dL_law_472 473 rfl (by decide) ?_
  refine zv_iadd (v := (nI (i + 1))) C dL_law_473 474 rfl (nI_1 i) ?_
  refine zv_sld C hA hX hsc dL_law_474 475 rfl (i + 1) rfl (by omega) hL (v := (xs (i + 1))) rfl ?_
  refine zv_callV (rest := []) (wr := ((cR cI cZ q h k (nI b) y (nI n) (xs (i + 1)) f0 f1 f2 f3 f4 f5 f6 v7_1 v8_1 v9_1 v10_1 v11_1 v12_1 v13_1 (nI n1) r1 g0 g1 g2 g3 g4 g5 g6 g7 g8 g9 g10 g11 g12 g13 bp bn) ++ [(o, .inl (cJ, 1, .inr (.inl uo_1)))])) C (k_X2_setRule_ok l D cI cZ mh t n r y b m0 m1 m2 m3 m4 m5 m6 m7 m8 m9 m10 m11 m12 m13 (xs (i + 1)) (by first | assumption | omega)) (cwV 1 C.1.2.2.2.2 gL_law_X2_setRule rfl rfl rfl (by decide +kernel) ⟨Nat.le_of_ble_eq_true rfl, Nat.le_of_ble_eq_true rfl⟩) dL_law_475 478 rfl (ci := 2) 0 rfl rfl rfl rfl (Nat.le_of_ble_eq_true rfl) ⟨(by show kc + 0 ≤ 601024; omega), (by show ns + 0 ≤ 7293034; omega)⟩ [0, 1] rfl [33, 34, 35, 36, 37, 38, 39, 40, 41, 42, 43, 44, 45, 46, 47] rfl (by decide) [0, 1, 2, 3, 4, 5, 6, 7, 8, 9, 10, 11, 12, 13, 14, 15, 16, 17, 18, 19, 20, 21, 22, 23, 24, 25, 26, 27, 28, 29, 30, 31, 32, 48] rfl (by decide) (by decide +kernel) (fun v w hv => ?_)
  obtain ⟨rfl, rfl⟩ := hv
  refine zv_go rfl rfl (st' := [.int r]) rfl (kc' := kc) rfl (ns' := ns) rfl ?_
  refine zv_perm [0, 1, 2, 3, 4, 5, 6, 7, 8, 9, 10, 11, 12, 13, 14, 15, 16, 17, 18, 19, 20, 21, 22, 23, 24, 25, 26, 27, 28, 29, 30, 31, 32, 34, 35, 36, 37, 38, 39, 40, 41, 42, 43, 44, 45, 46, 47, 48, 33] (ws' := ((cR cI cZ q h k (nI b) y (nI n) (xs (i + 1)) f0 f1 f2 f3 f4 f5 f6 v7_1 v8_1 v9_1 v10_1 v11_1 v12_1 v13_1 (nI n1) r1 g0 g1 g2 g3 g4 g5 g6 g7 g8 g9 g10 g11 g12 g13 bp bn) ++ ((cM cI cZ mh 0 (nI n) (xs (i + 1)) y (nI b) m0 m1 m2 m3 m4 m5 m6 m7 m8 m9 m10 m11 m12 m13) ++ [(o, .inl (cJ, 1, .inr (.inl uo_1)))]))) (by decide) rfl ?_
  refine zv_istore C dL_law_478 480 rfl [(6, .int r), (5, .int 0), (0, .ref sc), (1, .ref (q 0)), (2, .ref (mh 0)), (3, .ref o), (4, .int (nI i))] (by decide) rfl ?_
  refine zv_aload_n C dL_law_480 481 rfl 4 rfl ?_
  refine zv_callVR (rest := []) C (k_X2_thrown l D cI cZ mh 0 n (xs (i + 1)) y b m0 m1 m2 m3 m4 m5 m6 m7 m8 m9 m10 m11 m12 m13 ) (cwV 0 C.1.2.2.2.2 gL_law_X2_thrown rfl rfl rfl (by decide +kernel) ⟨Nat.le_of_ble_eq_true rfl, Nat.le_of_ble_eq_true rfl⟩) dL_law_481 484 rfl (ci := 2) 0 rfl rfl rfl rfl (Nat.le_of_ble_eq_true rfl) ⟨(by show kc + 0 ≤ 601024; omega), (by show ns + 0 ≤ 7293034; omega)⟩ [0, 1] rfl [33, 34, 35, 36, 37, 38, 39, 40, 41, 42, 43, 44, 45, 46, 47] rfl (by decide) (fun v hv => ?_)
  subst hv
  refine zv_go rfl rfl (st' := [.int 0]) rfl (kc' := kc) rfl (ns' := ns) rfl ?_
  refine zv_iload C dL_law_484 486 rfl 1 rfl ?_
  refine zv_icmp_eq C dL_law_486 489 491 rfl (by decide) (fun _ => ?_) (fun q => absurd (by decide) q)
  refine zv_iload C dL_law_491 493 rfl 1 rfl ?_
  refine zv_if_ne C dL_law_493 496 508 rfl (by decide) (fun q => absurd (by decide) q) (fun _ => ?_)
  refine zv_aload_n C dL_law_496 497 rfl 5 rfl ?_
  refine zv_iconst (v := 0) C dL_law_497 498 rfl (by decide) ?_
  refine zv_lald (v := (uo_1 0)) C dL_law_498 499 rfl 48 2 0 rfl rfl (by decide) (by decide) (by decide) rfl ?_
  refine zv_iload C dL_law_499 501 rfl 0 rfl ?_
  refine zv_i2l C dL_law_501 502 rfl ?_
  refine zv_lcmpE C dL_law_502 503 rfl (hu.trans (congrArg Int32.toInt64 rfl)) ?_
  refine zv_if_eq C dL_law_503 506 508 rfl (by decide) (fun _ => ?_) (fun q => absurd (by decide) q)
  refine zv_goto C dL_law_508 1966 (by decide) ?_
  refine zv_widen (k' := kc + 17) (n' := ns + 168) (by omega) (by omega) ?_
  refine zv_sub [2, 3, 4, 5, 6] (lv' := [(0, .ref sc), (1, .ref (q 0)), (2, .ref (mh 0)), (3, .ref o), (4, .int (nI i))]) rfl ?_
  exact K n b y (xs (i + 1)) 0 d f0 f1 f2 f3 f4 f5 f6 v7_1 v8_1 v9_1 v10_1 v11_1 v12_1 v13_1 n1 r1 g0 g1 g2 g3 g4 g5 g6 g7 g8 g9 g10 g11 g12 g13 bp bn uo_1 m0 m1 m2 m3 m4 m5 m6 m7 m8 m9 m10 m11 m12 m13 (hI.rule h1 hw1)
set_option maxHeartbeats 4000000 in
set_option maxRecDepth 100000 in
theorem lc_pass_no {pP : Program} {l : Launch} {eE : Env} {sS : State} {mM : MethodId} {aA : Array Value} {bB : List Frame} {mT : Method} {cD : Code} {Q : State → Prop} {D : va_G} {cI cZ cJ : ClassId} {A : Nat → Prop} {sc L : Nat} {xs : Nat → Int32} {q h k mh : Nat → Nat} {o i kc ns : Nat} {n b : Nat} {y r t : Int32} {d : Nat → Nat} {f0 f1 f2 f3 f4 f5 f6 f7 f8 f9 f10 f11 f12 f13 : Nat → Int32} {n1 : Nat} {r1 : Int32} {g0 g1 g2 g3 g4 g5 g6 g7 g8 g9 g10 g11 g12 g13 bp bn : Nat → Int32} {u : Nat → Int64} {m0 m1 m2 m3 m4 m5 m6 m7 m8 m9 m10 m11 m12 m13 : Nat → Int32} (hl : l.stackTraces = false) (C : zv_C pP mM cD cL_law 9 sS aA wsL_law "RiverNamesLaw" A) (hA : A = fun q => sS.heap.size ≤ q) (hE : zx_E sS) (hX : va_X sc L xs sS sS.heap) (hsc : sc < sS.heap.size) (hi : i + 4 ≤ L) (hL : L ≤ 2048) (hkc : kc + 17 ≤ 601024) (hns : ns + 168 ≤ 7293034) (hI : LI n b r d f0 f1 f2 f3 f4 f5 f6 f7 f8 f9 f10 f11 f12 f13 bp bn m0 m1 m2 m3 m4 m5 m6 m7) (K : LK pP l eE sS mM aA bB mT cD Q D cI cZ cJ A sc q h k mh o i kc ns) (h1 : isI (xs (i + 1)) 1 50 = false) : zv_V pP l eE room_1 sS mM aA bB mT cD Q 9 D vwCl A A (tyJ cI cZ cJ) ((cR cI cZ q h k (nI b) y (nI n) r f0 f1 f2 f3 f4 f5 f6 f7 f8 f9 f10 f11 f12 f13 (nI n1) r1 g0 g1 g2 g3 g4 g5 g6 g7 g8 g9 g10 g11 g12 g13 bp bn) ++ ((cM cI cZ mh t (nI n) r y (nI b) m0 m1 m2 m3 m4 m5 m6 m7 m8 m9 m10 m11 m12 m13) ++ [(o, .inl (cJ, 1, .inr (.inl u)))])) kc ns 567 [(0, .ref sc), (1, .ref (q 0)), (2, .ref (mh 0)), (3, .ref o), (4, .int (nI i))] [] := by
  refine zv_aload_n C dL_law_567 568 rfl 1 rfl ?_
  refine zv_aload_n C dL_law_568 569 rfl 0 rfl ?_
  refine zv_iload C dL_law_569 571 rfl 4 rfl ?_
  refine zv_iconst (v := 1) C dL_law_571 572 rfl (by decide) ?_
  refine zv_iadd (v := (nI (i + 1))) C dL_law_572 573 rfl (nI_1 i) ?_
  refine zv_sld C hA hX hsc dL_law_573 574 rfl (i + 1) rfl (by omega) hL (v := (xs (i + 1))) rfl ?_
  refine zv_aload_n C dL_law_574 575 rfl 3 rfl ?_
  refine zv_callWE (rest := []) C hA hE (k_L_pass_t l D cI cZ cJ q h k b y n r f0 f1 f2 f3 f4 f5 f6 f7 f8 f9 f10 f11 f12 f13 n1 r1 g0 g1 g2 g3 g4 g5 g6 g7 g8 g9 g10 g11 g12 g13 bp bn o u (xs (i + 1)) (by first | assumption | omega) hl) (vx_cwSW 3 C.1.2.2.2.2 gL_law_L_pass rfl rfl rfl (by decide +kernel) ⟨Nat.le_of_ble_eq_true rfl, Nat.le_of_ble_eq_true rfl⟩) dL_law_575 578 rfl rfl rfl (Nat.le_of_ble_eq_true rfl) ⟨(by show kc + 1 ≤ 601024; omega), (by show ns + 6 ≤ 7293034; omega)⟩ [0, 1, 2] rfl [0, 1, 2, 3, 4, 5, 6, 7, 8, 9, 10, 11, 12, 13, 14, 15, 16, 17, 18, 19, 20, 21, 22, 23, 24, 25, 26, 27, 28, 29, 30, 31, 32, 48] rfl (by decide) (fun v hv => ?_)
  subst hv
  refine zv_go rfl rfl (st' := [.int 1]) rfl (kc' := kc + 1) rfl (ns' := ns + 6) rfl ?_
  refine zv_istore C dL_law_578 580 rfl [(5, .int 1), (0, .ref sc), (1, .ref (q 0)), (2, .ref (mh 0)), (3, .ref o), (4, .int (nI i))] (by decide) rfl ?_
  refine zv_aload_n C dL_law_580 581 rfl 3 rfl ?_
  refine zv_aload_n C dL_law_581 582 rfl 1 rfl ?_
  refine zv_iload C dL_law_582 584 rfl 5 rfl ?_
  refine zv_iconst (v := 1) C dL_law_584 585 rfl (by decide) ?_
  refine zv_iadd (v := (nI (i + 1))) C dL_law_585 586 rfl (nI_1 i) ?_
  refine zv_sld C hA hX hsc dL_law_586 587 rfl (i + 1) rfl (by omega) hL (v := (xs (i + 1))) rfl ?_
  refine zv_callV (rest := []) (wr := ((cR cI cZ q h k (nI b) y (nI n) r f0 f1 f2 f3 f4 f5 f6 f7 f8 f9 f10 f11 f12 f13 (nI n1) r1 g0 g1 g2 g3 g4 g5 g6 g7 g8 g9 g10 g11 g12 g13 bp bn) ++ [(o, .inl (cJ, 1, .inr (.inl u)))])) C (k_X2_pass_no l D cI cZ mh t n r y b m0 m1 m2 m3 m4 m5 m6 m7 m8 m9 m10 m11 m12 m13 (xs (i + 1)) (by first | assumption | omega)) (cwV 1 C.1.2.2.2.2 gL_law_X2_pass rfl rfl rfl (by decide +kernel) ⟨Nat.le_of_ble_eq_true rfl, Nat.le_of_ble_eq_true rfl⟩) dL_law_587 590 rfl (ci := 2) 0 rfl rfl rfl rfl (Nat.le_of_ble_eq_true rfl) ⟨(by show kc + 1 + 0 ≤ 601024; omega), (by show ns + 6 + 0 ≤ 7293034; omega)⟩ [0, 1] rfl [33, 34, 35, 36, 37, 38, 39, 40, 41, 42, 43, 44, 45, 46, 47] rfl (by decide) [0, 1, 2, 3, 4, 5, 6, 7, 8, 9, 10, 11, 12, 13, 14, 15, 16, 17, 18, 19, 20, 21, 22, 23, 24, 25, 26, 27, 28, 29, 30, 31, 32, 48] rfl (by decide) (by decide +kernel) (fun v w hv => ?_)
  obtain ⟨rfl, rfl⟩ := hv
  refine zv_go rfl rfl (st' := [.int 0]) rfl (kc' := kc + 1) rfl (ns' := ns + 6) rfl ?_
  refine zv_perm [0, 1, 2, 3, 4, 5, 6, 7, 8, 9, 10, 11, 12, 13, 14, 15, 16, 17, 18, 19, 20, 21, 22, 23, 24, 25, 26, 27, 28, 29, 30, 31, 32, 34, 35, 36, 37, 38, 39, 40, 41, 42, 43, 44, 45, 46, 47, 48, 33] (ws' := ((cR cI cZ q h k (nI b) y (nI n) r f0 f1 f2 f3 f4 f5 f6 f7 f8 f9 f10 f11 f12 f13 (nI n1) r1 g0 g1 g2 g3 g4 g5 g6 g7 g8 g9 g10 g11 g12 g13 bp bn) ++ ((cM cI cZ mh 1 (nI n) r y (nI b) m0 m1 m2 m3 m4 m5 m6 m7 m8 m9 m10 m11 m12 m13) ++ [(o, .inl (cJ, 1, .inr (.inl u)))]))) (by decide) rfl ?_
  refine zv_istore C dL_law_590 592 rfl [(6, .int 0), (5, .int 1), (0, .ref sc), (1, .ref (q 0)), (2, .ref (mh 0)), (3, .ref o), (4, .int (nI i))] (by decide) rfl ?_
  refine zv_aload_n C dL_law_592 593 rfl 4 rfl ?_
  refine zv_callVR (rest := []) C (k_X2_thrown l D cI cZ mh 1 n r y b m0 m1 m2 m3 m4 m5 m6 m7 m8 m9 m10 m11 m12 m13 ) (cwV 0 C.1.2.2.2.2 gL_law_X2_thrown rfl rfl rfl (by decide +kernel) ⟨Nat.le_of_ble_eq_true rfl, Nat.le_of_ble_eq_true rfl⟩) dL_law_593 596 rfl (ci := 2) 0 rfl rfl rfl rfl (Nat.le_of_ble_eq_true rfl) ⟨(by show kc + 1 + 0 ≤ 601024; omega), (by show ns + 6 + 0 ≤ 7293034; omega)⟩ [0, 1] rfl [33, 34, 35, 36, 37, 38, 39, 40, 41, 42, 43, 44, 45, 46, 47] rfl (by decide) (fun v hv => ?_)
  subst hv
  refine zv_go rfl rfl (st' := [.int 1]) rfl (kc' := kc + 1) rfl (ns' := ns + 6) rfl ?_
  refine zv_iload C dL_law_596 598 rfl 1 rfl ?_
  refine zv_icmp_eq C dL_law_598 601 603 rfl (by decide) (fun _ => ?_) (fun q => absurd (by decide) q)
  refine zv_iload C dL_law_603 605 rfl 1 rfl ?_
  refine zv_if_ne C dL_law_605 608 620 rfl (by decide) (fun _ => ?_) (fun q => absurd q (by decide))
  refine zv_goto C dL_law_620 1966 (by decide) ?_
  refine zv_widen (k' := kc + 17) (n' := ns + 168) (by omega) (by omega) ?_
  refine zv_sub [2, 3, 4, 5, 6] (lv' := [(0, .ref sc), (1, .ref (q 0)), (2, .ref (mh 0)), (3, .ref o), (4, .int (nI i))]) rfl ?_
  exact K n b y r 1 d f0 f1 f2 f3 f4 f5 f6 f7 f8 f9 f10 f11 f12 f13 n1 r1 g0 g1 g2 g3 g4 g5 g6 g7 g8 g9 g10 g11 g12 g13 bp bn u m0 m1 m2 m3 m4 m5 m6 m7 m8 m9 m10 m11 m12 m13 hI
