/-! ===== the law's loop: the places ===== -/
set_option maxHeartbeats 4000000 in
set_option maxRecDepth 100000 in
theorem la_places {pP : Program} {l : Launch} {eE : Env} {sS : State} {mM : MethodId} {aA : Array Value} {bB : List Frame} {mT : Method} {cD : Code} {Q : State → Prop} {D : va_G} {cI cZ cA : ClassId} {A : Nat → Prop} (C : zv_C pP mM cD cL_law 27 sS aA wsL_law "RiverNamesLaw" A) {a n b : Nat} {r y : Int32} {m0 m1 m2 m3 m4 m5 m6 m7 : Nat → Int32} {w : va_W} (hR : zR cI cZ a n b r y m0 m1 m2 m3 m4 m5 m6 m7 w) {s pa da : Nat → Nat} {sc ti kc ns : Nat} {x : Int32} (hkc : kc ≤ 600000) (hns : ns ≤ 7300000) (K : zv_V pP l eE room_1 sS mM aA bB mT cD Q 27 D vwCl A A (tyS cI cZ cA) ((s 0, .inr (2, [.int r, .int y, .ref (s 1), .ref (s 2)])) :: (s 1, .inl (cA, n, aq pa)) :: (s 2, .inl (cA, b, aq da)) :: (sR cI 6 pa (rP m0 m1 m2 m3 m4 m5) n ++ (sR cI 2 da (rB m6 m7) b ++ w))) kc ns 789 [(0, .ref sc), (1, .ref a), (2, .ref (s 0)), (3, .int (nI ti)), (4, .int x), (5, .long (dgM n b m0 m1 m2 m3 m5 m6 m7 r y)), (7, .int (nI n))] []) : zv_V pP l eE room_1 sS mM aA bB mT cD Q 27 D vwCl A A (tyS cI cZ cA) ((s 0, .inr (2, [.int r, .int y, .ref (s 1), .ref (s 2)])) :: (s 1, .inl (cA, n, aq pa)) :: (s 2, .inl (cA, b, aq da)) :: (sR cI 6 pa (rP m0 m1 m2 m3 m4 m5) n ++ (sR cI 2 da (rB m6 m7) b ++ w))) kc ns 197 [(0, .ref sc), (1, .ref a), (2, .ref (s 0)), (3, .int (nI ti)), (4, .int x), (5, .long (dgM n b m0 m1 m2 m3 m5 m6 m7 r y)), (7, .int (nI n))] [] := by
  have inX2 : ∀ w ∈ u_ws RX2 TX2 4, w ∈ wsL_law := by decide +kernel
  have lk9 : Cond.fieldLink RL 9 "RiverNamesLaw$Sim" "places" "[[I" ∈ wsL_law := by decide +kernel
  have hV := hR.lv
  have hn16 : n ≤ 16 := hV.n16
  have hb16 : b ≤ 16 := hV.b16
  obtain ⟨fs, hrc⟩ := hR.recv
  obtain ⟨d, sD, hD⟩ := hV.dep
  refine zv_iconst (v := 0) C dL_law_197 198 rfl (by decide) ?_
  refine zv_istore C dL_law_198 200 rfl [(10, .int 0), (0, .ref sc), (1, .ref a), (2, .ref (s 0)), (3, .int (nI ti)), (4, .int x), (5, .long (dgM n b m0 m1 m2 m3 m5 m6 m7 r y)), (7, .int (nI n))] (by decide) rfl ?_
  refine zv_iconst (v := 0) C dL_law_200 201 rfl (by decide) ?_
  refine zv_istore C dL_law_201 203 rfl [(11, .int 0), (10, .int 0), (0, .ref sc), (1, .ref a), (2, .ref (s 0)), (3, .int (nI ti)), (4, .int x), (5, .long (dgM n b m0 m1 m2 m3 m5 m6 m7 r y)), (7, .int (nI n))] (by decide) rfl ?_
  refine zv_iconst (v := 0) C dL_law_203 204 rfl (by decide) ?_
  refine zv_istore C dL_law_204 206 rfl [(12, .int 0), (11, .int 0), (10, .int 0), (0, .ref sc), (1, .ref a), (2, .ref (s 0)), (3, .int (nI ti)), (4, .int x), (5, .long (dgM n b m0 m1 m2 m3 m5 m6 m7 r y)), (7, .int (nI n))] (by decide) rfl ?_
  have PL : ∀ (mu_PL : Nat), ∀ (p mc : Nat) (ms : Int32), (mmS m0 (sol n m0 m1 m2 m3 m5 r).1 p = (mc, ms)) → (p ≤ n) → n - p < mu_PL → zv_V pP l eE room_1 sS mM aA bB mT cD Q 27 D vwCl A A (tyS cI cZ cA) ((s 0, .inr (2, [.int r, .int y, .ref (s 1), .ref (s 2)])) :: (s 1, .inl (cA, n, aq pa)) :: (s 2, .inl (cA, b, aq da)) :: (sR cI 6 pa (rP m0 m1 m2 m3 m4 m5) n ++ (sR cI 2 da (rB m6 m7) b ++ w))) kc ns 206 [(0, .ref sc), (1, .ref a), (2, .ref (s 0)), (3, .int (nI ti)), (4, .int x), (5, .long (dgM n b m0 m1 m2 m3 m5 m6 m7 r y)), (7, .int (nI n)), (10, .int (nI mc)), (11, .int ms), (12, .int (nI p))] [] := by
    intro mu_PL
    induction mu_PL with
    | zero => intro p mc ms hms hp hmu_PL; exact absurd hmu_PL (Nat.not_lt_zero _)
    | succ mu_PL ih_PL =>
      intro p mc ms hms hp hmu_PL
      refine zv_iload C dL_law_206 208 rfl 9 rfl ?_
      refine zv_iload C dL_law_208 210 rfl 6 rfl ?_
      refine zv_icmp_ge C dL_law_210 213 763 rfl (by decide) (fun cp => ?_) (fun cp => ?_)
      ·
        have e1 : n = p := by have := zn_le (by omega) (by omega) cp; omega
        subst e1
        refine zv_aload_n C dL_law_763 764 rfl 1 rfl ?_
        refine zn_callRV (rest := []) C zn_TB zn_TE (zn_ofR (w_meanMouth l D hR)) (cwV 0 C.1.2.2.2.2 gL_law_X1_meanMouth rfl rfl rfl (by decide +kernel) ⟨Nat.le_of_ble_eq_true rfl, Nat.le_of_ble_eq_true rfl⟩) dL_law_764 767 rfl (ci := 1) rfl 0 hrc rfl rfl (Nat.le_of_ble_eq_true rfl) ⟨(by show kc + 0 ≤ 600130; omega), (by show ns + 0 ≤ 7301079; omega)⟩ [0, 1] rfl (List.Sublist.cons _ (List.Sublist.cons _ (List.Sublist.cons _ ((List.sublist_append_right _ _).trans (List.sublist_append_right _ _))))) (fun v hv => ?_)
        subst hv
        refine zv_go rfl rfl (st' := [.double (mmV m0 (sol n m0 m1 m2 m3 m5 r).1 n)]) rfl (kc' := kc) rfl (ns' := ns) rfl ?_
        refine zv_iload C dL_law_767 769 rfl 7 rfl ?_
        have hmc := mmS_le m0 (sol n m0 m1 m2 m3 m5 r).1 n
        rw [hms] at hmc
        have K0 : zv_V pP l eE room_1 sS mM aA bB mT cD Q 27 D vwCl A A (tyS cI cZ cA) ((s 0, .inr (2, [.int r, .int y, .ref (s 1), .ref (s 2)])) :: (s 1, .inl (cA, n, aq pa)) :: (s 2, .inl (cA, b, aq da)) :: (sR cI 6 pa (rP m0 m1 m2 m3 m4 m5) n ++ (sR cI 2 da (rB m6 m7) b ++ w))) kc ns 783 [(0, .ref sc), (1, .ref a), (2, .ref (s 0)), (3, .int (nI ti)), (4, .int x), (5, .long (dgM n b m0 m1 m2 m3 m5 m6 m7 r y)), (7, .int (nI n)), (10, .int (nI mc)), (11, .int ms), (12, .int (nI n))] [.double (mmV m0 (sol n m0 m1 m2 m3 m5 r).1 n), .double (mmV m0 (sol n m0 m1 m2 m3 m5 r).1 n)] := by
          refine zv_dcmp C dL_law_783 784 rfl ?_
          refine zv_if_eq C dL_law_784 787 789 rfl (by decide) (fun _ => ?_) (fun c => absurd (mmV_self hn16) c)
          refine zv_sub [0, 1, 2, 3, 4, 5, 6] (lv' := [(0, .ref sc), (1, .ref a), (2, .ref (s 0)), (3, .int (nI ti)), (4, .int x), (5, .long (dgM n b m0 m1 m2 m3 m5 m6 m7 r y)), (7, .int (nI n))]) rfl ?_
          exact K
        refine zv_if_ne C dL_law_769 772 776 rfl (by decide) (fun cm => ?_) (fun cm => ?_)
        ·
          have hm0 : ¬ mc = 0 := fun z => cm (by rw [z]; rfl)
          refine zv_iload C dL_law_776 778 rfl 8 rfl ?_
          refine zv_i2d C dL_law_778 779 rfl ?_
          refine zv_iload C dL_law_779 781 rfl 7 rfl ?_
          refine zv_i2d C dL_law_781 782 rfl ?_
          refine zv_ddiv C dL_law_782 783 rfl (fq_div ms mc (by have : mc ≤ n := hmc; omega) hm0) ?_
          refine zv_go rfl rfl (st' := [.double (mmV m0 (sol n m0 m1 m2 m3 m5 r).1 n), .double (mmV m0 (sol n m0 m1 m2 m3 m5 r).1 n)]) (by rw [mmV_q hms hm0]) rfl rfl ?_
          exact K0
        ·
          have hm0 : mc = 0 := zn_eq (by have : mc ≤ n := hmc; omega) (by omega) cm
          refine zv_dconst0 C dL_law_772 773 rfl ?_
          refine zv_goto C dL_law_773 783 (by decide) ?_
          refine zv_go rfl rfl (st' := [.double (mmV m0 (sol n m0 m1 m2 m3 m5 r).1 n), .double (mmV m0 (sol n m0 m1 m2 m3 m5 r).1 n)]) (by rw [mmV_0 hms hm0]) rfl rfl ?_
          exact K0
      ·
        have hp2 : p < n := zn_le' (by omega) (by omega) cp
        refine zv_iconst (v := 0) C dL_law_213 214 rfl (by decide) ?_
        refine zv_istore C dL_law_214 216 rfl [(13, .int 0), (0, .ref sc), (1, .ref a), (2, .ref (s 0)), (3, .int (nI ti)), (4, .int x), (5, .long (dgM n b m0 m1 m2 m3 m5 m6 m7 r y)), (7, .int (nI n)), (10, .int (nI mc)), (11, .int ms), (12, .int (nI p))] (by decide) rfl ?_
        refine zv_aload_n C dL_law_216 217 rfl 2 rfl ?_
        refine zv_iload C dL_law_217 219 rfl 10 rfl ?_
        refine zn_callRV (rest := []) C zn_TB zn_TE (zn_ofR (w_springOf l D hR p hp2)) (cwV 1 C.1.2.2.2.2 gL_law_X1_springOf rfl rfl rfl (by decide +kernel) ⟨Nat.le_of_ble_eq_true rfl, Nat.le_of_ble_eq_true rfl⟩) dL_law_219 222 rfl (ci := 1) rfl 0 hrc rfl rfl (Nat.le_of_ble_eq_true rfl) ⟨(by show kc + 0 ≤ 600130; omega), (by show ns + 0 ≤ 7301079; omega)⟩ [0, 1] rfl (List.Sublist.cons _ (List.Sublist.cons _ (List.Sublist.cons _ ((List.sublist_append_right _ _).trans (List.sublist_append_right _ _))))) (fun v hv => ?_)
        subst hv
        refine zv_go rfl rfl (st' := [.int (m3 p)]) rfl (kc' := kc) rfl (ns' := ns) rfl ?_
        have K3 : zv_V pP l eE room_1 sS mM aA bB mT cD Q 27 D vwCl A A (tyS cI cZ cA) ((s 0, .inr (2, [.int r, .int y, .ref (s 1), .ref (s 2)])) :: (s 1, .inl (cA, n, aq pa)) :: (s 2, .inl (cA, b, aq da)) :: (sR cI 6 pa (rP m0 m1 m2 m3 m4 m5) n ++ (sR cI 2 da (rB m6 m7) b ++ w))) kc ns 271 [(0, .ref sc), (1, .ref a), (2, .ref (s 0)), (3, .int (nI ti)), (4, .int x), (5, .long (dgM n b m0 m1 m2 m3 m5 m6 m7 r y)), (7, .int (nI n)), (10, .int (nI mc)), (11, .int ms), (12, .int (nI p)), (13, .int (nI 0)), (14, .int (nI (wc m0 m3 p 0))), (15, .int (m3 p)), (16, .int (zb (io n r m0 m1 m2 m3 m5 p 0)))] [] := by
          refine zv_iconst (v := 0) C dL_law_271 272 rfl (by decide) ?_
          refine zv_istore C dL_law_272 274 rfl [(17, .int 0), (0, .ref sc), (1, .ref a), (2, .ref (s 0)), (3, .int (nI ti)), (4, .int x), (5, .long (dgM n b m0 m1 m2 m3 m5 m6 m7 r y)), (7, .int (nI n)), (10, .int (nI mc)), (11, .int ms), (12, .int (nI p)), (13, .int (nI 0)), (14, .int (nI (wc m0 m3 p 0))), (15, .int (m3 p)), (16, .int (zb (io n r m0 m1 m2 m3 m5 p 0)))] (by decide) rfl ?_
          have IL : ∀ (mu_IL : Nat), ∀ (j : Nat), (j ≤ n) → n - j < mu_IL → zv_V pP l eE room_1 sS mM aA bB mT cD Q 27 D vwCl A A (tyS cI cZ cA) ((s 0, .inr (2, [.int r, .int y, .ref (s 1), .ref (s 2)])) :: (s 1, .inl (cA, n, aq pa)) :: (s 2, .inl (cA, b, aq da)) :: (sR cI 6 pa (rP m0 m1 m2 m3 m4 m5) n ++ (sR cI 2 da (rB m6 m7) b ++ w))) kc ns 274 [(0, .ref sc), (1, .ref a), (2, .ref (s 0)), (3, .int (nI ti)), (4, .int x), (5, .long (dgM n b m0 m1 m2 m3 m5 m6 m7 r y)), (7, .int (nI n)), (10, .int (nI mc)), (11, .int ms), (12, .int (nI p)), (13, .int (nI (cnb (fun q => fl m0 (nI p) 16 (m0 q)) j))), (14, .int (nI (wc m0 m3 p j))), (15, .int (mW m0 (sol n m0 m1 m2 m3 m5 r).1 (m3 p) p j)), (16, .int (zb (io n r m0 m1 m2 m3 m5 p j))), (17, .int (nI j))] [] := by
            intro mu_IL
            induction mu_IL with
            | zero => intro j hj hmu_IL; exact absurd hmu_IL (Nat.not_lt_zero _)
            | succ mu_IL ih_IL =>
              intro j hj hmu_IL
              refine zv_iload C dL_law_274 276 rfl 14 rfl ?_
              refine zv_iload C dL_law_276 278 rfl 6 rfl ?_
              refine zv_icmp_ge C dL_law_278 281 560 rfl (by decide) (fun cj => ?_) (fun cj => ?_)
              ·
                have e1 : n = j := by have := zn_le (by omega) (by omega) cj; omega
                subst e1
                have hself := fl_self hD hn16 hp2
                have hw0 := hV.w0 hp2
                have hlw := hV.lwc hp2
                have hwl := wc_le m0 m3 p n
                have hnag := hV.nag hp2
                have hme := mo_end hD hn16 hp2
                obtain ⟨lv, hl16, elv, hlao⟩ := hV.lao (ao n m0 p) p hp2 (Nat.le_refl _)
                have hao : ao n m0 p ≤ n := cnb_le _ _
                refine zv_aload_n C dL_law_560 561 rfl 1 rfl ?_
                refine zv_iload C dL_law_561 563 rfl 9 rfl ?_
                refine zv_iload C dL_law_563 565 rfl 9 rfl ?_
                refine zn_callRV (rest := []) C zn_TB zn_TE (zn_ofR (w_isAbove l D hR p p hp2 hp2)) (cwV 2 C.1.2.2.2.2 gL_law_X1_isAbove rfl rfl rfl (by decide +kernel) ⟨Nat.le_of_ble_eq_true rfl, Nat.le_of_ble_eq_true rfl⟩) dL_law_565 568 rfl (ci := 1) rfl 0 hrc rfl rfl (Nat.le_of_ble_eq_true rfl) ⟨(by show kc + 0 ≤ 600130; omega), (by show ns + 0 ≤ 7301079; omega)⟩ [0, 1] rfl (List.Sublist.cons _ (List.Sublist.cons _ (List.Sublist.cons _ ((List.sublist_append_right _ _).trans (List.sublist_append_right _ _))))) (fun v hv => ?_)
                subst hv
                rw [hself]
                refine zv_go rfl rfl (st' := [.int 0]) rfl (kc' := kc) rfl (ns' := ns) rfl ?_
                refine zv_if_ne C dL_law_568 571 729 rfl (by decide) (fun c => absurd c (fun c => c rfl)) (fun _ => ?_)
                refine zv_iload C dL_law_571 573 rfl 10 rfl ?_
                refine zv_aload_n C dL_law_573 574 rfl 1 rfl ?_
                refine zv_iload C dL_law_574 576 rfl 9 rfl ?_
                refine zn_callRV (rest := [.int (nI (cnb (fun q => fl m0 (nI p) 16 (m0 q)) n))]) C zn_TB zn_TE (zn_ofR (w_placesAbove l D hR p hp2)) (cwV 1 C.1.2.2.2.2 gL_law_X1_placesAbove rfl rfl rfl (by decide +kernel) ⟨Nat.le_of_ble_eq_true rfl, Nat.le_of_ble_eq_true rfl⟩) dL_law_576 579 rfl (ci := 1) rfl 0 hrc rfl rfl (Nat.le_of_ble_eq_true rfl) ⟨(by show kc + 0 ≤ 600130; omega), (by show ns + 0 ≤ 7301079; omega)⟩ [0, 1] rfl (List.Sublist.cons _ (List.Sublist.cons _ (List.Sublist.cons _ ((List.sublist_append_right _ _).trans (List.sublist_append_right _ _))))) (fun v hv => ?_)
                subst hv
                refine zv_go rfl rfl (st' := [.int (nI (ao n m0 p)), .int (nI (cnb (fun q => fl m0 (nI p) 16 (m0 q)) n))]) rfl (kc' := kc) rfl (ns' := ns) rfl ?_
                refine zv_icmp_ne C dL_law_579 582 729 rfl (by decide) (fun c => absurd c (fun c => c rfl)) (fun _ => ?_)
                refine zv_iload C dL_law_582 584 rfl 12 rfl ?_
                refine zv_aload_n C dL_law_584 585 rfl 1 rfl ?_
                refine zv_iload C dL_law_585 587 rfl 9 rfl ?_
                refine zn_callRV (rest := [.int (mW m0 (sol n m0 m1 m2 m3 m5 r).1 (m3 p) p n)]) C zn_TB zn_TE (zn_ofR (w_waterAt l D hR p hp2)) (cwV 1 C.1.2.2.2.2 gL_law_X1_waterAt rfl rfl rfl (by decide +kernel) ⟨Nat.le_of_ble_eq_true rfl, Nat.le_of_ble_eq_true rfl⟩) dL_law_587 590 rfl (ci := 1) rfl 0 hrc rfl rfl (Nat.le_of_ble_eq_true rfl) ⟨(by show kc + 0 ≤ 600130; omega), (by show ns + 0 ≤ 7301079; omega)⟩ [0, 1] rfl (List.Sublist.cons _ (List.Sublist.cons _ (List.Sublist.cons _ ((List.sublist_append_right _ _).trans (List.sublist_append_right _ _))))) (fun v hv => ?_)
                subst hv
                refine zv_go rfl rfl (st' := [.int ((sol n m0 m1 m2 m3 m5 r).1 p), .int (mW m0 (sol n m0 m1 m2 m3 m5 r).1 (m3 p) p n)]) rfl (kc' := kc) rfl (ns' := ns) rfl ?_
                refine zv_icmp_ne C dL_law_590 593 729 rfl (by decide) (fun c => absurd c (fun c => c hw0.symm)) (fun _ => ?_)
                have K73 : zv_V pP l eE room_1 sS mM aA bB mT cD Q 27 D vwCl A A (tyS cI cZ cA) ((s 0, .inr (2, [.int r, .int y, .ref (s 1), .ref (s 2)])) :: (s 1, .inl (cA, n, aq pa)) :: (s 2, .inl (cA, b, aq da)) :: (sR cI 6 pa (rP m0 m1 m2 m3 m4 m5) n ++ (sR cI 2 da (rB m6 m7) b ++ w))) kc ns 731 [(0, .ref sc), (1, .ref a), (2, .ref (s 0)), (3, .int (nI ti)), (4, .int x), (5, .long (dgM n b m0 m1 m2 m3 m5 m6 m7 r y)), (7, .int (nI n)), (10, .int (nI mc)), (11, .int ms), (12, .int (nI p)), (13, .int (nI (cnb (fun q => fl m0 (nI p) 16 (m0 q)) n))), (14, .int (nI (wc m0 m3 p n))), (15, .int (mW m0 (sol n m0 m1 m2 m3 m5 r).1 (m3 p) p n)), (16, .int (zb (io n r m0 m1 m2 m3 m5 p n))), (17, .int (nI n))] [] := by
                  refine zv_aload_n C dL_law_731 732 rfl 1 rfl ?_
                  refine zv_iload C dL_law_732 734 rfl 9 rfl ?_
                  refine zn_callRV (rest := []) C zn_TB zn_TE (zn_ofR (w_leadsTo l D hR p hp2)) (cwV 1 C.1.2.2.2.2 gL_law_X1_leadsTo rfl rfl rfl (by decide +kernel) ⟨Nat.le_of_ble_eq_true rfl, Nat.le_of_ble_eq_true rfl⟩) dL_law_734 737 rfl (ci := 1) rfl 0 hrc rfl rfl (Nat.le_of_ble_eq_true rfl) ⟨(by show kc + 0 ≤ 600130; omega), (by show ns + 0 ≤ 7301079; omega)⟩ [0, 1] rfl (List.Sublist.cons _ (List.Sublist.cons _ (List.Sublist.cons _ ((List.sublist_append_right _ _).trans (List.sublist_append_right _ _))))) (fun v hv => ?_)
                  subst hv
                  refine zv_go rfl rfl (st' := [.int (m0 p)]) rfl (kc' := kc) rfl (ns' := ns) rfl ?_
                  refine zv_if_lt C dL_law_737 740 743 rfl (by decide) (fun cl => ?_) (fun cl => ?_)
                  ·
                    have hm1 : m0 p = -1 := by
                      rcases hD.vw p hp2 with z | ⟨q, hq, eq⟩
                      · exact z
                      · rw [eq] at cl; exact absurd cl (nI_nneg (by omega))
                    refine zv_iinc (v := (nI (mc + 1))) C dL_law_743 746 rfl [(10, .int (nI (mc + 1))), (0, .ref sc), (1, .ref a), (2, .ref (s 0)), (3, .int (nI ti)), (4, .int x), (5, .long (dgM n b m0 m1 m2 m3 m5 m6 m7 r y)), (7, .int (nI n)), (11, .int ms), (12, .int (nI p)), (13, .int (nI (cnb (fun q => fl m0 (nI p) 16 (m0 q)) n))), (14, .int (nI (wc m0 m3 p n))), (15, .int (mW m0 (sol n m0 m1 m2 m3 m5 r).1 (m3 p) p n)), (16, .int (zb (io n r m0 m1 m2 m3 m5 p n))), (17, .int (nI n))] 7 rfl (nI_1 mc) (by decide) rfl ?_
                    refine zv_iload C dL_law_746 748 rfl 8 rfl ?_
                    refine zv_aload_n C dL_law_748 749 rfl 2 rfl ?_
                    refine zv_iload C dL_law_749 751 rfl 9 rfl ?_
                    refine zn_callRV (rest := [.int ms]) C zn_TB zn_TE (zn_ofR (w_waterAt l D hR p hp2)) (cwV 1 C.1.2.2.2.2 gL_law_X1_waterAt rfl rfl rfl (by decide +kernel) ⟨Nat.le_of_ble_eq_true rfl, Nat.le_of_ble_eq_true rfl⟩) dL_law_751 754 rfl (ci := 1) rfl 0 hrc rfl rfl (Nat.le_of_ble_eq_true rfl) ⟨(by show kc + 0 ≤ 600130; omega), (by show ns + 0 ≤ 7301079; omega)⟩ [0, 1] rfl (List.Sublist.cons _ (List.Sublist.cons _ (List.Sublist.cons _ ((List.sublist_append_right _ _).trans (List.sublist_append_right _ _))))) (fun v hv => ?_)
                    subst hv
                    refine zv_go rfl rfl (st' := [.int ((sol n m0 m1 m2 m3 m5 r).1 p), .int ms]) rfl (kc' := kc) rfl (ns' := ns) rfl ?_
                    refine zv_iadd (v := (ms + ((sol n m0 m1 m2 m3 m5 r).1 p))) C dL_law_754 755 rfl rfl ?_
                    refine zv_istore C dL_law_755 757 rfl [(11, .int (ms + ((sol n m0 m1 m2 m3 m5 r).1 p))), (10, .int (nI (mc + 1))), (0, .ref sc), (1, .ref a), (2, .ref (s 0)), (3, .int (nI ti)), (4, .int x), (5, .long (dgM n b m0 m1 m2 m3 m5 m6 m7 r y)), (7, .int (nI n)), (12, .int (nI p)), (13, .int (nI (cnb (fun q => fl m0 (nI p) 16 (m0 q)) n))), (14, .int (nI (wc m0 m3 p n))), (15, .int (mW m0 (sol n m0 m1 m2 m3 m5 r).1 (m3 p) p n)), (16, .int (zb (io n r m0 m1 m2 m3 m5 p n))), (17, .int (nI n))] (by decide) rfl ?_
                    refine zv_iinc (v := (nI (p + 1))) C dL_law_757 760 rfl [(12, .int (nI (p + 1))), (11, .int (ms + ((sol n m0 m1 m2 m3 m5 r).1 p))), (10, .int (nI (mc + 1))), (0, .ref sc), (1, .ref a), (2, .ref (s 0)), (3, .int (nI ti)), (4, .int x), (5, .long (dgM n b m0 m1 m2 m3 m5 m6 m7 r y)), (7, .int (nI n)), (13, .int (nI (cnb (fun q => fl m0 (nI p) 16 (m0 q)) n))), (14, .int (nI (wc m0 m3 p n))), (15, .int (mW m0 (sol n m0 m1 m2 m3 m5 r).1 (m3 p) p n)), (16, .int (zb (io n r m0 m1 m2 m3 m5 p n))), (17, .int (nI n))] 9 rfl (nI_1 p) (by decide) rfl ?_
                    refine zv_goto C dL_law_760 206 (by decide) ?_
                    refine zv_sub [3, 4, 5, 6, 7, 8, 9, 2, 1, 0] (lv' := [(0, .ref sc), (1, .ref a), (2, .ref (s 0)), (3, .int (nI ti)), (4, .int x), (5, .long (dgM n b m0 m1 m2 m3 m5 m6 m7 r y)), (7, .int (nI n)), (10, .int (nI (mc + 1))), (11, .int (ms + ((sol n m0 m1 m2 m3 m5 r).1 p))), (12, .int (nI (p + 1)))]) rfl ?_
                    exact ih_PL (p + 1) _ _ (mmS_y _ _ hms hm1) (by omega) (by omega)
                  ·
                    have hm1 : ¬ m0 p = -1 := fun z => cl (by rw [z]; decide)
                    refine zv_goto C dL_law_740 757 (by decide) ?_
                    refine zv_iinc (v := (nI (p + 1))) C dL_law_757 760 rfl [(12, .int (nI (p + 1))), (0, .ref sc), (1, .ref a), (2, .ref (s 0)), (3, .int (nI ti)), (4, .int x), (5, .long (dgM n b m0 m1 m2 m3 m5 m6 m7 r y)), (7, .int (nI n)), (10, .int (nI mc)), (11, .int ms), (13, .int (nI (cnb (fun q => fl m0 (nI p) 16 (m0 q)) n))), (14, .int (nI (wc m0 m3 p n))), (15, .int (mW m0 (sol n m0 m1 m2 m3 m5 r).1 (m3 p) p n)), (16, .int (zb (io n r m0 m1 m2 m3 m5 p n))), (17, .int (nI n))] 9 rfl (nI_1 p) (by decide) rfl ?_
                    refine zv_goto C dL_law_760 206 (by decide) ?_
                    refine zv_sub [1, 2, 3, 4, 5, 6, 7, 8, 9, 0] (lv' := [(0, .ref sc), (1, .ref a), (2, .ref (s 0)), (3, .int (nI ti)), (4, .int x), (5, .long (dgM n b m0 m1 m2 m3 m5 m6 m7 r y)), (7, .int (nI n)), (10, .int (nI mc)), (11, .int ms), (12, .int (nI (p + 1)))]) rfl ?_
                    exact ih_PL (p + 1) _ _ (mmS_n _ _ hms hm1) (by omega) (by omega)
                have K71 : zv_V pP l eE room_1 sS mM aA bB mT cD Q 27 D vwCl A A (tyS cI cZ cA) ((s 0, .inr (2, [.int r, .int y, .ref (s 1), .ref (s 2)])) :: (s 1, .inl (cA, n, aq pa)) :: (s 2, .inl (cA, b, aq da)) :: (sR cI 6 pa (rP m0 m1 m2 m3 m4 m5) n ++ (sR cI 2 da (rB m6 m7) b ++ w))) kc ns 715 [(0, .ref sc), (1, .ref a), (2, .ref (s 0)), (3, .int (nI ti)), (4, .int x), (5, .long (dgM n b m0 m1 m2 m3 m5 m6 m7 r y)), (7, .int (nI n)), (10, .int (nI mc)), (11, .int ms), (12, .int (nI p)), (13, .int (nI (cnb (fun q => fl m0 (nI p) 16 (m0 q)) n))), (14, .int (nI (wc m0 m3 p n))), (15, .int (mW m0 (sol n m0 m1 m2 m3 m5 r).1 (m3 p) p n)), (16, .int (zb (io n r m0 m1 m2 m3 m5 p n))), (17, .int (nI n))] [] := by
                  refine zv_aload_n C dL_law_715 716 rfl 1 rfl ?_
                  refine zv_aload_n C dL_law_716 717 rfl 1 rfl ?_
                  refine zv_iload C dL_law_717 719 rfl 9 rfl ?_
                  refine zn_callRV (rest := [.ref a]) C zn_TB zn_TE (zn_ofR (w_mouthOf l D hR p hp2)) (cwV 1 C.1.2.2.2.2 gL_law_X1_mouthOf rfl rfl rfl (by decide +kernel) ⟨Nat.le_of_ble_eq_true rfl, Nat.le_of_ble_eq_true rfl⟩) dL_law_719 722 rfl (ci := 1) rfl 0 hrc rfl rfl (Nat.le_of_ble_eq_true rfl) ⟨(by show kc + 0 ≤ 600130; omega), (by show ns + 0 ≤ 7301079; omega)⟩ [0, 1] rfl (List.Sublist.cons _ (List.Sublist.cons _ (List.Sublist.cons _ ((List.sublist_append_right _ _).trans (List.sublist_append_right _ _))))) (fun v hv => ?_)
                  subst hv
                  refine zv_go rfl rfl (st' := [.int (nI (mo m0 16 p)), .ref a]) rfl (kc' := kc) rfl (ns' := ns) rfl ?_
                  refine zn_callRV (rest := []) C zn_TB zn_TE (zn_ofR (w_leadsTo l D hR (mo m0 16 p) hme.1)) (cwV 1 C.1.2.2.2.2 gL_law_X1_leadsTo rfl rfl rfl (by decide +kernel) ⟨Nat.le_of_ble_eq_true rfl, Nat.le_of_ble_eq_true rfl⟩) dL_law_722 725 rfl (ci := 1) rfl 0 hrc rfl rfl (Nat.le_of_ble_eq_true rfl) ⟨(by show kc + 0 ≤ 600130; omega), (by show ns + 0 ≤ 7301079; omega)⟩ [0, 1] rfl (List.Sublist.cons _ (List.Sublist.cons _ (List.Sublist.cons _ ((List.sublist_append_right _ _).trans (List.sublist_append_right _ _))))) (fun v hv => ?_)
                  subst hv
                  rw [hme.2.1]
                  refine zv_go rfl rfl (st' := [.int (-1 : Int32)]) rfl (kc' := kc) rfl (ns' := ns) rfl ?_
                  refine zv_iconst (v := (-1 : Int32)) C dL_law_725 726 rfl (by decide) ?_
                  refine zv_icmp_eq C dL_law_726 729 731 rfl (by decide) (fun _ => ?_) (fun c => absurd rfl c)
                  exact K73
                have K69 : zv_V pP l eE room_1 sS mM aA bB mT cD Q 27 D vwCl A A (tyS cI cZ cA) ((s 0, .inr (2, [.int r, .int y, .ref (s 1), .ref (s 2)])) :: (s 1, .inl (cA, n, aq pa)) :: (s 2, .inl (cA, b, aq da)) :: (sR cI 6 pa (rP m0 m1 m2 m3 m4 m5) n ++ (sR cI 2 da (rB m6 m7) b ++ w))) kc ns 697 [(0, .ref sc), (1, .ref a), (2, .ref (s 0)), (3, .int (nI ti)), (4, .int x), (5, .long (dgM n b m0 m1 m2 m3 m5 m6 m7 r y)), (7, .int (nI n)), (10, .int (nI mc)), (11, .int ms), (12, .int (nI p)), (13, .int (nI (cnb (fun q => fl m0 (nI p) 16 (m0 q)) n))), (14, .int (nI (wc m0 m3 p n))), (15, .int (mW m0 (sol n m0 m1 m2 m3 m5 r).1 (m3 p) p n)), (16, .int (zb (io n r m0 m1 m2 m3 m5 p n))), (17, .int (nI n))] [] := by
                  refine zv_aload_n C dL_law_697 698 rfl 1 rfl ?_
                  refine zv_iload C dL_law_698 700 rfl 9 rfl ?_
                  refine zn_callRV (rest := []) C zn_TB zn_TE (zn_ofR (w_hasSpring l D hR p hp2)) (cwV 1 C.1.2.2.2.2 gL_law_X1_hasSpring rfl rfl rfl (by decide +kernel) ⟨Nat.le_of_ble_eq_true rfl, Nat.le_of_ble_eq_true rfl⟩) dL_law_700 703 rfl (ci := 1) rfl 0 hrc rfl rfl (Nat.le_of_ble_eq_true rfl) ⟨(by show kc + 0 ≤ 600130; omega), (by show ns + 0 ≤ 7301079; omega)⟩ [0, 1] rfl (List.Sublist.cons _ (List.Sublist.cons _ (List.Sublist.cons _ ((List.sublist_append_right _ _).trans (List.sublist_append_right _ _))))) (fun v hv => ?_)
                  subst hv
                  refine zv_go rfl rfl (st' := [.int (m1 p)]) rfl (kc' := kc) rfl (ns' := ns) rfl ?_
                  refine zv_if_ne C dL_law_703 706 715 rfl (by decide) (fun c1 => ?_) (fun c1 => ?_)
                  ·
                    exact K71
                  ·
                    have h30 := (hV.wat p hp2).1 c1
                    refine zv_aload_n C dL_law_706 707 rfl 1 rfl ?_
                    refine zv_iload C dL_law_707 709 rfl 9 rfl ?_
                    refine zn_callRV (rest := []) C zn_TB zn_TE (zn_ofR (w_springOf l D hR p hp2)) (cwV 1 C.1.2.2.2.2 gL_law_X1_springOf rfl rfl rfl (by decide +kernel) ⟨Nat.le_of_ble_eq_true rfl, Nat.le_of_ble_eq_true rfl⟩) dL_law_709 712 rfl (ci := 1) rfl 0 hrc rfl rfl (Nat.le_of_ble_eq_true rfl) ⟨(by show kc + 0 ≤ 600130; omega), (by show ns + 0 ≤ 7301079; omega)⟩ [0, 1] rfl (List.Sublist.cons _ (List.Sublist.cons _ (List.Sublist.cons _ ((List.sublist_append_right _ _).trans (List.sublist_append_right _ _))))) (fun v hv => ?_)
                    subst hv
                    refine zv_go rfl rfl (st' := [.int (m3 p)]) rfl (kc' := kc) rfl (ns' := ns) rfl ?_
                    refine zv_if_gt C dL_law_712 715 729 rfl (by decide) (fun c => absurd c (by rw [h30]; decide)) (fun _ => ?_)
                    exact K71
                have hag1 : agA m0 m1 m3 m5 (nmS n m0 m1 m2 m3 m5 r) p n ≤ n := by
                  rw [← agA_arB hD hn16 hp2 (fun q hq => hV.nv hq)]; exact cnb_le _ _
                have K67 : zv_V pP l eE room_1 sS mM aA bB mT cD Q 27 D vwCl A A (tyS cI cZ cA) ((s 0, .inr (2, [.int r, .int y, .ref (s 1), .ref (s 2)])) :: (s 1, .inl (cA, n, aq pa)) :: (s 2, .inl (cA, b, aq da)) :: (sR cI 6 pa (rP m0 m1 m2 m3 m4 m5) n ++ (sR cI 2 da (rB m6 m7) b ++ w))) kc ns 678 [(0, .ref sc), (1, .ref a), (2, .ref (s 0)), (3, .int (nI ti)), (4, .int x), (5, .long (dgM n b m0 m1 m2 m3 m5 m6 m7 r y)), (7, .int (nI n)), (10, .int (nI mc)), (11, .int ms), (12, .int (nI p)), (13, .int (nI (cnb (fun q => fl m0 (nI p) 16 (m0 q)) n))), (14, .int (nI (wc m0 m3 p n))), (15, .int (mW m0 (sol n m0 m1 m2 m3 m5 r).1 (m3 p) p n)), (16, .int (zb (io n r m0 m1 m2 m3 m5 p n))), (17, .int (nI n))] [] := by
                  refine zv_aload_n C dL_law_678 679 rfl 1 rfl ?_
                  refine zv_iload C dL_law_679 681 rfl 9 rfl ?_
                  refine zn_callRV (rest := []) C zn_TB zn_TE (zn_ofR (w_isArgued l D hR p hp2)) (cwV 1 C.1.2.2.2.2 gL_law_X1_isArgued rfl rfl rfl (by decide +kernel) ⟨Nat.le_of_ble_eq_true rfl, Nat.le_of_ble_eq_true rfl⟩) dL_law_681 684 rfl (ci := 1) rfl 0 hrc rfl rfl (Nat.le_of_ble_eq_true rfl) ⟨(by show kc + 0 ≤ 600130; omega), (by show ns + 0 ≤ 7301079; omega)⟩ [0, 1] rfl (List.Sublist.cons _ (List.Sublist.cons _ (List.Sublist.cons _ ((List.sublist_append_right _ _).trans (List.sublist_append_right _ _))))) (fun v hv => ?_)
                  subst hv
                  refine zv_go rfl rfl (st' := [.int (zb (agD m0 m1 m2 m3 m5 (nmS n m0 m1 m2 m3 m5 r) p n))]) rfl (kc' := kc) rfl (ns' := ns) rfl ?_
                  refine zv_if_eq C dL_law_684 687 697 rfl (by decide) (fun cd => ?_) (fun cd => ?_)
                  ·
                    exact K69
                  ·
                    have hag2 := hV.ag2 hp2 (zb_ne0.mp cd)
                    refine zv_aload_n C dL_law_687 688 rfl 1 rfl ?_
                    refine zv_iload C dL_law_688 690 rfl 9 rfl ?_
                    refine zn_callRV (rest := []) C zn_TB zn_TE (zn_ofR (w_arguing l D hR p hp2)) (cwV 1 C.1.2.2.2.2 gL_law_X1_arguing rfl rfl rfl (by decide +kernel) ⟨Nat.le_of_ble_eq_true rfl, Nat.le_of_ble_eq_true rfl⟩) dL_law_690 693 rfl (ci := 1) rfl 0 hrc rfl rfl (Nat.le_of_ble_eq_true rfl) ⟨(by show kc + 0 ≤ 600130; omega), (by show ns + 0 ≤ 7301079; omega)⟩ [0, 1] rfl (List.Sublist.cons _ (List.Sublist.cons _ (List.Sublist.cons _ ((List.sublist_append_right _ _).trans (List.sublist_append_right _ _))))) (fun v hv => ?_)
                    subst hv
                    refine zv_go rfl rfl (st' := [.int (nI (agA m0 m1 m3 m5 (nmS n m0 m1 m2 m3 m5 r) p n))]) rfl (kc' := kc) rfl (ns' := ns) rfl ?_
                    refine zv_iconst (v := 2) C dL_law_693 694 rfl (by decide) ?_
                    refine zv_icmp_lt C dL_law_694 697 729 rfl (by decide) (fun c => absurd c (nI_nlt (b := 2) (by omega) (by omega))) (fun _ => ?_)
                    exact K69
                have K66 : zv_V pP l eE room_1 sS mM aA bB mT cD Q 27 D vwCl A A (tyS cI cZ cA) ((s 0, .inr (2, [.int r, .int y, .ref (s 1), .ref (s 2)])) :: (s 1, .inl (cA, n, aq pa)) :: (s 2, .inl (cA, b, aq da)) :: (sR cI 6 pa (rP m0 m1 m2 m3 m4 m5) n ++ (sR cI 2 da (rB m6 m7) b ++ w))) kc ns 664 [(0, .ref sc), (1, .ref a), (2, .ref (s 0)), (3, .int (nI ti)), (4, .int x), (5, .long (dgM n b m0 m1 m2 m3 m5 m6 m7 r y)), (7, .int (nI n)), (10, .int (nI mc)), (11, .int ms), (12, .int (nI p)), (13, .int (nI (cnb (fun q => fl m0 (nI p) 16 (m0 q)) n))), (14, .int (nI (wc m0 m3 p n))), (15, .int (mW m0 (sol n m0 m1 m2 m3 m5 r).1 (m3 p) p n)), (16, .int (zb (io n r m0 m1 m2 m3 m5 p n))), (17, .int (nI n))] [] := by
                  refine zv_aload_n C dL_law_664 665 rfl 1 rfl ?_
                  refine zv_iload C dL_law_665 667 rfl 9 rfl ?_
                  refine zn_callRV (rest := []) C zn_TB zn_TE (zn_ofR (w_nameAt l D hR p hp2)) (cwV 1 C.1.2.2.2.2 gL_law_X1_nameAt rfl rfl rfl (by decide +kernel) ⟨Nat.le_of_ble_eq_true rfl, Nat.le_of_ble_eq_true rfl⟩) dL_law_667 670 rfl (ci := 1) rfl 0 hrc rfl rfl (Nat.le_of_ble_eq_true rfl) ⟨(by show kc + 0 ≤ 600130; omega), (by show ns + 0 ≤ 7301079; omega)⟩ [0, 1] rfl (List.Sublist.cons _ (List.Sublist.cons _ (List.Sublist.cons _ ((List.sublist_append_right _ _).trans (List.sublist_append_right _ _))))) (fun v hv => ?_)
                  subst hv
                  refine zv_go rfl rfl (st' := [.int (nmS n m0 m1 m2 m3 m5 r p)]) rfl (kc' := kc) rfl (ns' := ns) rfl ?_
                  refine zv_if_lt C dL_law_670 673 678 rfl (by decide) (fun cn => ?_) (fun cn => ?_)
                  ·
                    exact K67
                  ·
                    refine zv_iload C dL_law_673 675 rfl 13 rfl ?_
                    refine zv_if_eq C dL_law_675 678 729 rfl (by decide) (fun c => absurd c (zb_ne0.mpr (hV.one hp2 cn))) (fun _ => ?_)
                    exact K67
                have K63 : zv_V pP l eE room_1 sS mM aA bB mT cD Q 27 D vwCl A A (tyS cI cZ cA) ((s 0, .inr (2, [.int r, .int y, .ref (s 1), .ref (s 2)])) :: (s 1, .inl (cA, n, aq pa)) :: (s 2, .inl (cA, b, aq da)) :: (sR cI 6 pa (rP m0 m1 m2 m3 m4 m5) n ++ (sR cI 2 da (rB m6 m7) b ++ w))) kc ns 633 [(0, .ref sc), (1, .ref a), (2, .ref (s 0)), (3, .int (nI ti)), (4, .int x), (5, .long (dgM n b m0 m1 m2 m3 m5 m6 m7 r y)), (7, .int (nI n)), (10, .int (nI mc)), (11, .int ms), (12, .int (nI p)), (13, .int (nI (cnb (fun q => fl m0 (nI p) 16 (m0 q)) n))), (14, .int (nI (wc m0 m3 p n))), (15, .int (mW m0 (sol n m0 m1 m2 m3 m5 r).1 (m3 p) p n)), (16, .int (zb (io n r m0 m1 m2 m3 m5 p n))), (17, .int (nI n))] [] := by
                  refine zv_aload_n C dL_law_633 634 rfl 1 rfl ?_
                  refine zv_iload C dL_law_634 636 rfl 9 rfl ?_
                  refine zn_callRV (rest := []) C zn_TB zn_TE (zn_ofR (w_nameAt l D hR p hp2)) (cwV 1 C.1.2.2.2.2 gL_law_X1_nameAt rfl rfl rfl (by decide +kernel) ⟨Nat.le_of_ble_eq_true rfl, Nat.le_of_ble_eq_true rfl⟩) dL_law_636 639 rfl (ci := 1) rfl 0 hrc rfl rfl (Nat.le_of_ble_eq_true rfl) ⟨(by show kc + 0 ≤ 600130; omega), (by show ns + 0 ≤ 7301079; omega)⟩ [0, 1] rfl (List.Sublist.cons _ (List.Sublist.cons _ (List.Sublist.cons _ ((List.sublist_append_right _ _).trans (List.sublist_append_right _ _))))) (fun v hv => ?_)
                  subst hv
                  refine zv_go rfl rfl (st' := [.int (nmS n m0 m1 m2 m3 m5 r p)]) rfl (kc' := kc) rfl (ns' := ns) rfl ?_
                  refine zv_if_ge C dL_law_639 642 646 rfl (by decide) (fun cn => ?_) (fun cn => ?_)
                  ·
                    have hg0 : ¬ agA m0 m1 m3 m5 (nmS n m0 m1 m2 m3 m5 r) p n = 0 := fun z => by rw [hnag.mpr z] at cn; exact absurd cn (by decide)
                    refine zv_iconst (v := 0) C dL_law_646 647 rfl (by decide) ?_
                    refine zv_aload_n C dL_law_647 648 rfl 1 rfl ?_
                    refine zv_iload C dL_law_648 650 rfl 9 rfl ?_
                    refine zn_callRV (rest := [.int 0]) C zn_TB zn_TE (zn_ofR (w_arguing l D hR p hp2)) (cwV 1 C.1.2.2.2.2 gL_law_X1_arguing rfl rfl rfl (by decide +kernel) ⟨Nat.le_of_ble_eq_true rfl, Nat.le_of_ble_eq_true rfl⟩) dL_law_650 653 rfl (ci := 1) rfl 0 hrc rfl rfl (Nat.le_of_ble_eq_true rfl) ⟨(by show kc + 0 ≤ 600130; omega), (by show ns + 0 ≤ 7301079; omega)⟩ [0, 1] rfl (List.Sublist.cons _ (List.Sublist.cons _ (List.Sublist.cons _ ((List.sublist_append_right _ _).trans (List.sublist_append_right _ _))))) (fun v hv => ?_)
                    subst hv
                    refine zv_go rfl rfl (st' := [.int (nI (agA m0 m1 m3 m5 (nmS n m0 m1 m2 m3 m5 r) p n)), .int 0]) rfl (kc' := kc) rfl (ns' := ns) rfl ?_
                    refine zv_if_ne C dL_law_653 656 660 rfl (by decide) (fun _ => ?_) (fun c => absurd c (fun z => hg0 (zn_eq (by omega) (by omega) (show nI _ = nI 0 from z))))
                    refine zv_iconst (v := 0) C dL_law_660 661 rfl (by decide) ?_
                    refine zv_icmp_ne C dL_law_661 664 729 rfl (by decide) (fun c => absurd c (fun c => c rfl)) (fun _ => ?_)
                    exact K66
                  ·
                    have hg0 : agA m0 m1 m3 m5 (nmS n m0 m1 m2 m3 m5 r) p n = 0 := hnag.mp ((nm_lt0 (hV.nv hp2)).mp (Int32.not_le.mp cn))
                    refine zv_iconst (v := 1) C dL_law_642 643 rfl (by decide) ?_
                    refine zv_goto C dL_law_643 647 (by decide) ?_
                    refine zv_aload_n C dL_law_647 648 rfl 1 rfl ?_
                    refine zv_iload C dL_law_648 650 rfl 9 rfl ?_
                    refine zn_callRV (rest := [.int 1]) C zn_TB zn_TE (zn_ofR (w_arguing l D hR p hp2)) (cwV 1 C.1.2.2.2.2 gL_law_X1_arguing rfl rfl rfl (by decide +kernel) ⟨Nat.le_of_ble_eq_true rfl, Nat.le_of_ble_eq_true rfl⟩) dL_law_650 653 rfl (ci := 1) rfl 0 hrc rfl rfl (Nat.le_of_ble_eq_true rfl) ⟨(by show kc + 0 ≤ 600130; omega), (by show ns + 0 ≤ 7301079; omega)⟩ [0, 1] rfl (List.Sublist.cons _ (List.Sublist.cons _ (List.Sublist.cons _ ((List.sublist_append_right _ _).trans (List.sublist_append_right _ _))))) (fun v hv => ?_)
                    subst hv
                    refine zv_go rfl rfl (st' := [.int (nI (agA m0 m1 m3 m5 (nmS n m0 m1 m2 m3 m5 r) p n)), .int 1]) rfl (kc' := kc) rfl (ns' := ns) rfl ?_
                    refine zv_if_ne C dL_law_653 656 660 rfl (by decide) (fun c => absurd c (fun c => c (by rw [hg0]; rfl))) (fun _ => ?_)
                    refine zv_iconst (v := 1) C dL_law_656 657 rfl (by decide) ?_
                    refine zv_goto C dL_law_657 661 (by decide) ?_
                    refine zv_icmp_ne C dL_law_661 664 729 rfl (by decide) (fun c => absurd c (fun c => c rfl)) (fun _ => ?_)
                    exact K66
                have K62 : zv_V pP l eE room_1 sS mM aA bB mT cD Q 27 D vwCl A A (tyS cI cZ cA) ((s 0, .inr (2, [.int r, .int y, .ref (s 1), .ref (s 2)])) :: (s 1, .inl (cA, n, aq pa)) :: (s 2, .inl (cA, b, aq da)) :: (sR cI 6 pa (rP m0 m1 m2 m3 m4 m5) n ++ (sR cI 2 da (rB m6 m7) b ++ w))) kc ns 620 [(0, .ref sc), (1, .ref a), (2, .ref (s 0)), (3, .int (nI ti)), (4, .int x), (5, .long (dgM n b m0 m1 m2 m3 m5 m6 m7 r y)), (7, .int (nI n)), (10, .int (nI mc)), (11, .int ms), (12, .int (nI p)), (13, .int (nI (cnb (fun q => fl m0 (nI p) 16 (m0 q)) n))), (14, .int (nI (wc m0 m3 p n))), (15, .int (mW m0 (sol n m0 m1 m2 m3 m5 r).1 (m3 p) p n)), (16, .int (zb (io n r m0 m1 m2 m3 m5 p n))), (17, .int (nI n))] [] := by
                  refine zv_aload_n C dL_law_620 621 rfl 1 rfl ?_
                  refine zv_iload C dL_law_621 623 rfl 9 rfl ?_
                  refine zn_callRV (rest := []) C zn_TB zn_TE (zn_ofR (w_lengthAt l D hR p hp2)) (cwV 1 C.1.2.2.2.2 gL_law_X1_lengthAt rfl rfl rfl (by decide +kernel) ⟨Nat.le_of_ble_eq_true rfl, Nat.le_of_ble_eq_true rfl⟩) dL_law_623 626 rfl (ci := 1) rfl 0 hrc rfl rfl (Nat.le_of_ble_eq_true rfl) ⟨(by show kc + 0 ≤ 600130; omega), (by show ns + 0 ≤ 7301079; omega)⟩ [0, 1] rfl (List.Sublist.cons _ (List.Sublist.cons _ (List.Sublist.cons _ ((List.sublist_append_right _ _).trans (List.sublist_append_right _ _))))) (fun v hv => ?_)
                  subst hv
                  rw [elv]
                  refine zv_go rfl rfl (st' := [.int (nI lv)]) rfl (kc' := kc) rfl (ns' := ns) rfl ?_
                  refine zv_iload C dL_law_626 628 rfl 10 rfl ?_
                  refine zv_iconst (v := 1) C dL_law_628 629 rfl (by decide) ?_
                  refine zv_iadd (v := (nI (ao n m0 p + 1))) C dL_law_629 630 rfl (nI_1 _) ?_
                  refine zv_icmp_gt C dL_law_630 633 729 rfl (by decide) (fun c => absurd c (nI_nlt (by omega) (by omega))) (fun _ => ?_)
                  exact K63
                refine zv_aload_n C dL_law_593 594 rfl 1 rfl ?_
                refine zv_iload C dL_law_594 596 rfl 9 rfl ?_
                refine zn_callRV (rest := []) C zn_TB zn_TE (zn_ofR (w_lengthAt l D hR p hp2)) (cwV 1 C.1.2.2.2.2 gL_law_X1_lengthAt rfl rfl rfl (by decide +kernel) ⟨Nat.le_of_ble_eq_true rfl, Nat.le_of_ble_eq_true rfl⟩) dL_law_596 599 rfl (ci := 1) rfl 0 hrc rfl rfl (Nat.le_of_ble_eq_true rfl) ⟨(by show kc + 0 ≤ 600130; omega), (by show ns + 0 ≤ 7301079; omega)⟩ [0, 1] rfl (List.Sublist.cons _ (List.Sublist.cons _ (List.Sublist.cons _ ((List.sublist_append_right _ _).trans (List.sublist_append_right _ _))))) (fun v hv => ?_)
                subst hv
                refine zv_go rfl rfl (st' := [.int ((sol n m0 m1 m2 m3 m5 r).2.1 p)]) rfl (kc' := kc) rfl (ns' := ns) rfl ?_
                refine zv_if_ne C dL_law_599 602 606 rfl (by decide) (fun cL => ?_) (fun cL => ?_)
                ·
                  refine zv_iconst (v := 0) C dL_law_606 607 rfl (by decide) ?_
                  refine zv_iload C dL_law_607 609 rfl 11 rfl ?_
                  refine zv_if_ne C dL_law_609 612 616 rfl (by decide) (fun _ => ?_) (fun c => absurd c (fun z => cL (hlw.mpr (zn_eq (by omega) (by omega) (show nI _ = nI 0 from z)))))
                  refine zv_iconst (v := 0) C dL_law_616 617 rfl (by decide) ?_
                  refine zv_icmp_ne C dL_law_617 620 729 rfl (by decide) (fun c => absurd c (fun c => c rfl)) (fun _ => ?_)
                  exact K62
                ·
                  refine zv_iconst (v := 1) C dL_law_602 603 rfl (by decide) ?_
                  refine zv_goto C dL_law_603 607 (by decide) ?_
                  refine zv_iload C dL_law_607 609 rfl 11 rfl ?_
                  refine zv_if_ne C dL_law_609 612 616 rfl (by decide) (fun c => absurd c (fun c => c (by rw [hlw.mp cL]; rfl))) (fun _ => ?_)
                  refine zv_iconst (v := 1) C dL_law_612 613 rfl (by decide) ?_
                  refine zv_goto C dL_law_613 617 (by decide) ?_
                  refine zv_icmp_ne C dL_law_617 620 729 rfl (by decide) (fun c => absurd c (fun c => c rfl)) (fun _ => ?_)
                  exact K62
              ·
                have hj2 : j < n := zn_le' (by omega) (by omega) cj
                have hwl := wc_le m0 m3 p j
                refine zv_aload_n C dL_law_281 282 rfl 1 rfl ?_
                refine zv_iload C dL_law_282 284 rfl 14 rfl ?_
                refine zv_iload C dL_law_284 286 rfl 9 rfl ?_
                cases hF : fl m0 (nI p) 16 (m0 j) with
                | false =>
                  have hnl : ¬ m0 j = nI p := fun e => by rw [fl_lead (by omega) e] at hF; cases hF
                  have hw1 : wc m0 m3 p (j + 1) = wc m0 m3 p j := wc_n (by rw [hF]; rfl)
                  have hab : cnb (fun q => fl m0 (nI p) 16 (m0 q)) (j + 1) = cnb (fun q => fl m0 (nI p) 16 (m0 q)) j := cnb_n (fun q => fl m0 (nI p) 16 (m0 q)) hF
                  have hwt : mW m0 (sol n m0 m1 m2 m3 m5 r).1 (m3 p) p (j + 1) = mW m0 (sol n m0 m1 m2 m3 m5 r).1 (m3 p) p j := mW_n _ _ _ hnl
                  have hoe : io n r m0 m1 m2 m3 m5 p (j + 1) = io n r m0 m1 m2 m3 m5 p j := by rw [io_s (x := false) (by rw [decide_eq_false hnl]; rfl), Bool.or_false]
                  refine zn_callRV (rest := []) C zn_TB zn_TE (zn_ofR (w_isAbove l D hR j p hj2 hp2)) (cwV 2 C.1.2.2.2.2 gL_law_X1_isAbove rfl rfl rfl (by decide +kernel) ⟨Nat.le_of_ble_eq_true rfl, Nat.le_of_ble_eq_true rfl⟩) dL_law_286 289 rfl (ci := 1) rfl 0 hrc rfl rfl (Nat.le_of_ble_eq_true rfl) ⟨(by show kc + 0 ≤ 600130; omega), (by show ns + 0 ≤ 7301079; omega)⟩ [0, 1] rfl (List.Sublist.cons _ (List.Sublist.cons _ (List.Sublist.cons _ ((List.sublist_append_right _ _).trans (List.sublist_append_right _ _))))) (fun v hv => ?_)
                  subst hv
                  rw [hF]
                  refine zv_go rfl rfl (st' := [.int 0]) rfl (kc' := kc) rfl (ns' := ns) rfl ?_
                  refine zv_istore C dL_law_289 291 rfl [(18, .int 0), (0, .ref sc), (1, .ref a), (2, .ref (s 0)), (3, .int (nI ti)), (4, .int x), (5, .long (dgM n b m0 m1 m2 m3 m5 m6 m7 r y)), (7, .int (nI n)), (10, .int (nI mc)), (11, .int ms), (12, .int (nI p)), (13, .int (nI (cnb (fun q => fl m0 (nI p) 16 (m0 q)) j))), (14, .int (nI (wc m0 m3 p j))), (15, .int (mW m0 (sol n m0 m1 m2 m3 m5 r).1 (m3 p) p j)), (16, .int (zb (io n r m0 m1 m2 m3 m5 p j))), (17, .int (nI j))] (by decide) rfl ?_
                  refine zv_iload C dL_law_291 293 rfl 11 rfl ?_
                  refine zv_iload C dL_law_293 295 rfl 0 rfl ?_
                  refine zv_if_eq C dL_law_295 298 302 rfl (by decide) (fun _ => ?_) (fun c => absurd rfl c)
                  refine zv_iconst (v := 0) C dL_law_302 303 rfl (by decide) ?_
                  refine zv_iadd (v := (nI (cnb (fun q => fl m0 (nI p) 16 (m0 q)) (j + 1)))) C dL_law_303 304 rfl (by rw [hab]; exact Int32.add_zero _) ?_
                  refine zv_istore C dL_law_304 306 rfl [(13, .int (nI (cnb (fun q => fl m0 (nI p) 16 (m0 q)) (j + 1)))), (18, .int 0), (0, .ref sc), (1, .ref a), (2, .ref (s 0)), (3, .int (nI ti)), (4, .int x), (5, .long (dgM n b m0 m1 m2 m3 m5 m6 m7 r y)), (7, .int (nI n)), (10, .int (nI mc)), (11, .int ms), (12, .int (nI p)), (14, .int (nI (wc m0 m3 p j))), (15, .int (mW m0 (sol n m0 m1 m2 m3 m5 r).1 (m3 p) p j)), (16, .int (zb (io n r m0 m1 m2 m3 m5 p j))), (17, .int (nI j))] (by decide) rfl ?_
                  refine zv_iload C dL_law_306 308 rfl 12 rfl ?_
                  refine zv_iload C dL_law_308 310 rfl 1 rfl ?_
                  refine zv_if_eq C dL_law_310 313 326 rfl (by decide) (fun _ => ?_) (fun c => absurd rfl c)
                  refine zv_iconst (v := 0) C dL_law_326 327 rfl (by decide) ?_
                  refine zv_iadd (v := (nI (wc m0 m3 p (j + 1)))) C dL_law_327 328 rfl (by rw [hw1]; exact Int32.add_zero _) ?_
                  refine zv_istore C dL_law_328 330 rfl [(14, .int (nI (wc m0 m3 p (j + 1)))), (13, .int (nI (cnb (fun q => fl m0 (nI p) 16 (m0 q)) (j + 1)))), (18, .int 0), (0, .ref sc), (1, .ref a), (2, .ref (s 0)), (3, .int (nI ti)), (4, .int x), (5, .long (dgM n b m0 m1 m2 m3 m5 m6 m7 r y)), (7, .int (nI n)), (10, .int (nI mc)), (11, .int ms), (12, .int (nI p)), (15, .int (mW m0 (sol n m0 m1 m2 m3 m5 r).1 (m3 p) p j)), (16, .int (zb (io n r m0 m1 m2 m3 m5 p j))), (17, .int (nI j))] (by decide) rfl ?_
                  refine zv_aload_n C dL_law_330 331 rfl 4 rfl ?_
                  refine zv_iload C dL_law_331 333 rfl 12 rfl ?_
                  refine zv_iload C dL_law_333 335 rfl 15 rfl ?_
                  have hsy := fc_sym hD hn16 hp2 hj2
                  have hmp := mo_end hD hn16 hp2
                  have hmj := mo_end hD hn16 hj2
                  rcases fc_mo hD hn16 hp2 hj2 with ⟨hm, hmo⟩ | ⟨t, ht, hm, hmo, hrt⟩
                  · -- no meeting
                    refine zn_callRV (rest := []) C zn_TB zn_TE (zn_ofR (w_meeting l D hR p j hp2 hj2)) (cwV 2 C.1.2.2.2.2 gL_law_X1_meeting rfl rfl rfl (by decide +kernel) ⟨Nat.le_of_ble_eq_true rfl, Nat.le_of_ble_eq_true rfl⟩) dL_law_335 338 rfl (ci := 1) rfl 0 hrc rfl rfl (Nat.le_of_ble_eq_true rfl) ⟨(by show kc + 0 ≤ 600130; omega), (by show ns + 0 ≤ 7301079; omega)⟩ [0, 1] rfl (List.Sublist.cons _ (List.Sublist.cons _ (List.Sublist.cons _ ((List.sublist_append_right _ _).trans (List.sublist_append_right _ _))))) (fun v hv => ?_)
                    subst hv
                    rw [hm]
                    refine zv_go rfl rfl (st' := [.int (-1 : Int32)]) rfl (kc' := kc) rfl (ns' := ns) rfl ?_
                    refine zv_istore C dL_law_338 340 rfl [(19, .int (-1 : Int32)), (14, .int (nI (wc m0 m3 p (j + 1)))), (13, .int (nI (cnb (fun q => fl m0 (nI p) 16 (m0 q)) (j + 1)))), (18, .int 0), (0, .ref sc), (1, .ref a), (2, .ref (s 0)), (3, .int (nI ti)), (4, .int x), (5, .long (dgM n b m0 m1 m2 m3 m5 m6 m7 r y)), (7, .int (nI n)), (10, .int (nI mc)), (11, .int ms), (12, .int (nI p)), (15, .int (mW m0 (sol n m0 m1 m2 m3 m5 r).1 (m3 p) p j)), (16, .int (zb (io n r m0 m1 m2 m3 m5 p j))), (17, .int (nI j))] (by decide) rfl ?_
                    refine zv_iload C dL_law_340 342 rfl 3 rfl ?_
                    refine zv_if_eq C dL_law_342 345 393 rfl (by decide) (fun _ => ?_) (fun c => absurd rfl c)
                    refine zv_iload C dL_law_393 395 rfl 0 rfl ?_
                    refine zv_aload_n C dL_law_395 396 rfl 5 rfl ?_
                    refine zv_iload C dL_law_396 398 rfl 16 rfl ?_
                    refine zv_iload C dL_law_398 400 rfl 13 rfl ?_
                    refine zn_callRV (rest := [.int (-1 : Int32)]) C zn_TB zn_TE (zn_ofR (w_meeting l D hR j p hj2 hp2)) (cwV 2 C.1.2.2.2.2 gL_law_X1_meeting rfl rfl rfl (by decide +kernel) ⟨Nat.le_of_ble_eq_true rfl, Nat.le_of_ble_eq_true rfl⟩) dL_law_400 403 rfl (ci := 1) rfl 0 hrc rfl rfl (Nat.le_of_ble_eq_true rfl) ⟨(by show kc + 0 ≤ 600130; omega), (by show ns + 0 ≤ 7301079; omega)⟩ [0, 1] rfl (List.Sublist.cons _ (List.Sublist.cons _ (List.Sublist.cons _ ((List.sublist_append_right _ _).trans (List.sublist_append_right _ _))))) (fun v hv => ?_)
                    subst hv
                    rw [hsy, hm]
                    refine zv_go rfl rfl (st' := [.int (-1 : Int32), .int (-1 : Int32)]) rfl (kc' := kc) rfl (ns' := ns) rfl ?_
                    refine zv_icmp_ne C dL_law_403 406 462 rfl (by decide) (fun c => absurd c (fun c => c rfl)) (fun _ => ?_)
                    refine zv_iload C dL_law_406 408 rfl 0 rfl ?_
                    refine zv_if_ge C dL_law_408 411 415 rfl (by decide) (fun c => absurd c (by decide)) (fun _ => ?_)
                    refine zv_iconst (v := 1) C dL_law_411 412 rfl (by decide) ?_
                    refine zv_goto C dL_law_412 416 (by decide) ?_
                    refine zv_aload_n C dL_law_416 417 rfl 5 rfl ?_
                    refine zv_iload C dL_law_417 419 rfl 13 rfl ?_
                    refine zn_callRV (rest := [.int 1]) C zn_TB zn_TE (zn_ofR (w_mouthOf l D hR p hp2)) (cwV 1 C.1.2.2.2.2 gL_law_X1_mouthOf rfl rfl rfl (by decide +kernel) ⟨Nat.le_of_ble_eq_true rfl, Nat.le_of_ble_eq_true rfl⟩) dL_law_419 422 rfl (ci := 1) rfl 0 hrc rfl rfl (Nat.le_of_ble_eq_true rfl) ⟨(by show kc + 0 ≤ 600130; omega), (by show ns + 0 ≤ 7301079; omega)⟩ [0, 1] rfl (List.Sublist.cons _ (List.Sublist.cons _ (List.Sublist.cons _ ((List.sublist_append_right _ _).trans (List.sublist_append_right _ _))))) (fun v hv => ?_)
                    subst hv
                    refine zv_go rfl rfl (st' := [.int (nI (mo m0 16 p)), .int 1]) rfl (kc' := kc) rfl (ns' := ns) rfl ?_
                    refine zv_aload_n C dL_law_422 423 rfl 5 rfl ?_
                    refine zv_iload C dL_law_423 425 rfl 16 rfl ?_
                    refine zn_callRV (rest := [.int (nI (mo m0 16 p)), .int 1]) C zn_TB zn_TE (zn_ofR (w_mouthOf l D hR j hj2)) (cwV 1 C.1.2.2.2.2 gL_law_X1_mouthOf rfl rfl rfl (by decide +kernel) ⟨Nat.le_of_ble_eq_true rfl, Nat.le_of_ble_eq_true rfl⟩) dL_law_425 428 rfl (ci := 1) rfl 0 hrc rfl rfl (Nat.le_of_ble_eq_true rfl) ⟨(by show kc + 0 ≤ 600130; omega), (by show ns + 0 ≤ 7301079; omega)⟩ [0, 1] rfl (List.Sublist.cons _ (List.Sublist.cons _ (List.Sublist.cons _ ((List.sublist_append_right _ _).trans (List.sublist_append_right _ _))))) (fun v hv => ?_)
                    subst hv
                    refine zv_go rfl rfl (st' := [.int (nI (mo m0 16 j)), .int (nI (mo m0 16 p)), .int 1]) rfl (kc' := kc) rfl (ns' := ns) rfl ?_
                    refine zv_icmp_eq C dL_law_428 431 435 rfl (by decide) (fun c => absurd c (fun z => hmo (nI_inj (by omega) (by omega) z))) (fun _ => ?_)
                    refine zv_iconst (v := 1) C dL_law_431 432 rfl (by decide) ?_
                    refine zv_goto C dL_law_432 436 (by decide) ?_
                    refine zv_icmp_ne C dL_law_436 439 462 rfl (by decide) (fun c => absurd c (fun c => c rfl)) (fun _ => ?_)
                    refine zv_iload C dL_law_439 441 rfl 0 rfl ?_
                    refine zv_if_lt C dL_law_441 444 464 rfl (by decide) (fun _ => ?_) (fun c => absurd (by decide) c)
                    refine zv_aload_n C dL_law_464 465 rfl 5 rfl ?_
                    refine zv_iload C dL_law_465 467 rfl 16 rfl ?_
                    refine zn_callRV (rest := []) C zn_TB zn_TE (zn_ofR (w_leadsTo l D hR j hj2)) (cwV 1 C.1.2.2.2.2 gL_law_X1_leadsTo rfl rfl rfl (by decide +kernel) ⟨Nat.le_of_ble_eq_true rfl, Nat.le_of_ble_eq_true rfl⟩) dL_law_467 470 rfl (ci := 1) rfl 0 hrc rfl rfl (Nat.le_of_ble_eq_true rfl) ⟨(by show kc + 0 ≤ 600130; omega), (by show ns + 0 ≤ 7301079; omega)⟩ [0, 1] rfl (List.Sublist.cons _ (List.Sublist.cons _ (List.Sublist.cons _ ((List.sublist_append_right _ _).trans (List.sublist_append_right _ _))))) (fun v hv => ?_)
                    subst hv
                    refine zv_go rfl rfl (st' := [.int (m0 j)]) rfl (kc' := kc) rfl (ns' := ns) rfl ?_
                    refine zv_iload C dL_law_470 472 rfl 13 rfl ?_
                    refine zv_icmp_eq C dL_law_472 475 478 rfl (by decide) (fun c => absurd c hnl) (fun _ => ?_)
                    refine zv_goto C dL_law_475 554 (by decide) ?_
                    refine zv_iinc (v := (nI (j + 1))) C dL_law_554 557 rfl [(17, .int (nI (j + 1))), (19, .int (-1 : Int32)), (14, .int (nI (wc m0 m3 p (j + 1)))), (13, .int (nI (cnb (fun q => fl m0 (nI p) 16 (m0 q)) (j + 1)))), (18, .int 0), (0, .ref sc), (1, .ref a), (2, .ref (s 0)), (3, .int (nI ti)), (4, .int x), (5, .long (dgM n b m0 m1 m2 m3 m5 m6 m7 r y)), (7, .int (nI n)), (10, .int (nI mc)), (11, .int ms), (12, .int (nI p)), (15, .int (mW m0 (sol n m0 m1 m2 m3 m5 r).1 (m3 p) p j)), (16, .int (zb (io n r m0 m1 m2 m3 m5 p j)))] 16 rfl (nI_1 j) (by decide) rfl ?_
                    refine zv_goto C dL_law_557 274 (by decide) ?_
                    refine zv_go rfl (lv' := [(17, .int (nI (j + 1))), (19, .int (-1 : Int32)), (14, .int (nI (wc m0 m3 p (j + 1)))), (13, .int (nI (cnb (fun q => fl m0 (nI p) 16 (m0 q)) (j + 1)))), (18, .int 0), (0, .ref sc), (1, .ref a), (2, .ref (s 0)), (3, .int (nI ti)), (4, .int x), (5, .long (dgM n b m0 m1 m2 m3 m5 m6 m7 r y)), (7, .int (nI n)), (10, .int (nI mc)), (11, .int ms), (12, .int (nI p)), (15, .int (mW m0 (sol n m0 m1 m2 m3 m5 r).1 (m3 p) p (j + 1))), (16, .int (zb (io n r m0 m1 m2 m3 m5 p (j + 1))))]) (by rw [hwt, hoe]) rfl rfl rfl ?_
                    refine zv_sub [5, 6, 7, 8, 9, 10, 11, 12, 13, 14, 3, 2, 15, 16, 0] (lv' := [(0, .ref sc), (1, .ref a), (2, .ref (s 0)), (3, .int (nI ti)), (4, .int x), (5, .long (dgM n b m0 m1 m2 m3 m5 m6 m7 r y)), (7, .int (nI n)), (10, .int (nI mc)), (11, .int ms), (12, .int (nI p)), (13, .int (nI (cnb (fun q => fl m0 (nI p) 16 (m0 q)) (j + 1)))), (14, .int (nI (wc m0 m3 p (j + 1)))), (15, .int (mW m0 (sol n m0 m1 m2 m3 m5 r).1 (m3 p) p (j + 1))), (16, .int (zb (io n r m0 m1 m2 m3 m5 p (j + 1)))), (17, .int (nI (j + 1)))]) rfl ?_
                    exact ih_IL (j + 1) (by omega) (by omega)
                  · -- a meeting
                    refine zn_callRV (rest := []) C zn_TB zn_TE (zn_ofR (w_meeting l D hR p j hp2 hj2)) (cwV 2 C.1.2.2.2.2 gL_law_X1_meeting rfl rfl rfl (by decide +kernel) ⟨Nat.le_of_ble_eq_true rfl, Nat.le_of_ble_eq_true rfl⟩) dL_law_335 338 rfl (ci := 1) rfl 0 hrc rfl rfl (Nat.le_of_ble_eq_true rfl) ⟨(by show kc + 0 ≤ 600130; omega), (by show ns + 0 ≤ 7301079; omega)⟩ [0, 1] rfl (List.Sublist.cons _ (List.Sublist.cons _ (List.Sublist.cons _ ((List.sublist_append_right _ _).trans (List.sublist_append_right _ _))))) (fun v hv => ?_)
                    subst hv
                    rw [hm]
                    refine zv_go rfl rfl (st' := [.int (nI t)]) rfl (kc' := kc) rfl (ns' := ns) rfl ?_
                    refine zv_istore C dL_law_338 340 rfl [(19, .int (nI t)), (14, .int (nI (wc m0 m3 p (j + 1)))), (13, .int (nI (cnb (fun q => fl m0 (nI p) 16 (m0 q)) (j + 1)))), (18, .int 0), (0, .ref sc), (1, .ref a), (2, .ref (s 0)), (3, .int (nI ti)), (4, .int x), (5, .long (dgM n b m0 m1 m2 m3 m5 m6 m7 r y)), (7, .int (nI n)), (10, .int (nI mc)), (11, .int ms), (12, .int (nI p)), (15, .int (mW m0 (sol n m0 m1 m2 m3 m5 r).1 (m3 p) p j)), (16, .int (zb (io n r m0 m1 m2 m3 m5 p j))), (17, .int (nI j))] (by decide) rfl ?_
                    refine zv_iload C dL_law_340 342 rfl 3 rfl ?_
                    refine zv_if_eq C dL_law_342 345 393 rfl (by decide) (fun _ => ?_) (fun c => absurd rfl c)
                    refine zv_iload C dL_law_393 395 rfl 0 rfl ?_
                    refine zv_aload_n C dL_law_395 396 rfl 5 rfl ?_
                    refine zv_iload C dL_law_396 398 rfl 16 rfl ?_
                    refine zv_iload C dL_law_398 400 rfl 13 rfl ?_
                    refine zn_callRV (rest := [.int (nI t)]) C zn_TB zn_TE (zn_ofR (w_meeting l D hR j p hj2 hp2)) (cwV 2 C.1.2.2.2.2 gL_law_X1_meeting rfl rfl rfl (by decide +kernel) ⟨Nat.le_of_ble_eq_true rfl, Nat.le_of_ble_eq_true rfl⟩) dL_law_400 403 rfl (ci := 1) rfl 0 hrc rfl rfl (Nat.le_of_ble_eq_true rfl) ⟨(by show kc + 0 ≤ 600130; omega), (by show ns + 0 ≤ 7301079; omega)⟩ [0, 1] rfl (List.Sublist.cons _ (List.Sublist.cons _ (List.Sublist.cons _ ((List.sublist_append_right _ _).trans (List.sublist_append_right _ _))))) (fun v hv => ?_)
                    subst hv
                    rw [hsy, hm]
                    refine zv_go rfl rfl (st' := [.int (nI t), .int (nI t)]) rfl (kc' := kc) rfl (ns' := ns) rfl ?_
                    refine zv_icmp_ne C dL_law_403 406 462 rfl (by decide) (fun c => absurd c (fun c => c rfl)) (fun _ => ?_)
                    refine zv_iload C dL_law_406 408 rfl 0 rfl ?_
                    refine zv_if_ge C dL_law_408 411 415 rfl (by decide) (fun _ => ?_) (fun c => absurd (Int32.not_lt.mp (nI_nneg (by omega))) c)
                    refine zv_iconst (v := 0) C dL_law_415 416 rfl (by decide) ?_
                    refine zv_aload_n C dL_law_416 417 rfl 5 rfl ?_
                    refine zv_iload C dL_law_417 419 rfl 13 rfl ?_
                    refine zn_callRV (rest := [.int 0]) C zn_TB zn_TE (zn_ofR (w_mouthOf l D hR p hp2)) (cwV 1 C.1.2.2.2.2 gL_law_X1_mouthOf rfl rfl rfl (by decide +kernel) ⟨Nat.le_of_ble_eq_true rfl, Nat.le_of_ble_eq_true rfl⟩) dL_law_419 422 rfl (ci := 1) rfl 0 hrc rfl rfl (Nat.le_of_ble_eq_true rfl) ⟨(by show kc + 0 ≤ 600130; omega), (by show ns + 0 ≤ 7301079; omega)⟩ [0, 1] rfl (List.Sublist.cons _ (List.Sublist.cons _ (List.Sublist.cons _ ((List.sublist_append_right _ _).trans (List.sublist_append_right _ _))))) (fun v hv => ?_)
                    subst hv
                    refine zv_go rfl rfl (st' := [.int (nI (mo m0 16 p)), .int 0]) rfl (kc' := kc) rfl (ns' := ns) rfl ?_
                    refine zv_aload_n C dL_law_422 423 rfl 5 rfl ?_
                    refine zv_iload C dL_law_423 425 rfl 16 rfl ?_
                    refine zn_callRV (rest := [.int (nI (mo m0 16 p)), .int 0]) C zn_TB zn_TE (zn_ofR (w_mouthOf l D hR j hj2)) (cwV 1 C.1.2.2.2.2 gL_law_X1_mouthOf rfl rfl rfl (by decide +kernel) ⟨Nat.le_of_ble_eq_true rfl, Nat.le_of_ble_eq_true rfl⟩) dL_law_425 428 rfl (ci := 1) rfl 0 hrc rfl rfl (Nat.le_of_ble_eq_true rfl) ⟨(by show kc + 0 ≤ 600130; omega), (by show ns + 0 ≤ 7301079; omega)⟩ [0, 1] rfl (List.Sublist.cons _ (List.Sublist.cons _ (List.Sublist.cons _ ((List.sublist_append_right _ _).trans (List.sublist_append_right _ _))))) (fun v hv => ?_)
                    subst hv
                    refine zv_go rfl rfl (st' := [.int (nI (mo m0 16 j)), .int (nI (mo m0 16 p)), .int 0]) rfl (kc' := kc) rfl (ns' := ns) rfl ?_
                    refine zv_icmp_eq C dL_law_428 431 435 rfl (by decide) (fun _ => ?_) (fun c => absurd (by rw [hmo]) c)
                    refine zv_iconst (v := 0) C dL_law_435 436 rfl (by decide) ?_
                    refine zv_icmp_ne C dL_law_436 439 462 rfl (by decide) (fun c => absurd c (fun c => c rfl)) (fun _ => ?_)
                    refine zv_iload C dL_law_439 441 rfl 0 rfl ?_
                    refine zv_if_lt C dL_law_441 444 464 rfl (by decide) (fun c => absurd c (nI_nneg (by omega))) (fun _ => ?_)
                    refine zv_iload C dL_law_444 446 rfl 0 rfl ?_
                    refine zv_iload C dL_law_446 448 rfl 13 rfl ?_
                    refine zv_icmp_eq C dL_law_448 451 464 rfl (by decide) (fun ct => ?_) (fun ct => ?_)
                    ·
                      refine zv_aload_n C dL_law_464 465 rfl 5 rfl ?_
                      refine zv_iload C dL_law_465 467 rfl 16 rfl ?_
                      refine zn_callRV (rest := []) C zn_TB zn_TE (zn_ofR (w_leadsTo l D hR j hj2)) (cwV 1 C.1.2.2.2.2 gL_law_X1_leadsTo rfl rfl rfl (by decide +kernel) ⟨Nat.le_of_ble_eq_true rfl, Nat.le_of_ble_eq_true rfl⟩) dL_law_467 470 rfl (ci := 1) rfl 0 hrc rfl rfl (Nat.le_of_ble_eq_true rfl) ⟨(by show kc + 0 ≤ 600130; omega), (by show ns + 0 ≤ 7301079; omega)⟩ [0, 1] rfl (List.Sublist.cons _ (List.Sublist.cons _ (List.Sublist.cons _ ((List.sublist_append_right _ _).trans (List.sublist_append_right _ _))))) (fun v hv => ?_)
                      subst hv
                      refine zv_go rfl rfl (st' := [.int (m0 j)]) rfl (kc' := kc) rfl (ns' := ns) rfl ?_
                      refine zv_iload C dL_law_470 472 rfl 13 rfl ?_
                      refine zv_icmp_eq C dL_law_472 475 478 rfl (by decide) (fun c => absurd c hnl) (fun _ => ?_)
                      refine zv_goto C dL_law_475 554 (by decide) ?_
                      refine zv_iinc (v := (nI (j + 1))) C dL_law_554 557 rfl [(17, .int (nI (j + 1))), (19, .int (nI t)), (14, .int (nI (wc m0 m3 p (j + 1)))), (13, .int (nI (cnb (fun q => fl m0 (nI p) 16 (m0 q)) (j + 1)))), (18, .int 0), (0, .ref sc), (1, .ref a), (2, .ref (s 0)), (3, .int (nI ti)), (4, .int x), (5, .long (dgM n b m0 m1 m2 m3 m5 m6 m7 r y)), (7, .int (nI n)), (10, .int (nI mc)), (11, .int ms), (12, .int (nI p)), (15, .int (mW m0 (sol n m0 m1 m2 m3 m5 r).1 (m3 p) p j)), (16, .int (zb (io n r m0 m1 m2 m3 m5 p j)))] 16 rfl (nI_1 j) (by decide) rfl ?_
                      refine zv_goto C dL_law_557 274 (by decide) ?_
                      refine zv_go rfl (lv' := [(17, .int (nI (j + 1))), (19, .int (nI t)), (14, .int (nI (wc m0 m3 p (j + 1)))), (13, .int (nI (cnb (fun q => fl m0 (nI p) 16 (m0 q)) (j + 1)))), (18, .int 0), (0, .ref sc), (1, .ref a), (2, .ref (s 0)), (3, .int (nI ti)), (4, .int x), (5, .long (dgM n b m0 m1 m2 m3 m5 m6 m7 r y)), (7, .int (nI n)), (10, .int (nI mc)), (11, .int ms), (12, .int (nI p)), (15, .int (mW m0 (sol n m0 m1 m2 m3 m5 r).1 (m3 p) p (j + 1))), (16, .int (zb (io n r m0 m1 m2 m3 m5 p (j + 1))))]) (by rw [hwt, hoe]) rfl rfl rfl ?_
                      refine zv_sub [5, 6, 7, 8, 9, 10, 11, 12, 13, 14, 3, 2, 15, 16, 0] (lv' := [(0, .ref sc), (1, .ref a), (2, .ref (s 0)), (3, .int (nI ti)), (4, .int x), (5, .long (dgM n b m0 m1 m2 m3 m5 m6 m7 r y)), (7, .int (nI n)), (10, .int (nI mc)), (11, .int ms), (12, .int (nI p)), (13, .int (nI (cnb (fun q => fl m0 (nI p) 16 (m0 q)) (j + 1)))), (14, .int (nI (wc m0 m3 p (j + 1)))), (15, .int (mW m0 (sol n m0 m1 m2 m3 m5 r).1 (m3 p) p (j + 1))), (16, .int (zb (io n r m0 m1 m2 m3 m5 p (j + 1)))), (17, .int (nI (j + 1)))]) rfl ?_
                      exact ih_IL (j + 1) (by omega) (by omega)
                    ·
                      have hft : fl m0 (nI t) 16 (m0 p) = true := hrt.resolve_left (fun z => ct (by rw [z]))
                      refine zv_aload_n C dL_law_451 452 rfl 5 rfl ?_
                      refine zv_iload C dL_law_452 454 rfl 13 rfl ?_
                      refine zv_iload C dL_law_454 456 rfl 0 rfl ?_
                      refine zn_callRV (rest := []) C zn_TB zn_TE (zn_ofR (w_isAbove l D hR p t hp2 ht)) (cwV 2 C.1.2.2.2.2 gL_law_X1_isAbove rfl rfl rfl (by decide +kernel) ⟨Nat.le_of_ble_eq_true rfl, Nat.le_of_ble_eq_true rfl⟩) dL_law_456 459 rfl (ci := 1) rfl 0 hrc rfl rfl (Nat.le_of_ble_eq_true rfl) ⟨(by show kc + 0 ≤ 600130; omega), (by show ns + 0 ≤ 7301079; omega)⟩ [0, 1] rfl (List.Sublist.cons _ (List.Sublist.cons _ (List.Sublist.cons _ ((List.sublist_append_right _ _).trans (List.sublist_append_right _ _))))) (fun v hv => ?_)
                      subst hv
                      rw [hft]
                      refine zv_go rfl rfl (st' := [.int 1]) rfl (kc' := kc) rfl (ns' := ns) rfl ?_
                      refine zv_if_ne C dL_law_459 462 464 rfl (by decide) (fun _ => ?_) (fun c => absurd c (by decide))
                      refine zv_aload_n C dL_law_464 465 rfl 5 rfl ?_
                      refine zv_iload C dL_law_465 467 rfl 16 rfl ?_
                      refine zn_callRV (rest := []) C zn_TB zn_TE (zn_ofR (w_leadsTo l D hR j hj2)) (cwV 1 C.1.2.2.2.2 gL_law_X1_leadsTo rfl rfl rfl (by decide +kernel) ⟨Nat.le_of_ble_eq_true rfl, Nat.le_of_ble_eq_true rfl⟩) dL_law_467 470 rfl (ci := 1) rfl 0 hrc rfl rfl (Nat.le_of_ble_eq_true rfl) ⟨(by show kc + 0 ≤ 600130; omega), (by show ns + 0 ≤ 7301079; omega)⟩ [0, 1] rfl (List.Sublist.cons _ (List.Sublist.cons _ (List.Sublist.cons _ ((List.sublist_append_right _ _).trans (List.sublist_append_right _ _))))) (fun v hv => ?_)
                      subst hv
                      refine zv_go rfl rfl (st' := [.int (m0 j)]) rfl (kc' := kc) rfl (ns' := ns) rfl ?_
                      refine zv_iload C dL_law_470 472 rfl 13 rfl ?_
                      refine zv_icmp_eq C dL_law_472 475 478 rfl (by decide) (fun c => absurd c hnl) (fun _ => ?_)
                      refine zv_goto C dL_law_475 554 (by decide) ?_
                      refine zv_iinc (v := (nI (j + 1))) C dL_law_554 557 rfl [(17, .int (nI (j + 1))), (19, .int (nI t)), (14, .int (nI (wc m0 m3 p (j + 1)))), (13, .int (nI (cnb (fun q => fl m0 (nI p) 16 (m0 q)) (j + 1)))), (18, .int 0), (0, .ref sc), (1, .ref a), (2, .ref (s 0)), (3, .int (nI ti)), (4, .int x), (5, .long (dgM n b m0 m1 m2 m3 m5 m6 m7 r y)), (7, .int (nI n)), (10, .int (nI mc)), (11, .int ms), (12, .int (nI p)), (15, .int (mW m0 (sol n m0 m1 m2 m3 m5 r).1 (m3 p) p j)), (16, .int (zb (io n r m0 m1 m2 m3 m5 p j)))] 16 rfl (nI_1 j) (by decide) rfl ?_
                      refine zv_goto C dL_law_557 274 (by decide) ?_
                      refine zv_go rfl (lv' := [(17, .int (nI (j + 1))), (19, .int (nI t)), (14, .int (nI (wc m0 m3 p (j + 1)))), (13, .int (nI (cnb (fun q => fl m0 (nI p) 16 (m0 q)) (j + 1)))), (18, .int 0), (0, .ref sc), (1, .ref a), (2, .ref (s 0)), (3, .int (nI ti)), (4, .int x), (5, .long (dgM n b m0 m1 m2 m3 m5 m6 m7 r y)), (7, .int (nI n)), (10, .int (nI mc)), (11, .int ms), (12, .int (nI p)), (15, .int (mW m0 (sol n m0 m1 m2 m3 m5 r).1 (m3 p) p (j + 1))), (16, .int (zb (io n r m0 m1 m2 m3 m5 p (j + 1))))]) (by rw [hwt, hoe]) rfl rfl rfl ?_
                      refine zv_sub [5, 6, 7, 8, 9, 10, 11, 12, 13, 14, 3, 2, 15, 16, 0] (lv' := [(0, .ref sc), (1, .ref a), (2, .ref (s 0)), (3, .int (nI ti)), (4, .int x), (5, .long (dgM n b m0 m1 m2 m3 m5 m6 m7 r y)), (7, .int (nI n)), (10, .int (nI mc)), (11, .int ms), (12, .int (nI p)), (13, .int (nI (cnb (fun q => fl m0 (nI p) 16 (m0 q)) (j + 1)))), (14, .int (nI (wc m0 m3 p (j + 1)))), (15, .int (mW m0 (sol n m0 m1 m2 m3 m5 r).1 (m3 p) p (j + 1))), (16, .int (zb (io n r m0 m1 m2 m3 m5 p (j + 1)))), (17, .int (nI (j + 1)))]) rfl ?_
                      exact ih_IL (j + 1) (by omega) (by omega)
                | true =>
                  have hab : cnb (fun q => fl m0 (nI p) 16 (m0 q)) (j + 1) = cnb (fun q => fl m0 (nI p) 16 (m0 q)) j + 1 := cnb_y (fun q => fl m0 (nI p) 16 (m0 q)) hF
                  have hanti := fl_anti hD hn16 hp2 hj2 hF
                  have hmo : mo m0 16 p = mo m0 16 j := rch_mo hD hn16 hp2 hj2 (Or.inr hF)
                  have hm : fc m0 j 16 (nI p) = nI p := fc_above (by omega) hF
                  have hsy := fc_sym hD hn16 hp2 hj2
                  have hwab := hV.wab hp2 hj2 (Or.inr hF)
                  refine zn_callRV (rest := []) C zn_TB zn_TE (zn_ofR (w_isAbove l D hR j p hj2 hp2)) (cwV 2 C.1.2.2.2.2 gL_law_X1_isAbove rfl rfl rfl (by decide +kernel) ⟨Nat.le_of_ble_eq_true rfl, Nat.le_of_ble_eq_true rfl⟩) dL_law_286 289 rfl (ci := 1) rfl 0 hrc rfl rfl (Nat.le_of_ble_eq_true rfl) ⟨(by show kc + 0 ≤ 600130; omega), (by show ns + 0 ≤ 7301079; omega)⟩ [0, 1] rfl (List.Sublist.cons _ (List.Sublist.cons _ (List.Sublist.cons _ ((List.sublist_append_right _ _).trans (List.sublist_append_right _ _))))) (fun v hv => ?_)
                  subst hv
                  rw [hF]
                  refine zv_go rfl rfl (st' := [.int 1]) rfl (kc' := kc) rfl (ns' := ns) rfl ?_
                  refine zv_istore C dL_law_289 291 rfl [(18, .int 1), (0, .ref sc), (1, .ref a), (2, .ref (s 0)), (3, .int (nI ti)), (4, .int x), (5, .long (dgM n b m0 m1 m2 m3 m5 m6 m7 r y)), (7, .int (nI n)), (10, .int (nI mc)), (11, .int ms), (12, .int (nI p)), (13, .int (nI (cnb (fun q => fl m0 (nI p) 16 (m0 q)) j))), (14, .int (nI (wc m0 m3 p j))), (15, .int (mW m0 (sol n m0 m1 m2 m3 m5 r).1 (m3 p) p j)), (16, .int (zb (io n r m0 m1 m2 m3 m5 p j))), (17, .int (nI j))] (by decide) rfl ?_
                  refine zv_iload C dL_law_291 293 rfl 11 rfl ?_
                  refine zv_iload C dL_law_293 295 rfl 0 rfl ?_
                  refine zv_if_eq C dL_law_295 298 302 rfl (by decide) (fun c => absurd c (by decide)) (fun _ => ?_)
                  refine zv_iconst (v := 1) C dL_law_298 299 rfl (by decide) ?_
                  refine zv_goto C dL_law_299 303 (by decide) ?_
                  refine zv_iadd (v := (nI (cnb (fun q => fl m0 (nI p) 16 (m0 q)) (j + 1)))) C dL_law_303 304 rfl (by rw [hab]; exact nI_1 _) ?_
                  refine zv_istore C dL_law_304 306 rfl [(13, .int (nI (cnb (fun q => fl m0 (nI p) 16 (m0 q)) (j + 1)))), (18, .int 1), (0, .ref sc), (1, .ref a), (2, .ref (s 0)), (3, .int (nI ti)), (4, .int x), (5, .long (dgM n b m0 m1 m2 m3 m5 m6 m7 r y)), (7, .int (nI n)), (10, .int (nI mc)), (11, .int ms), (12, .int (nI p)), (14, .int (nI (wc m0 m3 p j))), (15, .int (mW m0 (sol n m0 m1 m2 m3 m5 r).1 (m3 p) p j)), (16, .int (zb (io n r m0 m1 m2 m3 m5 p j))), (17, .int (nI j))] (by decide) rfl ?_
                  refine zv_iload C dL_law_306 308 rfl 12 rfl ?_
                  refine zv_iload C dL_law_308 310 rfl 1 rfl ?_
                  refine zv_if_eq C dL_law_310 313 326 rfl (by decide) (fun c => absurd c (by decide)) (fun _ => ?_)
                  refine zv_aload_n C dL_law_313 314 rfl 3 rfl ?_
                  refine zv_iload C dL_law_314 316 rfl 15 rfl ?_
                  refine zn_callRV (rest := [.int (nI (wc m0 m3 p j))]) C zn_TB zn_TE (zn_ofR (w_springOf l D hR j hj2)) (cwV 1 C.1.2.2.2.2 gL_law_X1_springOf rfl rfl rfl (by decide +kernel) ⟨Nat.le_of_ble_eq_true rfl, Nat.le_of_ble_eq_true rfl⟩) dL_law_316 319 rfl (ci := 1) rfl 0 hrc rfl rfl (Nat.le_of_ble_eq_true rfl) ⟨(by show kc + 0 ≤ 600130; omega), (by show ns + 0 ≤ 7301079; omega)⟩ [0, 1] rfl (List.Sublist.cons _ (List.Sublist.cons _ (List.Sublist.cons _ ((List.sublist_append_right _ _).trans (List.sublist_append_right _ _))))) (fun v hv => ?_)
                  subst hv
                  refine zv_go rfl rfl (st' := [.int (m3 j), .int (nI (wc m0 m3 p j))]) rfl (kc' := kc) rfl (ns' := ns) rfl ?_
                  have K33 : zv_V pP l eE room_1 sS mM aA bB mT cD Q 27 D vwCl A A (tyS cI cZ cA) ((s 0, .inr (2, [.int r, .int y, .ref (s 1), .ref (s 2)])) :: (s 1, .inl (cA, n, aq pa)) :: (s 2, .inl (cA, b, aq da)) :: (sR cI 6 pa (rP m0 m1 m2 m3 m4 m5) n ++ (sR cI 2 da (rB m6 m7) b ++ w))) kc ns 330 [(13, .int (nI (cnb (fun q => fl m0 (nI p) 16 (m0 q)) (j + 1)))), (18, .int 1), (0, .ref sc), (1, .ref a), (2, .ref (s 0)), (3, .int (nI ti)), (4, .int x), (5, .long (dgM n b m0 m1 m2 m3 m5 m6 m7 r y)), (7, .int (nI n)), (10, .int (nI mc)), (11, .int ms), (12, .int (nI p)), (14, .int (nI (wc m0 m3 p (j + 1)))), (15, .int (mW m0 (sol n m0 m1 m2 m3 m5 r).1 (m3 p) p j)), (16, .int (zb (io n r m0 m1 m2 m3 m5 p j))), (17, .int (nI j))] [] := by
                    refine zv_aload_n C dL_law_330 331 rfl 3 rfl ?_
                    refine zv_iload C dL_law_331 333 rfl 11 rfl ?_
                    refine zv_iload C dL_law_333 335 rfl 15 rfl ?_
                    refine zn_callRV (rest := []) C zn_TB zn_TE (zn_ofR (w_meeting l D hR p j hp2 hj2)) (cwV 2 C.1.2.2.2.2 gL_law_X1_meeting rfl rfl rfl (by decide +kernel) ⟨Nat.le_of_ble_eq_true rfl, Nat.le_of_ble_eq_true rfl⟩) dL_law_335 338 rfl (ci := 1) rfl 0 hrc rfl rfl (Nat.le_of_ble_eq_true rfl) ⟨(by show kc + 0 ≤ 600130; omega), (by show ns + 0 ≤ 7301079; omega)⟩ [0, 1] rfl (List.Sublist.cons _ (List.Sublist.cons _ (List.Sublist.cons _ ((List.sublist_append_right _ _).trans (List.sublist_append_right _ _))))) (fun v hv => ?_)
                    subst hv
                    rw [hm]
                    refine zv_go rfl rfl (st' := [.int (nI p)]) rfl (kc' := kc) rfl (ns' := ns) rfl ?_
                    refine zv_istore C dL_law_338 340 rfl [(19, .int (nI p)), (13, .int (nI (cnb (fun q => fl m0 (nI p) 16 (m0 q)) (j + 1)))), (18, .int 1), (0, .ref sc), (1, .ref a), (2, .ref (s 0)), (3, .int (nI ti)), (4, .int x), (5, .long (dgM n b m0 m1 m2 m3 m5 m6 m7 r y)), (7, .int (nI n)), (10, .int (nI mc)), (11, .int ms), (12, .int (nI p)), (14, .int (nI (wc m0 m3 p (j + 1)))), (15, .int (mW m0 (sol n m0 m1 m2 m3 m5 r).1 (m3 p) p j)), (16, .int (zb (io n r m0 m1 m2 m3 m5 p j))), (17, .int (nI j))] (by decide) rfl ?_
                    refine zv_iload C dL_law_340 342 rfl 2 rfl ?_
                    refine zv_if_eq C dL_law_342 345 393 rfl (by decide) (fun c => absurd c (by decide)) (fun _ => ?_)
                    refine zv_aload_n C dL_law_345 346 rfl 4 rfl ?_
                    refine zv_iload C dL_law_346 348 rfl 12 rfl ?_
                    refine zv_iload C dL_law_348 350 rfl 16 rfl ?_
                    refine zn_callRV (rest := []) C zn_TB zn_TE (zn_ofR (w_isAbove l D hR p j hp2 hj2)) (cwV 2 C.1.2.2.2.2 gL_law_X1_isAbove rfl rfl rfl (by decide +kernel) ⟨Nat.le_of_ble_eq_true rfl, Nat.le_of_ble_eq_true rfl⟩) dL_law_350 353 rfl (ci := 1) rfl 0 hrc rfl rfl (Nat.le_of_ble_eq_true rfl) ⟨(by show kc + 0 ≤ 600130; omega), (by show ns + 0 ≤ 7301079; omega)⟩ [0, 1] rfl (List.Sublist.cons _ (List.Sublist.cons _ (List.Sublist.cons _ ((List.sublist_append_right _ _).trans (List.sublist_append_right _ _))))) (fun v hv => ?_)
                    subst hv
                    rw [hanti]
                    refine zv_go rfl rfl (st' := [.int 0]) rfl (kc' := kc) rfl (ns' := ns) rfl ?_
                    refine zv_if_ne C dL_law_353 356 462 rfl (by decide) (fun c => absurd c (fun c => c rfl)) (fun _ => ?_)
                    refine zv_aload_n C dL_law_356 357 rfl 4 rfl ?_
                    refine zv_iload C dL_law_357 359 rfl 12 rfl ?_
                    refine zn_callRV (rest := []) C zn_TB zn_TE (zn_ofR (w_mouthOf l D hR p hp2)) (cwV 1 C.1.2.2.2.2 gL_law_X1_mouthOf rfl rfl rfl (by decide +kernel) ⟨Nat.le_of_ble_eq_true rfl, Nat.le_of_ble_eq_true rfl⟩) dL_law_359 362 rfl (ci := 1) rfl 0 hrc rfl rfl (Nat.le_of_ble_eq_true rfl) ⟨(by show kc + 0 ≤ 600130; omega), (by show ns + 0 ≤ 7301079; omega)⟩ [0, 1] rfl (List.Sublist.cons _ (List.Sublist.cons _ (List.Sublist.cons _ ((List.sublist_append_right _ _).trans (List.sublist_append_right _ _))))) (fun v hv => ?_)
                    subst hv
                    refine zv_go rfl rfl (st' := [.int (nI (mo m0 16 p))]) rfl (kc' := kc) rfl (ns' := ns) rfl ?_
                    refine zv_aload_n C dL_law_362 363 rfl 4 rfl ?_
                    refine zv_iload C dL_law_363 365 rfl 16 rfl ?_
                    refine zn_callRV (rest := [.int (nI (mo m0 16 p))]) C zn_TB zn_TE (zn_ofR (w_mouthOf l D hR j hj2)) (cwV 1 C.1.2.2.2.2 gL_law_X1_mouthOf rfl rfl rfl (by decide +kernel) ⟨Nat.le_of_ble_eq_true rfl, Nat.le_of_ble_eq_true rfl⟩) dL_law_365 368 rfl (ci := 1) rfl 0 hrc rfl rfl (Nat.le_of_ble_eq_true rfl) ⟨(by show kc + 0 ≤ 600130; omega), (by show ns + 0 ≤ 7301079; omega)⟩ [0, 1] rfl (List.Sublist.cons _ (List.Sublist.cons _ (List.Sublist.cons _ ((List.sublist_append_right _ _).trans (List.sublist_append_right _ _))))) (fun v hv => ?_)
                    subst hv
                    refine zv_go rfl rfl (st' := [.int (nI (mo m0 16 j)), .int (nI (mo m0 16 p))]) rfl (kc' := kc) rfl (ns' := ns) rfl ?_
                    refine zv_icmp_ne C dL_law_368 371 462 rfl (by decide) (fun c => absurd c (fun c => c (by rw [hmo]))) (fun _ => ?_)
                    refine zv_iload C dL_law_371 373 rfl 0 rfl ?_
                    refine zv_iload C dL_law_373 375 rfl 12 rfl ?_
                    refine zv_icmp_ne C dL_law_375 378 462 rfl (by decide) (fun c => absurd c (fun c => c rfl)) (fun _ => ?_)
                    refine zv_aload_n C dL_law_378 379 rfl 4 rfl ?_
                    refine zv_iload C dL_law_379 381 rfl 16 rfl ?_
                    refine zn_callRV (rest := []) C zn_TB zn_TE (zn_ofR (w_waterAt l D hR j hj2)) (cwV 1 C.1.2.2.2.2 gL_law_X1_waterAt rfl rfl rfl (by decide +kernel) ⟨Nat.le_of_ble_eq_true rfl, Nat.le_of_ble_eq_true rfl⟩) dL_law_381 384 rfl (ci := 1) rfl 0 hrc rfl rfl (Nat.le_of_ble_eq_true rfl) ⟨(by show kc + 0 ≤ 600130; omega), (by show ns + 0 ≤ 7301079; omega)⟩ [0, 1] rfl (List.Sublist.cons _ (List.Sublist.cons _ (List.Sublist.cons _ ((List.sublist_append_right _ _).trans (List.sublist_append_right _ _))))) (fun v hv => ?_)
                    subst hv
                    refine zv_go rfl rfl (st' := [.int ((sol n m0 m1 m2 m3 m5 r).1 j)]) rfl (kc' := kc) rfl (ns' := ns) rfl ?_
                    refine zv_aload_n C dL_law_384 385 rfl 4 rfl ?_
                    refine zv_iload C dL_law_385 387 rfl 12 rfl ?_
                    refine zn_callRV (rest := [.int ((sol n m0 m1 m2 m3 m5 r).1 j)]) C zn_TB zn_TE (zn_ofR (w_waterAt l D hR p hp2)) (cwV 1 C.1.2.2.2.2 gL_law_X1_waterAt rfl rfl rfl (by decide +kernel) ⟨Nat.le_of_ble_eq_true rfl, Nat.le_of_ble_eq_true rfl⟩) dL_law_387 390 rfl (ci := 1) rfl 0 hrc rfl rfl (Nat.le_of_ble_eq_true rfl) ⟨(by show kc + 0 ≤ 600130; omega), (by show ns + 0 ≤ 7301079; omega)⟩ [0, 1] rfl (List.Sublist.cons _ (List.Sublist.cons _ (List.Sublist.cons _ ((List.sublist_append_right _ _).trans (List.sublist_append_right _ _))))) (fun v hv => ?_)
                    subst hv
                    refine zv_go rfl rfl (st' := [.int ((sol n m0 m1 m2 m3 m5 r).1 p), .int ((sol n m0 m1 m2 m3 m5 r).1 j)]) rfl (kc' := kc) rfl (ns' := ns) rfl ?_
                    refine zv_icmp_gt C dL_law_390 393 462 rfl (by decide) (fun c => absurd c hwab) (fun _ => ?_)
                    refine zv_iload C dL_law_393 395 rfl 0 rfl ?_
                    refine zv_aload_n C dL_law_395 396 rfl 4 rfl ?_
                    refine zv_iload C dL_law_396 398 rfl 16 rfl ?_
                    refine zv_iload C dL_law_398 400 rfl 12 rfl ?_
                    refine zn_callRV (rest := [.int (nI p)]) C zn_TB zn_TE (zn_ofR (w_meeting l D hR j p hj2 hp2)) (cwV 2 C.1.2.2.2.2 gL_law_X1_meeting rfl rfl rfl (by decide +kernel) ⟨Nat.le_of_ble_eq_true rfl, Nat.le_of_ble_eq_true rfl⟩) dL_law_400 403 rfl (ci := 1) rfl 0 hrc rfl rfl (Nat.le_of_ble_eq_true rfl) ⟨(by show kc + 0 ≤ 600130; omega), (by show ns + 0 ≤ 7301079; omega)⟩ [0, 1] rfl (List.Sublist.cons _ (List.Sublist.cons _ (List.Sublist.cons _ ((List.sublist_append_right _ _).trans (List.sublist_append_right _ _))))) (fun v hv => ?_)
                    subst hv
                    rw [hsy, hm]
                    refine zv_go rfl rfl (st' := [.int (nI p), .int (nI p)]) rfl (kc' := kc) rfl (ns' := ns) rfl ?_
                    refine zv_icmp_ne C dL_law_403 406 462 rfl (by decide) (fun c => absurd c (fun c => c rfl)) (fun _ => ?_)
                    refine zv_iload C dL_law_406 408 rfl 0 rfl ?_
                    refine zv_if_ge C dL_law_408 411 415 rfl (by decide) (fun _ => ?_) (fun c => absurd (Int32.not_lt.mp (nI_nneg (by omega))) c)
                    refine zv_iconst (v := 0) C dL_law_415 416 rfl (by decide) ?_
                    refine zv_aload_n C dL_law_416 417 rfl 4 rfl ?_
                    refine zv_iload C dL_law_417 419 rfl 12 rfl ?_
                    refine zn_callRV (rest := [.int 0]) C zn_TB zn_TE (zn_ofR (w_mouthOf l D hR p hp2)) (cwV 1 C.1.2.2.2.2 gL_law_X1_mouthOf rfl rfl rfl (by decide +kernel) ⟨Nat.le_of_ble_eq_true rfl, Nat.le_of_ble_eq_true rfl⟩) dL_law_419 422 rfl (ci := 1) rfl 0 hrc rfl rfl (Nat.le_of_ble_eq_true rfl) ⟨(by show kc + 0 ≤ 600130; omega), (by show ns + 0 ≤ 7301079; omega)⟩ [0, 1] rfl (List.Sublist.cons _ (List.Sublist.cons _ (List.Sublist.cons _ ((List.sublist_append_right _ _).trans (List.sublist_append_right _ _))))) (fun v hv => ?_)
                    subst hv
                    refine zv_go rfl rfl (st' := [.int (nI (mo m0 16 p)), .int 0]) rfl (kc' := kc) rfl (ns' := ns) rfl ?_
                    refine zv_aload_n C dL_law_422 423 rfl 4 rfl ?_
                    refine zv_iload C dL_law_423 425 rfl 16 rfl ?_
                    refine zn_callRV (rest := [.int (nI (mo m0 16 p)), .int 0]) C zn_TB zn_TE (zn_ofR (w_mouthOf l D hR j hj2)) (cwV 1 C.1.2.2.2.2 gL_law_X1_mouthOf rfl rfl rfl (by decide +kernel) ⟨Nat.le_of_ble_eq_true rfl, Nat.le_of_ble_eq_true rfl⟩) dL_law_425 428 rfl (ci := 1) rfl 0 hrc rfl rfl (Nat.le_of_ble_eq_true rfl) ⟨(by show kc + 0 ≤ 600130; omega), (by show ns + 0 ≤ 7301079; omega)⟩ [0, 1] rfl (List.Sublist.cons _ (List.Sublist.cons _ (List.Sublist.cons _ ((List.sublist_append_right _ _).trans (List.sublist_append_right _ _))))) (fun v hv => ?_)
                    subst hv
                    refine zv_go rfl rfl (st' := [.int (nI (mo m0 16 j)), .int (nI (mo m0 16 p)), .int 0]) rfl (kc' := kc) rfl (ns' := ns) rfl ?_
                    refine zv_icmp_eq C dL_law_428 431 435 rfl (by decide) (fun _ => ?_) (fun c => absurd (by rw [hmo]) c)
                    refine zv_iconst (v := 0) C dL_law_435 436 rfl (by decide) ?_
                    refine zv_icmp_ne C dL_law_436 439 462 rfl (by decide) (fun c => absurd c (fun c => c rfl)) (fun _ => ?_)
                    refine zv_iload C dL_law_439 441 rfl 0 rfl ?_
                    refine zv_if_lt C dL_law_441 444 464 rfl (by decide) (fun c => absurd c (nI_nneg (by omega))) (fun _ => ?_)
                    refine zv_iload C dL_law_444 446 rfl 0 rfl ?_
                    refine zv_iload C dL_law_446 448 rfl 12 rfl ?_
                    refine zv_icmp_eq C dL_law_448 451 464 rfl (by decide) (fun _ => ?_) (fun c => absurd rfl c)
                    refine zv_aload_n C dL_law_464 465 rfl 4 rfl ?_
                    refine zv_iload C dL_law_465 467 rfl 16 rfl ?_
                    refine zn_callRV (rest := []) C zn_TB zn_TE (zn_ofR (w_leadsTo l D hR j hj2)) (cwV 1 C.1.2.2.2.2 gL_law_X1_leadsTo rfl rfl rfl (by decide +kernel) ⟨Nat.le_of_ble_eq_true rfl, Nat.le_of_ble_eq_true rfl⟩) dL_law_467 470 rfl (ci := 1) rfl 0 hrc rfl rfl (Nat.le_of_ble_eq_true rfl) ⟨(by show kc + 0 ≤ 600130; omega), (by show ns + 0 ≤ 7301079; omega)⟩ [0, 1] rfl (List.Sublist.cons _ (List.Sublist.cons _ (List.Sublist.cons _ ((List.sublist_append_right _ _).trans (List.sublist_append_right _ _))))) (fun v hv => ?_)
                    subst hv
                    refine zv_go rfl rfl (st' := [.int (m0 j)]) rfl (kc' := kc) rfl (ns' := ns) rfl ?_
                    refine zv_iload C dL_law_470 472 rfl 12 rfl ?_
                    refine zv_icmp_eq C dL_law_472 475 478 rfl (by decide) (fun cl => ?_) (fun cl => ?_)
                    · -- it leads here
                      have hwt : mW m0 (sol n m0 m1 m2 m3 m5 r).1 (m3 p) p (j + 1) = mW m0 (sol n m0 m1 m2 m3 m5 r).1 (m3 p) p j + (sol n m0 m1 m2 m3 m5 r).1 j := mW_y _ _ _ cl
                      refine zv_iload C dL_law_478 480 rfl 14 rfl ?_
                      refine zv_aload_n C dL_law_480 481 rfl 4 rfl ?_
                      refine zv_iload C dL_law_481 483 rfl 16 rfl ?_
                      refine zn_callRV (rest := [.int (mW m0 (sol n m0 m1 m2 m3 m5 r).1 (m3 p) p j)]) C zn_TB zn_TE (zn_ofR (w_waterAt l D hR j hj2)) (cwV 1 C.1.2.2.2.2 gL_law_X1_waterAt rfl rfl rfl (by decide +kernel) ⟨Nat.le_of_ble_eq_true rfl, Nat.le_of_ble_eq_true rfl⟩) dL_law_483 486 rfl (ci := 1) rfl 0 hrc rfl rfl (Nat.le_of_ble_eq_true rfl) ⟨(by show kc + 0 ≤ 600130; omega), (by show ns + 0 ≤ 7301079; omega)⟩ [0, 1] rfl (List.Sublist.cons _ (List.Sublist.cons _ (List.Sublist.cons _ ((List.sublist_append_right _ _).trans (List.sublist_append_right _ _))))) (fun v hv => ?_)
                      subst hv
                      refine zv_go rfl rfl (st' := [.int ((sol n m0 m1 m2 m3 m5 r).1 j), .int (mW m0 (sol n m0 m1 m2 m3 m5 r).1 (m3 p) p j)]) rfl (kc' := kc) rfl (ns' := ns) rfl ?_
                      refine zv_iadd (v := (mW m0 (sol n m0 m1 m2 m3 m5 r).1 (m3 p) p (j + 1))) C dL_law_486 487 rfl hwt.symm ?_
                      refine zv_istore C dL_law_487 489 rfl [(15, .int (mW m0 (sol n m0 m1 m2 m3 m5 r).1 (m3 p) p (j + 1))), (19, .int (nI p)), (13, .int (nI (cnb (fun q => fl m0 (nI p) 16 (m0 q)) (j + 1)))), (18, .int 1), (0, .ref sc), (1, .ref a), (2, .ref (s 0)), (3, .int (nI ti)), (4, .int x), (5, .long (dgM n b m0 m1 m2 m3 m5 m6 m7 r y)), (7, .int (nI n)), (10, .int (nI mc)), (11, .int ms), (12, .int (nI p)), (14, .int (nI (wc m0 m3 p (j + 1)))), (16, .int (zb (io n r m0 m1 m2 m3 m5 p j))), (17, .int (nI j))] (by decide) rfl ?_
                      refine zv_iload C dL_law_489 491 rfl 15 rfl ?_
                      refine zv_aload_n C dL_law_491 492 rfl 5 rfl ?_
                      refine zv_iload C dL_law_492 494 rfl 16 rfl ?_
                      refine zn_callRV (rest := [.int (zb (io n r m0 m1 m2 m3 m5 p j))]) C zn_TB zn_TE (zn_ofR (w_nameAt l D hR j hj2)) (cwV 1 C.1.2.2.2.2 gL_law_X1_nameAt rfl rfl rfl (by decide +kernel) ⟨Nat.le_of_ble_eq_true rfl, Nat.le_of_ble_eq_true rfl⟩) dL_law_494 497 rfl (ci := 1) rfl 0 hrc rfl rfl (Nat.le_of_ble_eq_true rfl) ⟨(by show kc + 0 ≤ 600130; omega), (by show ns + 0 ≤ 7301079; omega)⟩ [0, 1] rfl (List.Sublist.cons _ (List.Sublist.cons _ (List.Sublist.cons _ ((List.sublist_append_right _ _).trans (List.sublist_append_right _ _))))) (fun v hv => ?_)
                      subst hv
                      refine zv_go rfl rfl (st' := [.int (nmS n m0 m1 m2 m3 m5 r j), .int (zb (io n r m0 m1 m2 m3 m5 p j))]) rfl (kc' := kc) rfl (ns' := ns) rfl ?_
                      have K52 : zv_V pP l eE room_1 sS mM aA bB mT cD Q 27 D vwCl A A (tyS cI cZ cA) ((s 0, .inr (2, [.int r, .int y, .ref (s 1), .ref (s 2)])) :: (s 1, .inl (cA, n, aq pa)) :: (s 2, .inl (cA, b, aq da)) :: (sR cI 6 pa (rP m0 m1 m2 m3 m4 m5) n ++ (sR cI 2 da (rB m6 m7) b ++ w))) kc ns 523 [(15, .int (mW m0 (sol n m0 m1 m2 m3 m5 r).1 (m3 p) p (j + 1))), (19, .int (nI p)), (13, .int (nI (cnb (fun q => fl m0 (nI p) 16 (m0 q)) (j + 1)))), (18, .int 1), (0, .ref sc), (1, .ref a), (2, .ref (s 0)), (3, .int (nI ti)), (4, .int x), (5, .long (dgM n b m0 m1 m2 m3 m5 m6 m7 r y)), (7, .int (nI n)), (10, .int (nI mc)), (11, .int ms), (12, .int (nI p)), (14, .int (nI (wc m0 m3 p (j + 1)))), (16, .int (zb (io n r m0 m1 m2 m3 m5 p (j + 1)))), (17, .int (nI j))] [] := by
                        refine zv_iload C dL_law_523 525 rfl 3 rfl ?_
                        refine zv_if_eq C dL_law_525 528 552 rfl (by decide) (fun c => absurd c (by decide)) (fun _ => ?_)
                        refine zv_aload_n C dL_law_528 529 rfl 5 rfl ?_
                        refine zv_iload C dL_law_529 531 rfl 16 rfl ?_
                        refine zn_callRV (rest := []) C zn_TB zn_TE (zn_ofR (w_lengthAt l D hR j hj2)) (cwV 1 C.1.2.2.2.2 gL_law_X1_lengthAt rfl rfl rfl (by decide +kernel) ⟨Nat.le_of_ble_eq_true rfl, Nat.le_of_ble_eq_true rfl⟩) dL_law_531 534 rfl (ci := 1) rfl 0 hrc rfl rfl (Nat.le_of_ble_eq_true rfl) ⟨(by show kc + 0 ≤ 600130; omega), (by show ns + 0 ≤ 7301079; omega)⟩ [0, 1] rfl (List.Sublist.cons _ (List.Sublist.cons _ (List.Sublist.cons _ ((List.sublist_append_right _ _).trans (List.sublist_append_right _ _))))) (fun v hv => ?_)
                        subst hv
                        refine zv_go rfl rfl (st' := [.int ((sol n m0 m1 m2 m3 m5 r).2.1 j)]) rfl (kc' := kc) rfl (ns' := ns) rfl ?_
                        refine zv_if_le C dL_law_534 537 554 rfl (by decide) (fun c0 => ?_) (fun c0 => ?_)
                        ·
                          refine zv_iinc (v := (nI (j + 1))) C dL_law_554 557 rfl [(17, .int (nI (j + 1))), (15, .int (mW m0 (sol n m0 m1 m2 m3 m5 r).1 (m3 p) p (j + 1))), (19, .int (nI p)), (13, .int (nI (cnb (fun q => fl m0 (nI p) 16 (m0 q)) (j + 1)))), (18, .int 1), (0, .ref sc), (1, .ref a), (2, .ref (s 0)), (3, .int (nI ti)), (4, .int x), (5, .long (dgM n b m0 m1 m2 m3 m5 m6 m7 r y)), (7, .int (nI n)), (10, .int (nI mc)), (11, .int ms), (12, .int (nI p)), (14, .int (nI (wc m0 m3 p (j + 1)))), (16, .int (zb (io n r m0 m1 m2 m3 m5 p (j + 1))))] 16 rfl (nI_1 j) (by decide) rfl ?_
                          refine zv_goto C dL_law_557 274 (by decide) ?_
                          refine zv_sub [5, 6, 7, 8, 9, 10, 11, 12, 13, 14, 3, 15, 1, 16, 0] (lv' := [(0, .ref sc), (1, .ref a), (2, .ref (s 0)), (3, .int (nI ti)), (4, .int x), (5, .long (dgM n b m0 m1 m2 m3 m5 m6 m7 r y)), (7, .int (nI n)), (10, .int (nI mc)), (11, .int ms), (12, .int (nI p)), (13, .int (nI (cnb (fun q => fl m0 (nI p) 16 (m0 q)) (j + 1)))), (14, .int (nI (wc m0 m3 p (j + 1)))), (15, .int (mW m0 (sol n m0 m1 m2 m3 m5 r).1 (m3 p) p (j + 1))), (16, .int (zb (io n r m0 m1 m2 m3 m5 p (j + 1)))), (17, .int (nI (j + 1)))]) rfl ?_
                          exact ih_IL (j + 1) (by omega) (by omega)
                        ·
                          refine zv_aload_n C dL_law_537 538 rfl 5 rfl ?_
                          refine zv_iload C dL_law_538 540 rfl 13 rfl ?_
                          refine zn_callRV (rest := []) C zn_TB zn_TE (zn_ofR (w_lengthAt l D hR p hp2)) (cwV 1 C.1.2.2.2.2 gL_law_X1_lengthAt rfl rfl rfl (by decide +kernel) ⟨Nat.le_of_ble_eq_true rfl, Nat.le_of_ble_eq_true rfl⟩) dL_law_540 543 rfl (ci := 1) rfl 0 hrc rfl rfl (Nat.le_of_ble_eq_true rfl) ⟨(by show kc + 0 ≤ 600130; omega), (by show ns + 0 ≤ 7301079; omega)⟩ [0, 1] rfl (List.Sublist.cons _ (List.Sublist.cons _ (List.Sublist.cons _ ((List.sublist_append_right _ _).trans (List.sublist_append_right _ _))))) (fun v hv => ?_)
                          subst hv
                          refine zv_go rfl rfl (st' := [.int ((sol n m0 m1 m2 m3 m5 r).2.1 p)]) rfl (kc' := kc) rfl (ns' := ns) rfl ?_
                          refine zv_aload_n C dL_law_543 544 rfl 5 rfl ?_
                          refine zv_iload C dL_law_544 546 rfl 16 rfl ?_
                          refine zn_callRV (rest := [.int ((sol n m0 m1 m2 m3 m5 r).2.1 p)]) C zn_TB zn_TE (zn_ofR (w_lengthAt l D hR j hj2)) (cwV 1 C.1.2.2.2.2 gL_law_X1_lengthAt rfl rfl rfl (by decide +kernel) ⟨Nat.le_of_ble_eq_true rfl, Nat.le_of_ble_eq_true rfl⟩) dL_law_546 549 rfl (ci := 1) rfl 0 hrc rfl rfl (Nat.le_of_ble_eq_true rfl) ⟨(by show kc + 0 ≤ 600130; omega), (by show ns + 0 ≤ 7301079; omega)⟩ [0, 1] rfl (List.Sublist.cons _ (List.Sublist.cons _ (List.Sublist.cons _ ((List.sublist_append_right _ _).trans (List.sublist_append_right _ _))))) (fun v hv => ?_)
                          subst hv
                          refine zv_go rfl rfl (st' := [.int ((sol n m0 m1 m2 m3 m5 r).2.1 j), .int ((sol n m0 m1 m2 m3 m5 r).2.1 p)]) rfl (kc' := kc) rfl (ns' := ns) rfl ?_
                          refine zv_icmp_gt C dL_law_549 552 554 rfl (by decide) (fun _ => ?_) (fun c => absurd (hV.lgt hp2 hj2 cl c0) c)
                          refine zv_iinc (v := (nI (j + 1))) C dL_law_554 557 rfl [(17, .int (nI (j + 1))), (15, .int (mW m0 (sol n m0 m1 m2 m3 m5 r).1 (m3 p) p (j + 1))), (19, .int (nI p)), (13, .int (nI (cnb (fun q => fl m0 (nI p) 16 (m0 q)) (j + 1)))), (18, .int 1), (0, .ref sc), (1, .ref a), (2, .ref (s 0)), (3, .int (nI ti)), (4, .int x), (5, .long (dgM n b m0 m1 m2 m3 m5 m6 m7 r y)), (7, .int (nI n)), (10, .int (nI mc)), (11, .int ms), (12, .int (nI p)), (14, .int (nI (wc m0 m3 p (j + 1)))), (16, .int (zb (io n r m0 m1 m2 m3 m5 p (j + 1))))] 16 rfl (nI_1 j) (by decide) rfl ?_
                          refine zv_goto C dL_law_557 274 (by decide) ?_
                          refine zv_sub [5, 6, 7, 8, 9, 10, 11, 12, 13, 14, 3, 15, 1, 16, 0] (lv' := [(0, .ref sc), (1, .ref a), (2, .ref (s 0)), (3, .int (nI ti)), (4, .int x), (5, .long (dgM n b m0 m1 m2 m3 m5 m6 m7 r y)), (7, .int (nI n)), (10, .int (nI mc)), (11, .int ms), (12, .int (nI p)), (13, .int (nI (cnb (fun q => fl m0 (nI p) 16 (m0 q)) (j + 1)))), (14, .int (nI (wc m0 m3 p (j + 1)))), (15, .int (mW m0 (sol n m0 m1 m2 m3 m5 r).1 (m3 p) p (j + 1))), (16, .int (zb (io n r m0 m1 m2 m3 m5 p (j + 1)))), (17, .int (nI (j + 1)))]) rfl ?_
                          exact ih_IL (j + 1) (by omega) (by omega)
                      refine zv_if_lt C dL_law_497 500 519 rfl (by decide) (fun cn => ?_) (fun cn => ?_)
                      ·
                        have hoe := io_s (n := n) (r := r) (m0 := m0) (m1 := m1) (m2 := m2) (m3 := m3) (m5 := m5) (p := p) (j := j) (x := false) (by rw [decide_eq_true cn]; simp)
                        refine zv_iconst (v := 0) C dL_law_519 520 rfl (by decide) ?_
                        refine zn_ior (v := (zb (io n r m0 m1 m2 m3 m5 p (j + 1)))) C dL_law_520 521 rfl (by rw [hoe]; exact zb_or0 _ _ rfl) ?_
                        refine zv_istore C dL_law_521 523 rfl [(16, .int (zb (io n r m0 m1 m2 m3 m5 p (j + 1)))), (15, .int (mW m0 (sol n m0 m1 m2 m3 m5 r).1 (m3 p) p (j + 1))), (19, .int (nI p)), (13, .int (nI (cnb (fun q => fl m0 (nI p) 16 (m0 q)) (j + 1)))), (18, .int 1), (0, .ref sc), (1, .ref a), (2, .ref (s 0)), (3, .int (nI ti)), (4, .int x), (5, .long (dgM n b m0 m1 m2 m3 m5 m6 m7 r y)), (7, .int (nI n)), (10, .int (nI mc)), (11, .int ms), (12, .int (nI p)), (14, .int (nI (wc m0 m3 p (j + 1)))), (17, .int (nI j))] (by decide) rfl ?_
                        refine zv_sub [1, 2, 3, 4, 5, 6, 7, 8, 9, 10, 11, 12, 13, 14, 15, 0, 16] (lv' := [(15, .int (mW m0 (sol n m0 m1 m2 m3 m5 r).1 (m3 p) p (j + 1))), (19, .int (nI p)), (13, .int (nI (cnb (fun q => fl m0 (nI p) 16 (m0 q)) (j + 1)))), (18, .int 1), (0, .ref sc), (1, .ref a), (2, .ref (s 0)), (3, .int (nI ti)), (4, .int x), (5, .long (dgM n b m0 m1 m2 m3 m5 m6 m7 r y)), (7, .int (nI n)), (10, .int (nI mc)), (11, .int ms), (12, .int (nI p)), (14, .int (nI (wc m0 m3 p (j + 1)))), (16, .int (zb (io n r m0 m1 m2 m3 m5 p (j + 1)))), (17, .int (nI j))]) rfl ?_
                        exact K52
                      ·
                        refine zv_aload_n C dL_law_500 501 rfl 5 rfl ?_
                        refine zv_iload C dL_law_501 503 rfl 16 rfl ?_
                        refine zn_callRV (rest := [.int (zb (io n r m0 m1 m2 m3 m5 p j))]) C zn_TB zn_TE (zn_ofR (w_nameAt l D hR j hj2)) (cwV 1 C.1.2.2.2.2 gL_law_X1_nameAt rfl rfl rfl (by decide +kernel) ⟨Nat.le_of_ble_eq_true rfl, Nat.le_of_ble_eq_true rfl⟩) dL_law_503 506 rfl (ci := 1) rfl 0 hrc rfl rfl (Nat.le_of_ble_eq_true rfl) ⟨(by show kc + 0 ≤ 600130; omega), (by show ns + 0 ≤ 7301079; omega)⟩ [0, 1] rfl (List.Sublist.cons _ (List.Sublist.cons _ (List.Sublist.cons _ ((List.sublist_append_right _ _).trans (List.sublist_append_right _ _))))) (fun v hv => ?_)
                        subst hv
                        refine zv_go rfl rfl (st' := [.int (nmS n m0 m1 m2 m3 m5 r j), .int (zb (io n r m0 m1 m2 m3 m5 p j))]) rfl (kc' := kc) rfl (ns' := ns) rfl ?_
                        refine zv_aload_n C dL_law_506 507 rfl 5 rfl ?_
                        refine zv_iload C dL_law_507 509 rfl 13 rfl ?_
                        refine zn_callRV (rest := [.int (nmS n m0 m1 m2 m3 m5 r j), .int (zb (io n r m0 m1 m2 m3 m5 p j))]) C zn_TB zn_TE (zn_ofR (w_nameAt l D hR p hp2)) (cwV 1 C.1.2.2.2.2 gL_law_X1_nameAt rfl rfl rfl (by decide +kernel) ⟨Nat.le_of_ble_eq_true rfl, Nat.le_of_ble_eq_true rfl⟩) dL_law_509 512 rfl (ci := 1) rfl 0 hrc rfl rfl (Nat.le_of_ble_eq_true rfl) ⟨(by show kc + 0 ≤ 600130; omega), (by show ns + 0 ≤ 7301079; omega)⟩ [0, 1] rfl (List.Sublist.cons _ (List.Sublist.cons _ (List.Sublist.cons _ ((List.sublist_append_right _ _).trans (List.sublist_append_right _ _))))) (fun v hv => ?_)
                        subst hv
                        refine zv_go rfl rfl (st' := [.int (nmS n m0 m1 m2 m3 m5 r p), .int (nmS n m0 m1 m2 m3 m5 r j), .int (zb (io n r m0 m1 m2 m3 m5 p j))]) rfl (kc' := kc) rfl (ns' := ns) rfl ?_
                        refine zv_icmp_ne C dL_law_512 515 519 rfl (by decide) (fun ce => ?_) (fun ce => ?_)
                        ·
                          have hoe := io_s (n := n) (r := r) (m0 := m0) (m1 := m1) (m2 := m2) (m3 := m3) (m5 := m5) (p := p) (j := j) (x := false) (by rw [decide_eq_false ce]; simp)
                          refine zv_iconst (v := 0) C dL_law_519 520 rfl (by decide) ?_
                          refine zn_ior (v := (zb (io n r m0 m1 m2 m3 m5 p (j + 1)))) C dL_law_520 521 rfl (by rw [hoe]; exact zb_or0 _ _ rfl) ?_
                          refine zv_istore C dL_law_521 523 rfl [(16, .int (zb (io n r m0 m1 m2 m3 m5 p (j + 1)))), (15, .int (mW m0 (sol n m0 m1 m2 m3 m5 r).1 (m3 p) p (j + 1))), (19, .int (nI p)), (13, .int (nI (cnb (fun q => fl m0 (nI p) 16 (m0 q)) (j + 1)))), (18, .int 1), (0, .ref sc), (1, .ref a), (2, .ref (s 0)), (3, .int (nI ti)), (4, .int x), (5, .long (dgM n b m0 m1 m2 m3 m5 m6 m7 r y)), (7, .int (nI n)), (10, .int (nI mc)), (11, .int ms), (12, .int (nI p)), (14, .int (nI (wc m0 m3 p (j + 1)))), (17, .int (nI j))] (by decide) rfl ?_
                          refine zv_sub [1, 2, 3, 4, 5, 6, 7, 8, 9, 10, 11, 12, 13, 14, 15, 0, 16] (lv' := [(15, .int (mW m0 (sol n m0 m1 m2 m3 m5 r).1 (m3 p) p (j + 1))), (19, .int (nI p)), (13, .int (nI (cnb (fun q => fl m0 (nI p) 16 (m0 q)) (j + 1)))), (18, .int 1), (0, .ref sc), (1, .ref a), (2, .ref (s 0)), (3, .int (nI ti)), (4, .int x), (5, .long (dgM n b m0 m1 m2 m3 m5 m6 m7 r y)), (7, .int (nI n)), (10, .int (nI mc)), (11, .int ms), (12, .int (nI p)), (14, .int (nI (wc m0 m3 p (j + 1)))), (16, .int (zb (io n r m0 m1 m2 m3 m5 p (j + 1)))), (17, .int (nI j))]) rfl ?_
                          exact K52
                        ·
                          have hoe := io_s (n := n) (r := r) (m0 := m0) (m1 := m1) (m2 := m2) (m3 := m3) (m5 := m5) (p := p) (j := j) (x := true) (by rw [decide_eq_true cl, decide_eq_false cn, decide_eq_true ce]; rfl)
                          refine zv_iconst (v := 1) C dL_law_515 516 rfl (by decide) ?_
                          refine zv_goto C dL_law_516 520 (by decide) ?_
                          refine zn_ior (v := (zb (io n r m0 m1 m2 m3 m5 p (j + 1)))) C dL_law_520 521 rfl (by rw [hoe]; exact zb_or1 _ _ rfl) ?_
                          refine zv_istore C dL_law_521 523 rfl [(16, .int (zb (io n r m0 m1 m2 m3 m5 p (j + 1)))), (15, .int (mW m0 (sol n m0 m1 m2 m3 m5 r).1 (m3 p) p (j + 1))), (19, .int (nI p)), (13, .int (nI (cnb (fun q => fl m0 (nI p) 16 (m0 q)) (j + 1)))), (18, .int 1), (0, .ref sc), (1, .ref a), (2, .ref (s 0)), (3, .int (nI ti)), (4, .int x), (5, .long (dgM n b m0 m1 m2 m3 m5 m6 m7 r y)), (7, .int (nI n)), (10, .int (nI mc)), (11, .int ms), (12, .int (nI p)), (14, .int (nI (wc m0 m3 p (j + 1)))), (17, .int (nI j))] (by decide) rfl ?_
                          refine zv_sub [1, 2, 3, 4, 5, 6, 7, 8, 9, 10, 11, 12, 13, 14, 15, 0, 16] (lv' := [(15, .int (mW m0 (sol n m0 m1 m2 m3 m5 r).1 (m3 p) p (j + 1))), (19, .int (nI p)), (13, .int (nI (cnb (fun q => fl m0 (nI p) 16 (m0 q)) (j + 1)))), (18, .int 1), (0, .ref sc), (1, .ref a), (2, .ref (s 0)), (3, .int (nI ti)), (4, .int x), (5, .long (dgM n b m0 m1 m2 m3 m5 m6 m7 r y)), (7, .int (nI n)), (10, .int (nI mc)), (11, .int ms), (12, .int (nI p)), (14, .int (nI (wc m0 m3 p (j + 1)))), (16, .int (zb (io n r m0 m1 m2 m3 m5 p (j + 1)))), (17, .int (nI j))]) rfl ?_
                          exact K52
                    · -- from farther
                      have hwt : mW m0 (sol n m0 m1 m2 m3 m5 r).1 (m3 p) p (j + 1) = mW m0 (sol n m0 m1 m2 m3 m5 r).1 (m3 p) p j := mW_n _ _ _ cl
                      have hoe : io n r m0 m1 m2 m3 m5 p (j + 1) = io n r m0 m1 m2 m3 m5 p j := by rw [io_s (x := false) (by rw [decide_eq_false cl]; rfl), Bool.or_false]
                      refine zv_goto C dL_law_475 554 (by decide) ?_
                      refine zv_iinc (v := (nI (j + 1))) C dL_law_554 557 rfl [(17, .int (nI (j + 1))), (19, .int (nI p)), (13, .int (nI (cnb (fun q => fl m0 (nI p) 16 (m0 q)) (j + 1)))), (18, .int 1), (0, .ref sc), (1, .ref a), (2, .ref (s 0)), (3, .int (nI ti)), (4, .int x), (5, .long (dgM n b m0 m1 m2 m3 m5 m6 m7 r y)), (7, .int (nI n)), (10, .int (nI mc)), (11, .int ms), (12, .int (nI p)), (14, .int (nI (wc m0 m3 p (j + 1)))), (15, .int (mW m0 (sol n m0 m1 m2 m3 m5 r).1 (m3 p) p j)), (16, .int (zb (io n r m0 m1 m2 m3 m5 p j)))] 16 rfl (nI_1 j) (by decide) rfl ?_
                      refine zv_goto C dL_law_557 274 (by decide) ?_
                      refine zv_go rfl (lv' := [(17, .int (nI (j + 1))), (19, .int (nI p)), (13, .int (nI (cnb (fun q => fl m0 (nI p) 16 (m0 q)) (j + 1)))), (18, .int 1), (0, .ref sc), (1, .ref a), (2, .ref (s 0)), (3, .int (nI ti)), (4, .int x), (5, .long (dgM n b m0 m1 m2 m3 m5 m6 m7 r y)), (7, .int (nI n)), (10, .int (nI mc)), (11, .int ms), (12, .int (nI p)), (14, .int (nI (wc m0 m3 p (j + 1)))), (15, .int (mW m0 (sol n m0 m1 m2 m3 m5 r).1 (m3 p) p (j + 1))), (16, .int (zb (io n r m0 m1 m2 m3 m5 p (j + 1))))]) (by rw [hwt, hoe]) rfl rfl rfl ?_
                      refine zv_sub [4, 5, 6, 7, 8, 9, 10, 11, 12, 13, 2, 14, 15, 16, 0] (lv' := [(0, .ref sc), (1, .ref a), (2, .ref (s 0)), (3, .int (nI ti)), (4, .int x), (5, .long (dgM n b m0 m1 m2 m3 m5 m6 m7 r y)), (7, .int (nI n)), (10, .int (nI mc)), (11, .int ms), (12, .int (nI p)), (13, .int (nI (cnb (fun q => fl m0 (nI p) 16 (m0 q)) (j + 1)))), (14, .int (nI (wc m0 m3 p (j + 1)))), (15, .int (mW m0 (sol n m0 m1 m2 m3 m5 r).1 (m3 p) p (j + 1))), (16, .int (zb (io n r m0 m1 m2 m3 m5 p (j + 1)))), (17, .int (nI (j + 1)))]) rfl ?_
                      exact ih_IL (j + 1) (by omega) (by omega)
                  refine zv_if_le C dL_law_319 322 326 rfl (by decide) (fun cw => ?_) (fun cw => ?_)
                  ·
                    refine zv_iconst (v := 0) C dL_law_326 327 rfl (by decide) ?_
                    refine zv_iadd (v := (nI (wc m0 m3 p (j + 1)))) C dL_law_327 328 rfl (by rw [wc_n (m0 := m0) (m3 := m3) (p := p) (j := j) (by rw [hF]; unfold wz; rw [decide_eq_true cw]; rfl)]; exact Int32.add_zero _) ?_
                    refine zv_istore C dL_law_328 330 rfl [(14, .int (nI (wc m0 m3 p (j + 1)))), (13, .int (nI (cnb (fun q => fl m0 (nI p) 16 (m0 q)) (j + 1)))), (18, .int 1), (0, .ref sc), (1, .ref a), (2, .ref (s 0)), (3, .int (nI ti)), (4, .int x), (5, .long (dgM n b m0 m1 m2 m3 m5 m6 m7 r y)), (7, .int (nI n)), (10, .int (nI mc)), (11, .int ms), (12, .int (nI p)), (15, .int (mW m0 (sol n m0 m1 m2 m3 m5 r).1 (m3 p) p j)), (16, .int (zb (io n r m0 m1 m2 m3 m5 p j))), (17, .int (nI j))] (by decide) rfl ?_
                    refine zv_sub [1, 2, 3, 4, 5, 6, 7, 8, 9, 10, 11, 12, 0, 13, 14, 15] (lv' := [(13, .int (nI (cnb (fun q => fl m0 (nI p) 16 (m0 q)) (j + 1)))), (18, .int 1), (0, .ref sc), (1, .ref a), (2, .ref (s 0)), (3, .int (nI ti)), (4, .int x), (5, .long (dgM n b m0 m1 m2 m3 m5 m6 m7 r y)), (7, .int (nI n)), (10, .int (nI mc)), (11, .int ms), (12, .int (nI p)), (14, .int (nI (wc m0 m3 p (j + 1)))), (15, .int (mW m0 (sol n m0 m1 m2 m3 m5 r).1 (m3 p) p j)), (16, .int (zb (io n r m0 m1 m2 m3 m5 p j))), (17, .int (nI j))]) rfl ?_
                    exact K33
                  ·
                    refine zv_iconst (v := 1) C dL_law_322 323 rfl (by decide) ?_
                    refine zv_goto C dL_law_323 327 (by decide) ?_
                    refine zv_iadd (v := (nI (wc m0 m3 p (j + 1)))) C dL_law_327 328 rfl (by rw [wc_y (m0 := m0) (m3 := m3) (p := p) (j := j) (by rw [hF]; unfold wz; rw [decide_eq_false cw]; rfl)]; exact nI_1 _) ?_
                    refine zv_istore C dL_law_328 330 rfl [(14, .int (nI (wc m0 m3 p (j + 1)))), (13, .int (nI (cnb (fun q => fl m0 (nI p) 16 (m0 q)) (j + 1)))), (18, .int 1), (0, .ref sc), (1, .ref a), (2, .ref (s 0)), (3, .int (nI ti)), (4, .int x), (5, .long (dgM n b m0 m1 m2 m3 m5 m6 m7 r y)), (7, .int (nI n)), (10, .int (nI mc)), (11, .int ms), (12, .int (nI p)), (15, .int (mW m0 (sol n m0 m1 m2 m3 m5 r).1 (m3 p) p j)), (16, .int (zb (io n r m0 m1 m2 m3 m5 p j))), (17, .int (nI j))] (by decide) rfl ?_
                    refine zv_sub [1, 2, 3, 4, 5, 6, 7, 8, 9, 10, 11, 12, 0, 13, 14, 15] (lv' := [(13, .int (nI (cnb (fun q => fl m0 (nI p) 16 (m0 q)) (j + 1)))), (18, .int 1), (0, .ref sc), (1, .ref a), (2, .ref (s 0)), (3, .int (nI ti)), (4, .int x), (5, .long (dgM n b m0 m1 m2 m3 m5 m6 m7 r y)), (7, .int (nI n)), (10, .int (nI mc)), (11, .int ms), (12, .int (nI p)), (14, .int (nI (wc m0 m3 p (j + 1)))), (15, .int (mW m0 (sol n m0 m1 m2 m3 m5 r).1 (m3 p) p j)), (16, .int (zb (io n r m0 m1 m2 m3 m5 p j))), (17, .int (nI j))]) rfl ?_
                    exact K33
          refine zv_go rfl (lv' := [(17, .int (nI 0)), (0, .ref sc), (1, .ref a), (2, .ref (s 0)), (3, .int (nI ti)), (4, .int x), (5, .long (dgM n b m0 m1 m2 m3 m5 m6 m7 r y)), (7, .int (nI n)), (10, .int (nI mc)), (11, .int ms), (12, .int (nI p)), (13, .int (nI (cnb (fun q => fl m0 (nI p) 16 (m0 q)) 0))), (14, .int (nI (wc m0 m3 p 0))), (15, .int (mW m0 (sol n m0 m1 m2 m3 m5 r).1 (m3 p) p 0)), (16, .int (zb (io n r m0 m1 m2 m3 m5 p 0)))]) rfl rfl rfl rfl ?_
          refine zv_sub [1, 2, 3, 4, 5, 6, 7, 8, 9, 10, 11, 12, 13, 14, 0] (lv' := [(0, .ref sc), (1, .ref a), (2, .ref (s 0)), (3, .int (nI ti)), (4, .int x), (5, .long (dgM n b m0 m1 m2 m3 m5 m6 m7 r y)), (7, .int (nI n)), (10, .int (nI mc)), (11, .int ms), (12, .int (nI p)), (13, .int (nI (cnb (fun q => fl m0 (nI p) 16 (m0 q)) 0))), (14, .int (nI (wc m0 m3 p 0))), (15, .int (mW m0 (sol n m0 m1 m2 m3 m5 r).1 (m3 p) p 0)), (16, .int (zb (io n r m0 m1 m2 m3 m5 p 0))), (17, .int (nI 0))]) rfl ?_
          exact IL (n + 1) 0 (by omega) (by omega)
        refine zv_if_le C dL_law_222 225 229 rfl (by decide) (fun c3 => ?_) (fun c3 => ?_)
        ·
          have hwz : wz m3 p = false := by unfold wz; rw [decide_eq_true c3]; rfl
          have hwc : wc m0 m3 p 0 = 0 := by unfold wc; rw [hwz]; rfl
          refine zv_iconst (v := 0) C dL_law_229 230 rfl (by decide) ?_
          refine zv_istore C dL_law_230 232 rfl [(14, .int 0), (13, .int 0), (0, .ref sc), (1, .ref a), (2, .ref (s 0)), (3, .int (nI ti)), (4, .int x), (5, .long (dgM n b m0 m1 m2 m3 m5 m6 m7 r y)), (7, .int (nI n)), (10, .int (nI mc)), (11, .int ms), (12, .int (nI p))] (by decide) rfl ?_
          refine zv_aload_n C dL_law_232 233 rfl 3 rfl ?_
          refine zv_iload C dL_law_233 235 rfl 11 rfl ?_
          refine zn_callRV (rest := []) C zn_TB zn_TE (zn_ofR (w_springOf l D hR p hp2)) (cwV 1 C.1.2.2.2.2 gL_law_X1_springOf rfl rfl rfl (by decide +kernel) ⟨Nat.le_of_ble_eq_true rfl, Nat.le_of_ble_eq_true rfl⟩) dL_law_235 238 rfl (ci := 1) rfl 0 hrc rfl rfl (Nat.le_of_ble_eq_true rfl) ⟨(by show kc + 0 ≤ 600130; omega), (by show ns + 0 ≤ 7301079; omega)⟩ [0, 1] rfl (List.Sublist.cons _ (List.Sublist.cons _ (List.Sublist.cons _ ((List.sublist_append_right _ _).trans (List.sublist_append_right _ _))))) (fun v hv => ?_)
          subst hv
          refine zv_go rfl rfl (st' := [.int (m3 p)]) rfl (kc' := kc) rfl (ns' := ns) rfl ?_
          refine zv_istore C dL_law_238 240 rfl [(15, .int (m3 p)), (14, .int 0), (13, .int 0), (0, .ref sc), (1, .ref a), (2, .ref (s 0)), (3, .int (nI ti)), (4, .int x), (5, .long (dgM n b m0 m1 m2 m3 m5 m6 m7 r y)), (7, .int (nI n)), (10, .int (nI mc)), (11, .int ms), (12, .int (nI p))] (by decide) rfl ?_
          refine zv_iload C dL_law_240 242 rfl 1 rfl ?_
          refine zv_iconst (v := 1) C dL_law_242 243 rfl (by decide) ?_
          refine zv_icmp_ne C dL_law_243 246 268 rfl (by decide) (fun _ => ?_) (fun c => absurd c (by decide))
          refine zv_iconst (v := 0) C dL_law_268 269 rfl (by decide) ?_
          refine zv_istore C dL_law_269 271 rfl [(16, .int 0), (15, .int (m3 p)), (14, .int 0), (13, .int 0), (0, .ref sc), (1, .ref a), (2, .ref (s 0)), (3, .int (nI ti)), (4, .int x), (5, .long (dgM n b m0 m1 m2 m3 m5 m6 m7 r y)), (7, .int (nI n)), (10, .int (nI mc)), (11, .int ms), (12, .int (nI p))] (by decide) rfl ?_
          have hio : io n r m0 m1 m2 m3 m5 p 0 = false := by unfold io; rw [hwz]; rfl
          refine zv_go rfl (lv' := [(16, .int (zb (io n r m0 m1 m2 m3 m5 p 0))), (15, .int (m3 p)), (14, .int (nI (wc m0 m3 p 0))), (13, .int (nI 0)), (0, .ref sc), (1, .ref a), (2, .ref (s 0)), (3, .int (nI ti)), (4, .int x), (5, .long (dgM n b m0 m1 m2 m3 m5 m6 m7 r y)), (7, .int (nI n)), (10, .int (nI mc)), (11, .int ms), (12, .int (nI p))]) (by rw [hio, hwc]; rfl) rfl rfl rfl ?_
          refine zv_sub [4, 5, 6, 7, 8, 9, 10, 11, 12, 13, 3, 2, 1, 0] (lv' := [(0, .ref sc), (1, .ref a), (2, .ref (s 0)), (3, .int (nI ti)), (4, .int x), (5, .long (dgM n b m0 m1 m2 m3 m5 m6 m7 r y)), (7, .int (nI n)), (10, .int (nI mc)), (11, .int ms), (12, .int (nI p)), (13, .int (nI 0)), (14, .int (nI (wc m0 m3 p 0))), (15, .int (m3 p)), (16, .int (zb (io n r m0 m1 m2 m3 m5 p 0)))]) rfl ?_
          exact K3
        ·
          have hwz : wz m3 p = true := by unfold wz; rw [decide_eq_false c3]; rfl
          have hwc : wc m0 m3 p 0 = 1 := by unfold wc; rw [hwz]; rfl
          refine zv_iconst (v := 1) C dL_law_225 226 rfl (by decide) ?_
          refine zv_goto C dL_law_226 230 (by decide) ?_
          refine zv_istore C dL_law_230 232 rfl [(14, .int 1), (13, .int 0), (0, .ref sc), (1, .ref a), (2, .ref (s 0)), (3, .int (nI ti)), (4, .int x), (5, .long (dgM n b m0 m1 m2 m3 m5 m6 m7 r y)), (7, .int (nI n)), (10, .int (nI mc)), (11, .int ms), (12, .int (nI p))] (by decide) rfl ?_
          refine zv_aload_n C dL_law_232 233 rfl 3 rfl ?_
          refine zv_iload C dL_law_233 235 rfl 11 rfl ?_
          refine zn_callRV (rest := []) C zn_TB zn_TE (zn_ofR (w_springOf l D hR p hp2)) (cwV 1 C.1.2.2.2.2 gL_law_X1_springOf rfl rfl rfl (by decide +kernel) ⟨Nat.le_of_ble_eq_true rfl, Nat.le_of_ble_eq_true rfl⟩) dL_law_235 238 rfl (ci := 1) rfl 0 hrc rfl rfl (Nat.le_of_ble_eq_true rfl) ⟨(by show kc + 0 ≤ 600130; omega), (by show ns + 0 ≤ 7301079; omega)⟩ [0, 1] rfl (List.Sublist.cons _ (List.Sublist.cons _ (List.Sublist.cons _ ((List.sublist_append_right _ _).trans (List.sublist_append_right _ _))))) (fun v hv => ?_)
          subst hv
          refine zv_go rfl rfl (st' := [.int (m3 p)]) rfl (kc' := kc) rfl (ns' := ns) rfl ?_
          refine zv_istore C dL_law_238 240 rfl [(15, .int (m3 p)), (14, .int 1), (13, .int 0), (0, .ref sc), (1, .ref a), (2, .ref (s 0)), (3, .int (nI ti)), (4, .int x), (5, .long (dgM n b m0 m1 m2 m3 m5 m6 m7 r y)), (7, .int (nI n)), (10, .int (nI mc)), (11, .int ms), (12, .int (nI p))] (by decide) rfl ?_
          refine zv_iload C dL_law_240 242 rfl 1 rfl ?_
          refine zv_iconst (v := 1) C dL_law_242 243 rfl (by decide) ?_
          refine zv_icmp_ne C dL_law_243 246 268 rfl (by decide) (fun c => absurd c (fun c => c rfl)) (fun _ => ?_)
          refine zv_aload_n C dL_law_246 247 rfl 5 rfl ?_
          refine zv_get (ci := 2) C inX2 rfl dL_law_247 250 rfl 0 2 rfl (by decide) lk9 rfl ?_
          refine zv_iload C dL_law_250 252 rfl 12 rfl ?_
          refine zn_aald (r := pa p) C dL_law_252 253 rfl 1 2 p rfl rfl rfl (by omega) (by omega) rfl ?_
          refine zv_iconst (v := 2) C dL_law_253 254 rfl (by decide) ?_
          refine zv_iald (v := (m2 p)) C dL_law_254 255 rfl (p + 3) 0 2 (zr_p0 (by omega)) rfl (by decide) (by omega) (by omega) rfl ?_
          refine zv_aload_n C dL_law_255 256 rfl 4 rfl ?_
          refine zv_iload C dL_law_256 258 rfl 12 rfl ?_
          refine zn_callRV (rest := [.int (m2 p)]) C zn_TB zn_TE (zn_ofR (w_nameAt l D hR p hp2)) (cwV 1 C.1.2.2.2.2 gL_law_X1_nameAt rfl rfl rfl (by decide +kernel) ⟨Nat.le_of_ble_eq_true rfl, Nat.le_of_ble_eq_true rfl⟩) dL_law_258 261 rfl (ci := 1) rfl 0 hrc rfl rfl (Nat.le_of_ble_eq_true rfl) ⟨(by show kc + 0 ≤ 600130; omega), (by show ns + 0 ≤ 7301079; omega)⟩ [0, 1] rfl (List.Sublist.cons _ (List.Sublist.cons _ (List.Sublist.cons _ ((List.sublist_append_right _ _).trans (List.sublist_append_right _ _))))) (fun v hv => ?_)
          subst hv
          refine zv_go rfl rfl (st' := [.int (nmS n m0 m1 m2 m3 m5 r p), .int (m2 p)]) rfl (kc' := kc) rfl (ns' := ns) rfl ?_
          refine zv_icmp_ne C dL_law_261 264 268 rfl (by decide) (fun cn => ?_) (fun cn => ?_)
          ·
            refine zv_iconst (v := 0) C dL_law_268 269 rfl (by decide) ?_
            refine zv_istore C dL_law_269 271 rfl [(16, .int 0), (15, .int (m3 p)), (14, .int 1), (13, .int 0), (0, .ref sc), (1, .ref a), (2, .ref (s 0)), (3, .int (nI ti)), (4, .int x), (5, .long (dgM n b m0 m1 m2 m3 m5 m6 m7 r y)), (7, .int (nI n)), (10, .int (nI mc)), (11, .int ms), (12, .int (nI p))] (by decide) rfl ?_
            have hio : io n r m0 m1 m2 m3 m5 p 0 = false := by unfold io; rw [hwz, decide_eq_false cn]; rfl
            refine zv_go rfl (lv' := [(16, .int (zb (io n r m0 m1 m2 m3 m5 p 0))), (15, .int (m3 p)), (14, .int (nI (wc m0 m3 p 0))), (13, .int (nI 0)), (0, .ref sc), (1, .ref a), (2, .ref (s 0)), (3, .int (nI ti)), (4, .int x), (5, .long (dgM n b m0 m1 m2 m3 m5 m6 m7 r y)), (7, .int (nI n)), (10, .int (nI mc)), (11, .int ms), (12, .int (nI p))]) (by rw [hio, hwc]; rfl) rfl rfl rfl ?_
            refine zv_sub [4, 5, 6, 7, 8, 9, 10, 11, 12, 13, 3, 2, 1, 0] (lv' := [(0, .ref sc), (1, .ref a), (2, .ref (s 0)), (3, .int (nI ti)), (4, .int x), (5, .long (dgM n b m0 m1 m2 m3 m5 m6 m7 r y)), (7, .int (nI n)), (10, .int (nI mc)), (11, .int ms), (12, .int (nI p)), (13, .int (nI 0)), (14, .int (nI (wc m0 m3 p 0))), (15, .int (m3 p)), (16, .int (zb (io n r m0 m1 m2 m3 m5 p 0)))]) rfl ?_
            exact K3
          ·
            refine zv_iconst (v := 1) C dL_law_264 265 rfl (by decide) ?_
            refine zv_goto C dL_law_265 269 (by decide) ?_
            refine zv_istore C dL_law_269 271 rfl [(16, .int 1), (15, .int (m3 p)), (14, .int 1), (13, .int 0), (0, .ref sc), (1, .ref a), (2, .ref (s 0)), (3, .int (nI ti)), (4, .int x), (5, .long (dgM n b m0 m1 m2 m3 m5 m6 m7 r y)), (7, .int (nI n)), (10, .int (nI mc)), (11, .int ms), (12, .int (nI p))] (by decide) rfl ?_
            have hio : io n r m0 m1 m2 m3 m5 p 0 = true := by unfold io; rw [hwz, decide_eq_true cn]; rfl
            refine zv_go rfl (lv' := [(16, .int (zb (io n r m0 m1 m2 m3 m5 p 0))), (15, .int (m3 p)), (14, .int (nI (wc m0 m3 p 0))), (13, .int (nI 0)), (0, .ref sc), (1, .ref a), (2, .ref (s 0)), (3, .int (nI ti)), (4, .int x), (5, .long (dgM n b m0 m1 m2 m3 m5 m6 m7 r y)), (7, .int (nI n)), (10, .int (nI mc)), (11, .int ms), (12, .int (nI p))]) (by rw [hio, hwc]; rfl) rfl rfl rfl ?_
            refine zv_sub [4, 5, 6, 7, 8, 9, 10, 11, 12, 13, 3, 2, 1, 0] (lv' := [(0, .ref sc), (1, .ref a), (2, .ref (s 0)), (3, .int (nI ti)), (4, .int x), (5, .long (dgM n b m0 m1 m2 m3 m5 m6 m7 r y)), (7, .int (nI n)), (10, .int (nI mc)), (11, .int ms), (12, .int (nI p)), (13, .int (nI 0)), (14, .int (nI (wc m0 m3 p 0))), (15, .int (m3 p)), (16, .int (zb (io n r m0 m1 m2 m3 m5 p 0)))]) rfl ?_
            exact K3
  refine zv_go rfl (lv' := [(12, .int (nI 0)), (11, .int 0), (10, .int (nI 0)), (0, .ref sc), (1, .ref a), (2, .ref (s 0)), (3, .int (nI ti)), (4, .int x), (5, .long (dgM n b m0 m1 m2 m3 m5 m6 m7 r y)), (7, .int (nI n))]) rfl rfl rfl rfl ?_
  refine zv_sub [3, 4, 5, 6, 7, 8, 9, 2, 1, 0] (lv' := [(0, .ref sc), (1, .ref a), (2, .ref (s 0)), (3, .int (nI ti)), (4, .int x), (5, .long (dgM n b m0 m1 m2 m3 m5 m6 m7 r y)), (7, .int (nI n)), (10, .int (nI 0)), (11, .int 0), (12, .int (nI 0))]) rfl ?_
  exact PL (n + 1) 0 0 0 rfl (by omega) (by omega)
