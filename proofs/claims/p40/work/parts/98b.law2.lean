/-! ===== the law's loop: a delta, the other rule, years ===== -/
theorem upd_upd (f : Nat → Int32) (k : Nat) (x y : Int32) : upd (upd f k x) k y = upd f k y := funext (fun j => by
  by_cases z : j = k
  · subst z; rw [upd_at, upd_at]
  · rw [upd_ne _ _ _ z, upd_ne _ _ _ z, upd_ne _ _ _ z])
theorem upd_same (f : Nat → Int32) (k : Nat) : upd f k (f k) = f := funext (fun j => by
  by_cases z : j = k
  · subst z; rw [upd_at]
  · rw [upd_ne _ _ _ z])
theorem tg_back {m5 : Nat → Int32} (hz : ∀ i, zo (m5 i)) (p : Nat) : upd (upd m5 p (tg (m5 p))) p (tg (upd m5 p (tg (m5 p)) p)) = m5 := by
  rw [upd_at, tg_tg (hz p), upd_upd, upd_same]
theorem tg_ne {x : Int32} (h : zo x) : ¬ tg (tg x) = tg x := by rcases h with h | h <;> subst h <;> decide
theorem swN_s (m1 m3 m4 : Nat → Int32) (k : Nat) : swN m1 (swN m1 m3 m4 k) m4 1 = swN m1 m3 m4 (k + 1) := rfl
set_option maxHeartbeats 4000000 in
set_option maxRecDepth 100000 in
theorem la_delta {pP : Program} {l : Launch} {eE : Env} {sS : State} {mM : MethodId} {aA : Array Value} {bB : List Frame} {mT : Method} {cD : Code} {Q : State → Prop} {D : va_G} {cI cZ cA : ClassId} {A : Nat → Prop} (C : zv_C pP mM cD cL_law 27 sS aA wsL_law "RiverNamesLaw" A) {a n b : Nat} {r y : Int32} {m0 m1 m2 m3 m4 m5 m6 m7 : Nat → Int32} {w : va_W} (hR : zR cI cZ a n b r y m0 m1 m2 m3 m4 m5 m6 m7 w) {s pa da : Nat → Nat} {sc ti kc ns : Nat} {x : Int32} (hkc : kc ≤ 600000) (hns : ns ≤ 7300000) (hn0 : 0 < n) (K : ∀ (w' : va_W) (nm pl : Nat) (g : Nat → Int32), pl < n → (∀ i, i < n → g i = nmS n m0 m1 m2 m3 m5 r i) → zR cI cZ a n b r y m0 m1 m2 m3 m4 m5 m6 m7 w' → zv_V pP l eE room_1 sS mM aA bB mT cD Q 27 D vwCl A A (tyS cI cZ cA) ((nm, .inl (cI, n, .inl g)) :: (s 0, .inr (2, [.int r, .int y, .ref (s 1), .ref (s 2)])) :: (s 1, .inl (cA, n, aq pa)) :: (s 2, .inl (cA, b, aq da)) :: (sR cI 6 pa (rP m0 m1 m2 m3 m4 m5) n ++ (sR cI 2 da (rB m6 m7) b ++ w'))) (kc + 1 + 1) (ns + 16 + 16) 1100 [(0, .ref sc), (1, .ref a), (2, .ref (s 0)), (3, .int (nI ti)), (4, .int x), (5, .long (dgM n b m0 m1 m2 m3 m5 m6 m7 r y)), (7, .int (nI n)), (16, .ref nm), (17, .int (nI pl))] []) : zv_V pP l eE room_1 sS mM aA bB mT cD Q 27 D vwCl A A (tyS cI cZ cA) ((s 0, .inr (2, [.int r, .int y, .ref (s 1), .ref (s 2)])) :: (s 1, .inl (cA, n, aq pa)) :: (s 2, .inl (cA, b, aq da)) :: (sR cI 6 pa (rP m0 m1 m2 m3 m4 m5) n ++ (sR cI 2 da (rB m6 m7) b ++ w))) kc ns 1005 [(0, .ref sc), (1, .ref a), (2, .ref (s 0)), (3, .int (nI ti)), (4, .int x), (5, .long (dgM n b m0 m1 m2 m3 m5 m6 m7 r y)), (7, .int (nI n))] [] := by
  have hV := hR.lv
  have hn16 : n ≤ 16 := hV.n16
  have hb16 : b ≤ 16 := hV.b16
  obtain ⟨fs, hrc⟩ := hR.recv
  obtain ⟨d, sD, hD⟩ := hV.dep
  refine zv_aload_n C dL_law_1005 1006 rfl 1 rfl ?_
  refine zn_callNS (rest := []) C zn_TB zn_TE (k_L_names l D cI cZ cA hR) (va_cwS 1 C.1.2.2.2.2 gL_law_L_names rfl rfl rfl (by decide +kernel) ⟨Nat.le_of_ble_eq_true rfl, Nat.le_of_ble_eq_true rfl⟩) dL_law_1006 1009 rfl rfl rfl (Nat.le_of_ble_eq_true rfl) ⟨(by show kc + 1 ≤ 600130; omega), (by show ns + 16 ≤ 7301079; omega)⟩ [0, 1, 2] rfl (List.Sublist.cons _ (List.Sublist.cons _ (List.Sublist.cons _ ((List.sublist_append_right _ _).trans (List.sublist_append_right _ _))))) C.2 (fun v w1 hv hw1 => ?_)
  obtain ⟨nm, g, rfl, rfl, hg⟩ := hv
  refine zv_wd (ws' := ((nm, .inl (cI, n, .inl g)) :: (s 0, .inr (2, [.int r, .int y, .ref (s 1), .ref (s 2)])) :: (s 1, .inl (cA, n, aq pa)) :: (s 2, .inl (cA, b, aq da)) :: (sR cI 6 pa (rP m0 m1 m2 m3 m4 m5) n ++ (sR cI 2 da (rB m6 m7) b ++ w)))) rfl ?_
  refine zv_go rfl rfl (st' := [.ref nm]) rfl (kc' := (kc + 1)) rfl (ns' := (ns + 16)) rfl ?_
  refine zv_astore C dL_law_1009 1011 rfl [(16, .ref nm), (0, .ref sc), (1, .ref a), (2, .ref (s 0)), (3, .int (nI ti)), (4, .int x), (5, .long (dgM n b m0 m1 m2 m3 m5 m6 m7 r y)), (7, .int (nI n))] (by decide) rfl ?_
  refine zv_iload C dL_law_1011 1013 rfl 5 rfl ?_
  refine zv_iconst (v := 4) C dL_law_1013 1014 rfl (by decide) ?_
  refine zn_ishr C dL_law_1014 1015 rfl ?_
  refine zv_iload C dL_law_1015 1017 rfl 7 rfl ?_
  refine zn_callRS (rest := []) C zn_TB zn_TE (zn_ofR (k_L_below l D cI cZ cA (x >>> ((4 : Int32) &&& 31)) n hn0 (by omega))) (va_cwS 2 C.1.2.2.2.2 gL_law_L_below rfl rfl rfl (by decide +kernel) ⟨Nat.le_of_ble_eq_true rfl, Nat.le_of_ble_eq_true rfl⟩) dL_law_1017 1020 rfl rfl rfl (Nat.le_of_ble_eq_true rfl) ⟨(by show kc + 1 + 0 ≤ 600130; omega), (by show ns + 16 + 0 ≤ 7301079; omega)⟩ [0, 1] rfl (List.nil_sublist _) (fun v hv => ?_)
  subst hv
  refine zv_go rfl rfl (st' := [.int (nI (bl (x >>> ((4 : Int32) &&& 31)) n))]) rfl (kc' := (kc + 1)) rfl (ns' := (ns + 16)) rfl ?_
  obtain ⟨pl, hpl, epl⟩ : ∃ pl, pl < n ∧ bl (x >>> ((4 : Int32) &&& 31)) n = pl := ⟨_, bl_lt _ hn0, rfl⟩
  refine zv_go rfl rfl (st' := [.int (nI pl)]) (by rw [epl]) rfl rfl ?_
  refine zv_istore C dL_law_1020 1022 rfl [(17, .int (nI pl)), (16, .ref nm), (0, .ref sc), (1, .ref a), (2, .ref (s 0)), (3, .int (nI ti)), (4, .int x), (5, .long (dgM n b m0 m1 m2 m3 m5 m6 m7 r y)), (7, .int (nI n))] (by decide) rfl ?_
  refine zv_aload_n C dL_law_1022 1023 rfl 3 rfl ?_
  refine zv_iload C dL_law_1023 1025 rfl 0 rfl ?_
  refine zv_wd (ws' := ((nm, .inl (cI, n, .inl g)) :: (s 0, .inr (2, [.int r, .int y, .ref (s 1), .ref (s 2)])) :: (s 1, .inl (cA, n, aq pa)) :: (s 2, .inl (cA, b, aq da)) :: (sR cI 6 pa (rP m0 m1 m2 m3 m4 m5) n ++ sR cI 2 da (rB m6 m7) b)) ++ (w ++ [])) (by simp only [List.append_assoc, List.cons_append, List.append_nil, List.nil_append] <;> rfl) ?_
  refine zn_callMV (a := ((nm, .inl (cI, n, .inl g)) :: (s 0, .inr (2, [.int r, .int y, .ref (s 1), .ref (s 2)])) :: (s 1, .inl (cA, n, aq pa)) :: (s 2, .inl (cA, b, aq da)) :: (sR cI 6 pa (rP m0 m1 m2 m3 m4 m5) n ++ sR cI 2 da (rB m6 m7) b))) (bb := []) (rest := []) C zn_TB zn_TE (zn_ofM (w_renamedByDelta l D hR pl hpl)) (cwV 1 C.1.2.2.2.2 gL_law_X1_renamedByDelta rfl rfl rfl (by decide +kernel) ⟨Nat.le_of_ble_eq_true rfl, Nat.le_of_ble_eq_true rfl⟩) dL_law_1025 1028 rfl (ci := 1) rfl 0 hrc rfl rfl (Nat.le_of_ble_eq_true rfl) ⟨(by show kc + 1 + 0 ≤ 600130; omega), (by show ns + 16 + 0 ≤ 7301079; omega)⟩ [0, 1] rfl (fun v w' hv => ?_)
  obtain ⟨rfl, hR2⟩ := hv
  refine zv_wd (ws' := ((nm, .inl (cI, n, .inl g)) :: (s 0, .inr (2, [.int r, .int y, .ref (s 1), .ref (s 2)])) :: (s 1, .inl (cA, n, aq pa)) :: (s 2, .inl (cA, b, aq da)) :: (sR cI 6 pa (rP m0 m1 m2 m3 m4 m5) n ++ (sR cI 2 da (rB m6 m7) b ++ w')))) (by simp only [List.append_assoc, List.cons_append, List.append_nil, List.nil_append] <;> rfl) ?_
  refine zv_go rfl rfl (st' := [.int (nI (cne (nmS n m0 m1 m2 m3 (upd m5 pl (tg (m5 pl))) r) (nmS n m0 m1 m2 m3 m5 r) n))]) rfl (kc' := (kc + 1)) rfl (ns' := (ns + 16)) rfl ?_
  have hRa := hR2
  obtain ⟨fs2, hrc⟩ := hRa.recv
  refine zv_istore C dL_law_1028 1030 rfl [(18, .int (nI (cne (nmS n m0 m1 m2 m3 (upd m5 pl (tg (m5 pl))) r) (nmS n m0 m1 m2 m3 m5 r) n))), (17, .int (nI pl)), (16, .ref nm), (0, .ref sc), (1, .ref a), (2, .ref (s 0)), (3, .int (nI ti)), (4, .int x), (5, .long (dgM n b m0 m1 m2 m3 m5 m6 m7 r y)), (7, .int (nI n))] (by decide) rfl ?_
  refine zv_aload_n C dL_law_1030 1031 rfl 4 rfl ?_
  refine zv_iload C dL_law_1031 1033 rfl 1 rfl ?_
  refine zv_wd (ws' := ((nm, .inl (cI, n, .inl g)) :: (s 0, .inr (2, [.int r, .int y, .ref (s 1), .ref (s 2)])) :: (s 1, .inl (cA, n, aq pa)) :: (s 2, .inl (cA, b, aq da)) :: (sR cI 6 pa (rP m0 m1 m2 m3 m4 m5) n ++ sR cI 2 da (rB m6 m7) b)) ++ (w' ++ [])) (by simp only [List.append_assoc, List.cons_append, List.append_nil, List.nil_append] <;> rfl) ?_
  refine zn_callMV (a := ((nm, .inl (cI, n, .inl g)) :: (s 0, .inr (2, [.int r, .int y, .ref (s 1), .ref (s 2)])) :: (s 1, .inl (cA, n, aq pa)) :: (s 2, .inl (cA, b, aq da)) :: (sR cI 6 pa (rP m0 m1 m2 m3 m4 m5) n ++ sR cI 2 da (rB m6 m7) b))) (bb := []) (rest := []) C zn_TB zn_TE (zn_ofM (w_turnDelta l D hRa pl hpl)) (cwV 1 C.1.2.2.2.2 gL_law_X1_turnDelta rfl rfl rfl (by decide +kernel) ⟨Nat.le_of_ble_eq_true rfl, Nat.le_of_ble_eq_true rfl⟩) dL_law_1033 1036 rfl (ci := 1) rfl 0 hrc rfl rfl (Nat.le_of_ble_eq_true rfl) ⟨(by show kc + 1 + 0 ≤ 600130; omega), (by show ns + 16 + 0 ≤ 7301079; omega)⟩ [0, 1] rfl (fun v w' hv => ?_)
  obtain ⟨rfl, hR2⟩ := hv
  refine zv_wd (ws' := ((nm, .inl (cI, n, .inl g)) :: (s 0, .inr (2, [.int r, .int y, .ref (s 1), .ref (s 2)])) :: (s 1, .inl (cA, n, aq pa)) :: (s 2, .inl (cA, b, aq da)) :: (sR cI 6 pa (rP m0 m1 m2 m3 m4 m5) n ++ (sR cI 2 da (rB m6 m7) b ++ w')))) (by simp only [List.append_assoc, List.cons_append, List.append_nil, List.nil_append] <;> rfl) ?_
  refine zv_go rfl rfl (st' := [.int (tg (m5 pl))]) rfl (kc' := (kc + 1)) rfl (ns' := (ns + 16)) rfl ?_
  have hRb := hR2
  obtain ⟨fs3, hrc⟩ := hRb.recv
  have hVb := hRb.lv
  refine zv_istore C dL_law_1036 1038 rfl [(19, .int (tg (m5 pl))), (18, .int (nI (cne (nmS n m0 m1 m2 m3 (upd m5 pl (tg (m5 pl))) r) (nmS n m0 m1 m2 m3 m5 r) n))), (17, .int (nI pl)), (16, .ref nm), (0, .ref sc), (1, .ref a), (2, .ref (s 0)), (3, .int (nI ti)), (4, .int x), (5, .long (dgM n b m0 m1 m2 m3 m5 m6 m7 r y)), (7, .int (nI n))] (by decide) rfl ?_
  refine zv_aload_n C dL_law_1038 1039 rfl 5 rfl ?_
  refine zn_callNS (rest := []) C zn_TB zn_TE (k_L_names l D cI cZ cA hRb) (va_cwS 1 C.1.2.2.2.2 gL_law_L_names rfl rfl rfl (by decide +kernel) ⟨Nat.le_of_ble_eq_true rfl, Nat.le_of_ble_eq_true rfl⟩) dL_law_1039 1042 rfl rfl rfl (Nat.le_of_ble_eq_true rfl) ⟨(by show kc + 1 + 1 ≤ 600130; omega), (by show ns + 16 + 16 ≤ 7301079; omega)⟩ [0, 1, 2] rfl (List.Sublist.cons _ (List.Sublist.cons _ (List.Sublist.cons _ (List.Sublist.cons _ ((List.sublist_append_right _ _).trans (List.sublist_append_right _ _)))))) C.2 (fun v w2 hv hw2 => ?_)
  obtain ⟨nm2, g2, rfl, rfl, hg2⟩ := hv
  refine zv_wd (ws' := ((nm2, .inl (cI, n, .inl g2)) :: (nm, .inl (cI, n, .inl g)) :: (s 0, .inr (2, [.int r, .int y, .ref (s 1), .ref (s 2)])) :: (s 1, .inl (cA, n, aq pa)) :: (s 2, .inl (cA, b, aq da)) :: (sR cI 6 pa (rP m0 m1 m2 m3 m4 m5) n ++ (sR cI 2 da (rB m6 m7) b ++ w')))) rfl ?_
  refine zv_go rfl rfl (st' := [.ref nm2]) rfl (kc' := (kc + 1 + 1)) rfl (ns' := (ns + 16 + 16)) rfl ?_
  refine zv_aload C dL_law_1042 1044 rfl 3 rfl ?_
  refine zn_callRS (rest := []) C zn_TB zn_TE (zn_ofR (k_X2_differ l D cI cZ cA nm2 nm n g2 g hn16)) (va_cwS 2 C.1.2.2.2.2 gL_law_X2_differ rfl rfl rfl (by decide +kernel) ⟨Nat.le_of_ble_eq_true rfl, Nat.le_of_ble_eq_true rfl⟩) dL_law_1044 1047 rfl rfl rfl (Nat.le_of_ble_eq_true rfl) ⟨(by show kc + 1 + 1 + 0 ≤ 600130; omega), (by show ns + 16 + 16 + 0 ≤ 7301079; omega)⟩ [0, 1, 2] rfl (List.Sublist.cons_cons _ (List.Sublist.cons_cons _ (List.nil_sublist _))) (fun v hv => ?_)
  subst hv
  have hdf : cne g2 g n = cne (nmS n m0 m1 m2 m3 (upd m5 pl (tg (m5 pl))) r) (nmS n m0 m1 m2 m3 m5 r) n := cne_congr n hg2 hg
  rw [hdf]
  refine zv_go rfl rfl (st' := [.int (nI (cne (nmS n m0 m1 m2 m3 (upd m5 pl (tg (m5 pl))) r) (nmS n m0 m1 m2 m3 m5 r) n))]) rfl (kc' := (kc + 1 + 1)) rfl (ns' := (ns + 16 + 16)) rfl ?_
  refine zn_part (ws' := ((nm, .inl (cI, n, .inl g)) :: (s 0, .inr (2, [.int r, .int y, .ref (s 1), .ref (s 2)])) :: (s 1, .inl (cA, n, aq pa)) :: (s 2, .inl (cA, b, aq da)) :: (sR cI 6 pa (rP m0 m1 m2 m3 m4 m5) n ++ (sR cI 2 da (rB m6 m7) b ++ w')))) (List.Sublist.cons _ (List.Sublist.refl _)) ?_
  refine zv_iload C dL_law_1047 1049 rfl 1 rfl ?_
  refine zv_icmp_ne C dL_law_1049 1052 1098 rfl (by decide) (fun c => absurd c (fun c => c rfl)) (fun _ => ?_)
  refine zv_iload C dL_law_1052 1054 rfl 0 rfl ?_
  have K6 : zv_V pP l eE room_1 sS mM aA bB mT cD Q 27 D vwCl A A (tyS cI cZ cA) ((nm, .inl (cI, n, .inl g)) :: (s 0, .inr (2, [.int r, .int y, .ref (s 1), .ref (s 2)])) :: (s 1, .inl (cA, n, aq pa)) :: (s 2, .inl (cA, b, aq da)) :: (sR cI 6 pa (rP m0 m1 m2 m3 m4 m5) n ++ (sR cI 2 da (rB m6 m7) b ++ w'))) (kc + 1 + 1) (ns + 16 + 16) 1066 [(0, .ref sc), (1, .ref a), (2, .ref (s 0)), (3, .int (nI ti)), (4, .int x), (5, .long (dgM n b m0 m1 m2 m3 m5 m6 m7 r y)), (7, .int (nI n)), (16, .ref nm), (17, .int (nI pl)), (18, .int (nI (cne (nmS n m0 m1 m2 m3 (upd m5 pl (tg (m5 pl))) r) (nmS n m0 m1 m2 m3 m5 r) n))), (19, .int (tg (m5 pl)))] [] := by
    have hbk := tg_back hV.zm5 pl
    have hbd : cne (nmS n m0 m1 m2 m3 (upd (upd m5 pl (tg (m5 pl))) pl (tg ((upd m5 pl (tg (m5 pl))) pl))) r) (nmS n m0 m1 m2 m3 (upd m5 pl (tg (m5 pl))) r) n = cne (nmS n m0 m1 m2 m3 (upd m5 pl (tg (m5 pl))) r) (nmS n m0 m1 m2 m3 m5 r) n := by
      rw [hbk]; exact cne_sym _ _ n
    refine zv_aload_n C dL_law_1066 1067 rfl 1 rfl ?_
    refine zv_iload C dL_law_1067 1069 rfl 8 rfl ?_
    refine zv_wd (ws' := ((nm, .inl (cI, n, .inl g)) :: (s 0, .inr (2, [.int r, .int y, .ref (s 1), .ref (s 2)])) :: (s 1, .inl (cA, n, aq pa)) :: (s 2, .inl (cA, b, aq da)) :: (sR cI 6 pa (rP m0 m1 m2 m3 m4 m5) n ++ sR cI 2 da (rB m6 m7) b)) ++ (w' ++ [])) (by simp only [List.append_assoc, List.cons_append, List.append_nil, List.nil_append] <;> rfl) ?_
    refine zn_callMV (a := ((nm, .inl (cI, n, .inl g)) :: (s 0, .inr (2, [.int r, .int y, .ref (s 1), .ref (s 2)])) :: (s 1, .inl (cA, n, aq pa)) :: (s 2, .inl (cA, b, aq da)) :: (sR cI 6 pa (rP m0 m1 m2 m3 m4 m5) n ++ sR cI 2 da (rB m6 m7) b))) (bb := []) (rest := []) C zn_TB zn_TE (zn_ofM (w_renamedByDelta l D hRb pl hpl)) (cwV 1 C.1.2.2.2.2 gL_law_X1_renamedByDelta rfl rfl rfl (by decide +kernel) ⟨Nat.le_of_ble_eq_true rfl, Nat.le_of_ble_eq_true rfl⟩) dL_law_1069 1072 rfl (ci := 1) rfl 0 hrc rfl rfl (Nat.le_of_ble_eq_true rfl) ⟨(by show kc + 1 + 1 + 0 ≤ 600130; omega), (by show ns + 16 + 16 + 0 ≤ 7301079; omega)⟩ [0, 1] rfl (fun v w' hv => ?_)
    obtain ⟨rfl, hR2⟩ := hv
    refine zv_wd (ws' := ((nm, .inl (cI, n, .inl g)) :: (s 0, .inr (2, [.int r, .int y, .ref (s 1), .ref (s 2)])) :: (s 1, .inl (cA, n, aq pa)) :: (s 2, .inl (cA, b, aq da)) :: (sR cI 6 pa (rP m0 m1 m2 m3 m4 m5) n ++ (sR cI 2 da (rB m6 m7) b ++ w')))) (by simp only [List.append_assoc, List.cons_append, List.append_nil, List.nil_append] <;> rfl) ?_
    refine zv_go rfl rfl (st' := [.int (nI (cne (nmS n m0 m1 m2 m3 (upd (upd m5 pl (tg (m5 pl))) pl (tg ((upd m5 pl (tg (m5 pl))) pl))) r) (nmS n m0 m1 m2 m3 (upd m5 pl (tg (m5 pl))) r) n))]) rfl (kc' := (kc + 1 + 1)) rfl (ns' := (ns + 16 + 16)) rfl ?_
    have hRc := hR2
    obtain ⟨fs4, hrc⟩ := hRc.recv
    refine zv_iload C dL_law_1072 1074 rfl 9 rfl ?_
    refine zv_icmp_ne C dL_law_1074 1077 1098 rfl (by decide) (fun c => absurd c (fun c => c (by rw [hbd]))) (fun _ => ?_)
    refine zv_aload_n C dL_law_1077 1078 rfl 1 rfl ?_
    refine zv_iload C dL_law_1078 1080 rfl 8 rfl ?_
    refine zv_wd (ws' := ((nm, .inl (cI, n, .inl g)) :: (s 0, .inr (2, [.int r, .int y, .ref (s 1), .ref (s 2)])) :: (s 1, .inl (cA, n, aq pa)) :: (s 2, .inl (cA, b, aq da)) :: (sR cI 6 pa (rP m0 m1 m2 m3 m4 m5) n ++ sR cI 2 da (rB m6 m7) b)) ++ (w' ++ [])) (by simp only [List.append_assoc, List.cons_append, List.append_nil, List.nil_append] <;> rfl) ?_
    refine zn_callMV (a := ((nm, .inl (cI, n, .inl g)) :: (s 0, .inr (2, [.int r, .int y, .ref (s 1), .ref (s 2)])) :: (s 1, .inl (cA, n, aq pa)) :: (s 2, .inl (cA, b, aq da)) :: (sR cI 6 pa (rP m0 m1 m2 m3 m4 m5) n ++ sR cI 2 da (rB m6 m7) b))) (bb := []) (rest := []) C zn_TB zn_TE (zn_ofM (w_turnDelta l D hRc pl hpl)) (cwV 1 C.1.2.2.2.2 gL_law_X1_turnDelta rfl rfl rfl (by decide +kernel) ⟨Nat.le_of_ble_eq_true rfl, Nat.le_of_ble_eq_true rfl⟩) dL_law_1080 1083 rfl (ci := 1) rfl 0 hrc rfl rfl (Nat.le_of_ble_eq_true rfl) ⟨(by show kc + 1 + 1 + 0 ≤ 600130; omega), (by show ns + 16 + 16 + 0 ≤ 7301079; omega)⟩ [0, 1] rfl (fun v w' hv => ?_)
    obtain ⟨rfl, hR2⟩ := hv
    refine zv_wd (ws' := ((nm, .inl (cI, n, .inl g)) :: (s 0, .inr (2, [.int r, .int y, .ref (s 1), .ref (s 2)])) :: (s 1, .inl (cA, n, aq pa)) :: (s 2, .inl (cA, b, aq da)) :: (sR cI 6 pa (rP m0 m1 m2 m3 m4 m5) n ++ (sR cI 2 da (rB m6 m7) b ++ w')))) (by simp only [List.append_assoc, List.cons_append, List.append_nil, List.nil_append] <;> rfl) ?_
    refine zv_go rfl rfl (st' := [.int (tg ((upd m5 pl (tg (m5 pl))) pl))]) rfl (kc' := (kc + 1 + 1)) rfl (ns' := (ns + 16 + 16)) rfl ?_
    rw [hbk] at hR2
    have hRd := hR2
    obtain ⟨fs5, hrc⟩ := hRd.recv
    refine zv_iload C dL_law_1083 1085 rfl 10 rfl ?_
    refine zv_icmp_eq C dL_law_1085 1088 1098 rfl (by decide) (fun c => absurd c (by rw [upd_at]; exact tg_ne (hV.zm5 pl))) (fun _ => ?_)
    refine zv_aload_n C dL_law_1088 1089 rfl 1 rfl ?_
    refine zv_wd (ws' := ((nm, .inl (cI, n, .inl g)) :: (s 0, .inr (2, [.int r, .int y, .ref (s 1), .ref (s 2)])) :: (s 1, .inl (cA, n, aq pa)) :: (s 2, .inl (cA, b, aq da)) :: (sR cI 6 pa (rP m0 m1 m2 m3 m4 m5) n ++ sR cI 2 da (rB m6 m7) b)) ++ (w' ++ [])) (by simp only [List.append_assoc, List.cons_append, List.append_nil, List.nil_append] <;> rfl) ?_
    refine zn_callMV (a := ((nm, .inl (cI, n, .inl g)) :: (s 0, .inr (2, [.int r, .int y, .ref (s 1), .ref (s 2)])) :: (s 1, .inl (cA, n, aq pa)) :: (s 2, .inl (cA, b, aq da)) :: (sR cI 6 pa (rP m0 m1 m2 m3 m4 m5) n ++ sR cI 2 da (rB m6 m7) b))) (bb := []) (rest := []) C zn_TB zn_TE (zn_ofM (w_digest l D hRd)) (cwV 0 C.1.2.2.2.2 gL_law_X1_digest rfl rfl rfl (by decide +kernel) ⟨Nat.le_of_ble_eq_true rfl, Nat.le_of_ble_eq_true rfl⟩) dL_law_1089 1092 rfl (ci := 1) rfl 0 hrc rfl rfl (Nat.le_of_ble_eq_true rfl) ⟨(by show kc + 1 + 1 + 0 ≤ 600130; omega), (by show ns + 16 + 16 + 0 ≤ 7301079; omega)⟩ [0, 1] rfl (fun v w' hv => ?_)
    obtain ⟨rfl, hR2⟩ := hv
    refine zv_wd (ws' := ((nm, .inl (cI, n, .inl g)) :: (s 0, .inr (2, [.int r, .int y, .ref (s 1), .ref (s 2)])) :: (s 1, .inl (cA, n, aq pa)) :: (s 2, .inl (cA, b, aq da)) :: (sR cI 6 pa (rP m0 m1 m2 m3 m4 m5) n ++ (sR cI 2 da (rB m6 m7) b ++ w')))) (by simp only [List.append_assoc, List.cons_append, List.append_nil, List.nil_append] <;> rfl) ?_
    refine zv_go rfl rfl (st' := [.long (dgM n b m0 m1 m2 m3 m5 m6 m7 r y)]) rfl (kc' := (kc + 1 + 1)) rfl (ns' := (ns + 16 + 16)) rfl ?_
    refine zv_lload C dL_law_1092 1094 rfl 5 rfl ?_
    refine zv_lcmpE C dL_law_1094 1095 rfl rfl ?_
    refine zv_if_eq C dL_law_1095 1098 1100 rfl (by decide) (fun _ => ?_) (fun c => absurd rfl c)
    refine zv_sub [0, 1, 2, 3, 4, 5, 6, 7, 8] (lv' := [(0, .ref sc), (1, .ref a), (2, .ref (s 0)), (3, .int (nI ti)), (4, .int x), (5, .long (dgM n b m0 m1 m2 m3 m5 m6 m7 r y)), (7, .int (nI n)), (16, .ref nm), (17, .int (nI pl))]) rfl ?_
    exact K w' nm pl g hpl hg hR2
  refine zv_if_eq C dL_law_1054 1057 1066 rfl (by decide) (fun cd => ?_) (fun cd => ?_)
  ·
    refine zv_sub [4, 5, 6, 7, 8, 9, 10, 3, 2, 1, 0] (lv' := [(0, .ref sc), (1, .ref a), (2, .ref (s 0)), (3, .int (nI ti)), (4, .int x), (5, .long (dgM n b m0 m1 m2 m3 m5 m6 m7 r y)), (7, .int (nI n)), (16, .ref nm), (17, .int (nI pl)), (18, .int (nI (cne (nmS n m0 m1 m2 m3 (upd m5 pl (tg (m5 pl))) r) (nmS n m0 m1 m2 m3 m5 r) n))), (19, .int (tg (m5 pl)))]) rfl ?_
    exact K6
  ·
    have hdel : nmS n m0 m1 m2 m3 (upd m5 pl (tg (m5 pl))) r pl = -1 := hVb.del hpl (by rw [upd_at]; exact cd)
    refine zv_aload_n C dL_law_1057 1058 rfl 5 rfl ?_
    refine zv_iload C dL_law_1058 1060 rfl 2 rfl ?_
    refine zn_callRV (rest := []) C zn_TB zn_TE (zn_ofR (w_nameAt l D hRb pl hpl)) (cwV 1 C.1.2.2.2.2 gL_law_X1_nameAt rfl rfl rfl (by decide +kernel) ⟨Nat.le_of_ble_eq_true rfl, Nat.le_of_ble_eq_true rfl⟩) dL_law_1060 1063 rfl (ci := 1) rfl 0 hrc rfl rfl (Nat.le_of_ble_eq_true rfl) ⟨(by show kc + 1 + 1 + 0 ≤ 600130; omega), (by show ns + 16 + 16 + 0 ≤ 7301079; omega)⟩ [0, 1] rfl (List.Sublist.cons _ (List.Sublist.cons _ (List.Sublist.cons _ (List.Sublist.cons _ ((List.sublist_append_right _ _).trans (List.sublist_append_right _ _)))))) (fun v hv => ?_)
    subst hv
    rw [hdel]
    refine zv_go rfl rfl (st' := [.int (-1 : Int32)]) rfl (kc' := (kc + 1 + 1)) rfl (ns' := (ns + 16 + 16)) rfl ?_
    refine zv_if_ge C dL_law_1063 1066 1098 rfl (by decide) (fun c => absurd c (by decide)) (fun _ => ?_)
    refine zv_sub [4, 5, 6, 7, 8, 9, 10, 3, 2, 1, 0] (lv' := [(0, .ref sc), (1, .ref a), (2, .ref (s 0)), (3, .int (nI ti)), (4, .int x), (5, .long (dgM n b m0 m1 m2 m3 m5 m6 m7 r y)), (7, .int (nI n)), (16, .ref nm), (17, .int (nI pl)), (18, .int (nI (cne (nmS n m0 m1 m2 m3 (upd m5 pl (tg (m5 pl))) r) (nmS n m0 m1 m2 m3 m5 r) n))), (19, .int (tg (m5 pl)))]) rfl ?_
    exact K6
set_option maxHeartbeats 4000000 in
set_option maxRecDepth 100000 in
theorem la_rule {pP : Program} {l : Launch} {eE : Env} {sS : State} {mM : MethodId} {aA : Array Value} {bB : List Frame} {mT : Method} {cD : Code} {Q : State → Prop} {D : va_G} {cI cZ cA : ClassId} {A : Nat → Prop} (C : zv_C pP mM cD cL_law 27 sS aA wsL_law "RiverNamesLaw" A) {a n b : Nat} {r y : Int32} {m0 m1 m2 m3 m4 m5 m6 m7 : Nat → Int32} {w : va_W} (hR : zR cI cZ a n b r y m0 m1 m2 m3 m4 m5 m6 m7 w) {s pa da : Nat → Nat} {sc ti kc ns : Nat} {x : Int32} (hkc : kc ≤ 600000) (hns : ns ≤ 7300000) {nm pl : Nat} {g : Nat → Int32} (hg : ∀ i, i < n → g i = nmS n m0 m1 m2 m3 m5 r i) (K : ∀ w' : va_W, zR cI cZ a n b r y m0 m1 m2 m3 m4 m5 m6 m7 w' → zv_V pP l eE room_1 sS mM aA bB mT cD Q 27 D vwCl A A (tyS cI cZ cA) ((nm, .inl (cI, n, .inl g)) :: (s 0, .inr (2, [.int r, .int y, .ref (s 1), .ref (s 2)])) :: (s 1, .inl (cA, n, aq pa)) :: (s 2, .inl (cA, b, aq da)) :: (sR cI 6 pa (rP m0 m1 m2 m3 m4 m5) n ++ (sR cI 2 da (rB m6 m7) b ++ w'))) (kc + 1) (ns + 16) 1173 [(0, .ref sc), (1, .ref a), (2, .ref (s 0)), (3, .int (nI ti)), (4, .int x), (5, .long (dgM n b m0 m1 m2 m3 m5 m6 m7 r y)), (7, .int (nI n)), (16, .ref nm), (17, .int (nI pl))] []) : zv_V pP l eE room_1 sS mM aA bB mT cD Q 27 D vwCl A A (tyS cI cZ cA) ((nm, .inl (cI, n, .inl g)) :: (s 0, .inr (2, [.int r, .int y, .ref (s 1), .ref (s 2)])) :: (s 1, .inl (cA, n, aq pa)) :: (s 2, .inl (cA, b, aq da)) :: (sR cI 6 pa (rP m0 m1 m2 m3 m4 m5) n ++ (sR cI 2 da (rB m6 m7) b ++ w))) kc ns 1100 [(0, .ref sc), (1, .ref a), (2, .ref (s 0)), (3, .int (nI ti)), (4, .int x), (5, .long (dgM n b m0 m1 m2 m3 m5 m6 m7 r y)), (7, .int (nI n)), (16, .ref nm), (17, .int (nI pl))] [] := by
  have hV := hR.lv
  have hn16 : n ≤ 16 := hV.n16
  have hb16 : b ≤ 16 := hV.b16
  obtain ⟨fs, hrc⟩ := hR.recv
  obtain ⟨d, sD, hD⟩ := hV.dep
  refine zv_aload_n C dL_law_1100 1101 rfl 1 rfl ?_
  refine zv_wd (ws' := ((nm, .inl (cI, n, .inl g)) :: (s 0, .inr (2, [.int r, .int y, .ref (s 1), .ref (s 2)])) :: (s 1, .inl (cA, n, aq pa)) :: (s 2, .inl (cA, b, aq da)) :: (sR cI 6 pa (rP m0 m1 m2 m3 m4 m5) n ++ sR cI 2 da (rB m6 m7) b)) ++ (w ++ [])) (by simp only [List.append_assoc, List.cons_append, List.append_nil, List.nil_append] <;> rfl) ?_
  refine zn_callMV (a := ((nm, .inl (cI, n, .inl g)) :: (s 0, .inr (2, [.int r, .int y, .ref (s 1), .ref (s 2)])) :: (s 1, .inl (cA, n, aq pa)) :: (s 2, .inl (cA, b, aq da)) :: (sR cI 6 pa (rP m0 m1 m2 m3 m4 m5) n ++ sR cI 2 da (rB m6 m7) b))) (bb := []) (rest := []) C zn_TB zn_TE (zn_ofM (w_renamedByRule l D hR)) (cwV 0 C.1.2.2.2.2 gL_law_X1_renamedByRule rfl rfl rfl (by decide +kernel) ⟨Nat.le_of_ble_eq_true rfl, Nat.le_of_ble_eq_true rfl⟩) dL_law_1101 1104 rfl (ci := 1) rfl 0 hrc rfl rfl (Nat.le_of_ble_eq_true rfl) ⟨(by show kc + 0 ≤ 600130; omega), (by show ns + 0 ≤ 7301079; omega)⟩ [0, 1] rfl (fun v w' hv => ?_)
  obtain ⟨rfl, hR2⟩ := hv
  refine zv_wd (ws' := ((nm, .inl (cI, n, .inl g)) :: (s 0, .inr (2, [.int r, .int y, .ref (s 1), .ref (s 2)])) :: (s 1, .inl (cA, n, aq pa)) :: (s 2, .inl (cA, b, aq da)) :: (sR cI 6 pa (rP m0 m1 m2 m3 m4 m5) n ++ (sR cI 2 da (rB m6 m7) b ++ w')))) (by simp only [List.append_assoc, List.cons_append, List.append_nil, List.nil_append] <;> rfl) ?_
  refine zv_go rfl rfl (st' := [.int (nI (cne (nmS n m0 m1 m2 m3 m5 (1 - r)) (nmS n m0 m1 m2 m3 m5 r) n))]) rfl (kc' := kc) rfl (ns' := ns) rfl ?_
  have hRa := hR2
  obtain ⟨fs2, hrc⟩ := hRa.recv
  refine zv_istore C dL_law_1104 1106 rfl [(20, .int (nI (cne (nmS n m0 m1 m2 m3 m5 (1 - r)) (nmS n m0 m1 m2 m3 m5 r) n))), (0, .ref sc), (1, .ref a), (2, .ref (s 0)), (3, .int (nI ti)), (4, .int x), (5, .long (dgM n b m0 m1 m2 m3 m5 m6 m7 r y)), (7, .int (nI n)), (16, .ref nm), (17, .int (nI pl))] (by decide) rfl ?_
  refine zv_aload_n C dL_law_1106 1107 rfl 2 rfl ?_
  refine zv_iconst (v := 1) C dL_law_1107 1108 rfl (by decide) ?_
  refine zv_wd (ws' := ((nm, .inl (cI, n, .inl g)) :: (s 0, .inr (2, [.int r, .int y, .ref (s 1), .ref (s 2)])) :: (s 1, .inl (cA, n, aq pa)) :: (s 2, .inl (cA, b, aq da)) :: (sR cI 6 pa (rP m0 m1 m2 m3 m4 m5) n ++ sR cI 2 da (rB m6 m7) b)) ++ (w' ++ [])) (by simp only [List.append_assoc, List.cons_append, List.append_nil, List.nil_append] <;> rfl) ?_
  refine zn_callMV (a := ((nm, .inl (cI, n, .inl g)) :: (s 0, .inr (2, [.int r, .int y, .ref (s 1), .ref (s 2)])) :: (s 1, .inl (cA, n, aq pa)) :: (s 2, .inl (cA, b, aq da)) :: (sR cI 6 pa (rP m0 m1 m2 m3 m4 m5) n ++ sR cI 2 da (rB m6 m7) b))) (bb := []) (rest := []) C zn_TB zn_TE (zn_ofM (w_setRule l D hRa 1 (by decide))) (cwV 1 C.1.2.2.2.2 gL_law_X1_setRule rfl rfl rfl (by decide +kernel) ⟨Nat.le_of_ble_eq_true rfl, Nat.le_of_ble_eq_true rfl⟩) dL_law_1108 1111 rfl (ci := 1) rfl 0 hrc rfl rfl (Nat.le_of_ble_eq_true rfl) ⟨(by show kc + 0 ≤ 600130; omega), (by show ns + 0 ≤ 7301079; omega)⟩ [0, 1] rfl (fun v w' hv => ?_)
  obtain ⟨rfl, hR2⟩ := hv
  refine zv_wd (ws' := ((nm, .inl (cI, n, .inl g)) :: (s 0, .inr (2, [.int r, .int y, .ref (s 1), .ref (s 2)])) :: (s 1, .inl (cA, n, aq pa)) :: (s 2, .inl (cA, b, aq da)) :: (sR cI 6 pa (rP m0 m1 m2 m3 m4 m5) n ++ (sR cI 2 da (rB m6 m7) b ++ w')))) (by simp only [List.append_assoc, List.cons_append, List.append_nil, List.nil_append] <;> rfl) ?_
  refine zv_go rfl rfl (st' := [.int r]) rfl (kc' := kc) rfl (ns' := ns) rfl ?_
  have hRb := hR2
  obtain ⟨fs3, hrc⟩ := hRb.recv
  refine zv_istore C dL_law_1111 1113 rfl [(21, .int r), (20, .int (nI (cne (nmS n m0 m1 m2 m3 m5 (1 - r)) (nmS n m0 m1 m2 m3 m5 r) n))), (0, .ref sc), (1, .ref a), (2, .ref (s 0)), (3, .int (nI ti)), (4, .int x), (5, .long (dgM n b m0 m1 m2 m3 m5 m6 m7 r y)), (7, .int (nI n)), (16, .ref nm), (17, .int (nI pl))] (by decide) rfl ?_
  refine zv_iload C dL_law_1113 1115 rfl 0 rfl ?_
  refine zv_iconst (v := 1) C dL_law_1115 1116 rfl (by decide) ?_
  have K2 : ∀ u : va_W, zR cI cZ a n b (1 - r) y m0 m1 m2 m3 m4 m5 m6 m7 u → zv_V pP l eE room_1 sS mM aA bB mT cD Q 27 D vwCl A A (tyS cI cZ cA) ((nm, .inl (cI, n, .inl g)) :: (s 0, .inr (2, [.int r, .int y, .ref (s 1), .ref (s 2)])) :: (s 1, .inl (cA, n, aq pa)) :: (s 2, .inl (cA, b, aq da)) :: (sR cI 6 pa (rP m0 m1 m2 m3 m4 m5) n ++ (sR cI 2 da (rB m6 m7) b ++ u))) kc ns 1125 [(0, .ref sc), (1, .ref a), (2, .ref (s 0)), (3, .int (nI ti)), (4, .int x), (5, .long (dgM n b m0 m1 m2 m3 m5 m6 m7 r y)), (7, .int (nI n)), (16, .ref nm), (17, .int (nI pl)), (20, .int (nI (cne (nmS n m0 m1 m2 m3 m5 (1 - r)) (nmS n m0 m1 m2 m3 m5 r) n))), (21, .int r)] [] := by
    intro u hRu
    obtain ⟨fs4, hrc⟩ := hRu.recv
    refine zv_aload_n C dL_law_1125 1126 rfl 1 rfl ?_
    refine zn_callNS (rest := []) C zn_TB zn_TE (k_L_names l D cI cZ cA hRu) (va_cwS 1 C.1.2.2.2.2 gL_law_L_names rfl rfl rfl (by decide +kernel) ⟨Nat.le_of_ble_eq_true rfl, Nat.le_of_ble_eq_true rfl⟩) dL_law_1126 1129 rfl rfl rfl (Nat.le_of_ble_eq_true rfl) ⟨(by show kc + 1 ≤ 600130; omega), (by show ns + 16 ≤ 7301079; omega)⟩ [0, 1, 2] rfl (List.Sublist.cons _ (List.Sublist.cons _ (List.Sublist.cons _ (List.Sublist.cons _ ((List.sublist_append_right _ _).trans (List.sublist_append_right _ _)))))) C.2 (fun v w2 hv hw2 => ?_)
    obtain ⟨nm2, g2, rfl, rfl, hg2⟩ := hv
    refine zv_wd (ws' := ((nm2, .inl (cI, n, .inl g2)) :: (nm, .inl (cI, n, .inl g)) :: (s 0, .inr (2, [.int r, .int y, .ref (s 1), .ref (s 2)])) :: (s 1, .inl (cA, n, aq pa)) :: (s 2, .inl (cA, b, aq da)) :: (sR cI 6 pa (rP m0 m1 m2 m3 m4 m5) n ++ (sR cI 2 da (rB m6 m7) b ++ u)))) rfl ?_
    refine zv_go rfl rfl (st' := [.ref nm2]) rfl (kc' := (kc + 1)) rfl (ns' := (ns + 16)) rfl ?_
    refine zv_aload C dL_law_1129 1131 rfl 7 rfl ?_
    refine zn_callRS (rest := []) C zn_TB zn_TE (zn_ofR (k_X2_differ l D cI cZ cA nm2 nm n g2 g hn16)) (va_cwS 2 C.1.2.2.2.2 gL_law_X2_differ rfl rfl rfl (by decide +kernel) ⟨Nat.le_of_ble_eq_true rfl, Nat.le_of_ble_eq_true rfl⟩) dL_law_1131 1134 rfl rfl rfl (Nat.le_of_ble_eq_true rfl) ⟨(by show kc + 1 + 0 ≤ 600130; omega), (by show ns + 16 + 0 ≤ 7301079; omega)⟩ [0, 1, 2] rfl (List.Sublist.cons_cons _ (List.Sublist.cons_cons _ (List.nil_sublist _))) (fun v hv => ?_)
    subst hv
    have hdf : cne g2 g n = cne (nmS n m0 m1 m2 m3 m5 (1 - r)) (nmS n m0 m1 m2 m3 m5 r) n := cne_congr n hg2 hg
    rw [hdf]
    refine zv_go rfl rfl (st' := [.int (nI (cne (nmS n m0 m1 m2 m3 m5 (1 - r)) (nmS n m0 m1 m2 m3 m5 r) n))]) rfl (kc' := (kc + 1)) rfl (ns' := (ns + 16)) rfl ?_
    refine zn_part (ws' := ((nm, .inl (cI, n, .inl g)) :: (s 0, .inr (2, [.int r, .int y, .ref (s 1), .ref (s 2)])) :: (s 1, .inl (cA, n, aq pa)) :: (s 2, .inl (cA, b, aq da)) :: (sR cI 6 pa (rP m0 m1 m2 m3 m4 m5) n ++ (sR cI 2 da (rB m6 m7) b ++ u)))) (List.Sublist.cons _ (List.Sublist.refl _)) ?_
    refine zv_iload C dL_law_1134 1136 rfl 9 rfl ?_
    refine zv_icmp_ne C dL_law_1136 1139 1171 rfl (by decide) (fun c => absurd c (fun c => c rfl)) (fun _ => ?_)
    have hbd : cne (nmS n m0 m1 m2 m3 m5 (1 - (1 - r))) (nmS n m0 m1 m2 m3 m5 (1 - r)) n = cne (nmS n m0 m1 m2 m3 m5 (1 - r)) (nmS n m0 m1 m2 m3 m5 r) n := by
      rw [sub_sub1]; exact cne_sym _ _ n
    refine zv_aload_n C dL_law_1139 1140 rfl 1 rfl ?_
    refine zv_wd (ws' := ((nm, .inl (cI, n, .inl g)) :: (s 0, .inr (2, [.int r, .int y, .ref (s 1), .ref (s 2)])) :: (s 1, .inl (cA, n, aq pa)) :: (s 2, .inl (cA, b, aq da)) :: (sR cI 6 pa (rP m0 m1 m2 m3 m4 m5) n ++ sR cI 2 da (rB m6 m7) b)) ++ (u ++ [])) (by simp only [List.append_assoc, List.cons_append, List.append_nil, List.nil_append] <;> rfl) ?_
    refine zn_callMV (a := ((nm, .inl (cI, n, .inl g)) :: (s 0, .inr (2, [.int r, .int y, .ref (s 1), .ref (s 2)])) :: (s 1, .inl (cA, n, aq pa)) :: (s 2, .inl (cA, b, aq da)) :: (sR cI 6 pa (rP m0 m1 m2 m3 m4 m5) n ++ sR cI 2 da (rB m6 m7) b))) (bb := []) (rest := []) C zn_TB zn_TE (zn_ofM (w_renamedByRule l D hRu)) (cwV 0 C.1.2.2.2.2 gL_law_X1_renamedByRule rfl rfl rfl (by decide +kernel) ⟨Nat.le_of_ble_eq_true rfl, Nat.le_of_ble_eq_true rfl⟩) dL_law_1140 1143 rfl (ci := 1) rfl 0 hrc rfl rfl (Nat.le_of_ble_eq_true rfl) ⟨(by show kc + 1 + 0 ≤ 600130; omega), (by show ns + 16 + 0 ≤ 7301079; omega)⟩ [0, 1] rfl (fun v w' hv => ?_)
    obtain ⟨rfl, hR2⟩ := hv
    refine zv_wd (ws' := ((nm, .inl (cI, n, .inl g)) :: (s 0, .inr (2, [.int r, .int y, .ref (s 1), .ref (s 2)])) :: (s 1, .inl (cA, n, aq pa)) :: (s 2, .inl (cA, b, aq da)) :: (sR cI 6 pa (rP m0 m1 m2 m3 m4 m5) n ++ (sR cI 2 da (rB m6 m7) b ++ w')))) (by simp only [List.append_assoc, List.cons_append, List.append_nil, List.nil_append] <;> rfl) ?_
    refine zv_go rfl rfl (st' := [.int (nI (cne (nmS n m0 m1 m2 m3 m5 (1 - (1 - r))) (nmS n m0 m1 m2 m3 m5 (1 - r)) n))]) rfl (kc' := (kc + 1)) rfl (ns' := (ns + 16)) rfl ?_
    have hRc := hR2
    obtain ⟨fs5, hrc⟩ := hRc.recv
    refine zv_iload C dL_law_1143 1145 rfl 9 rfl ?_
    refine zv_icmp_ne C dL_law_1145 1148 1171 rfl (by decide) (fun c => absurd c (fun c => c (by rw [hbd]))) (fun _ => ?_)
    refine zv_aload_n C dL_law_1148 1149 rfl 1 rfl ?_
    refine zv_iload C dL_law_1149 1151 rfl 10 rfl ?_
    refine zv_wd (ws' := ((nm, .inl (cI, n, .inl g)) :: (s 0, .inr (2, [.int r, .int y, .ref (s 1), .ref (s 2)])) :: (s 1, .inl (cA, n, aq pa)) :: (s 2, .inl (cA, b, aq da)) :: (sR cI 6 pa (rP m0 m1 m2 m3 m4 m5) n ++ sR cI 2 da (rB m6 m7) b)) ++ (w' ++ [])) (by simp only [List.append_assoc, List.cons_append, List.append_nil, List.nil_append] <;> rfl) ?_
    refine zn_callMV (a := ((nm, .inl (cI, n, .inl g)) :: (s 0, .inr (2, [.int r, .int y, .ref (s 1), .ref (s 2)])) :: (s 1, .inl (cA, n, aq pa)) :: (s 2, .inl (cA, b, aq da)) :: (sR cI 6 pa (rP m0 m1 m2 m3 m4 m5) n ++ sR cI 2 da (rB m6 m7) b))) (bb := []) (rest := []) C zn_TB zn_TE (zn_ofM (w_setRule l D hRc r (by rcases hV.r01 with z | z <;> subst z <;> decide))) (cwV 1 C.1.2.2.2.2 gL_law_X1_setRule rfl rfl rfl (by decide +kernel) ⟨Nat.le_of_ble_eq_true rfl, Nat.le_of_ble_eq_true rfl⟩) dL_law_1151 1154 rfl (ci := 1) rfl 0 hrc rfl rfl (Nat.le_of_ble_eq_true rfl) ⟨(by show kc + 1 + 0 ≤ 600130; omega), (by show ns + 16 + 0 ≤ 7301079; omega)⟩ [0, 1] rfl (fun v w' hv => ?_)
    obtain ⟨rfl, hR2⟩ := hv
    refine zv_wd (ws' := ((nm, .inl (cI, n, .inl g)) :: (s 0, .inr (2, [.int r, .int y, .ref (s 1), .ref (s 2)])) :: (s 1, .inl (cA, n, aq pa)) :: (s 2, .inl (cA, b, aq da)) :: (sR cI 6 pa (rP m0 m1 m2 m3 m4 m5) n ++ (sR cI 2 da (rB m6 m7) b ++ w')))) (by simp only [List.append_assoc, List.cons_append, List.append_nil, List.nil_append] <;> rfl) ?_
    refine zv_go rfl rfl (st' := [.int (1 - r)]) rfl (kc' := (kc + 1)) rfl (ns' := (ns + 16)) rfl ?_
    have hRd := hR2
    obtain ⟨fs6, hrc⟩ := hRd.recv
    refine zv_iconst (v := 1) C dL_law_1154 1155 rfl (by decide) ?_
    refine zv_iload C dL_law_1155 1157 rfl 10 rfl ?_
    refine zv_isub (v := (1 - r)) C dL_law_1157 1158 rfl rfl ?_
    refine zv_icmp_ne C dL_law_1158 1161 1171 rfl (by decide) (fun c => absurd c (fun c => c rfl)) (fun _ => ?_)
    refine zv_aload_n C dL_law_1161 1162 rfl 1 rfl ?_
    refine zv_wd (ws' := ((nm, .inl (cI, n, .inl g)) :: (s 0, .inr (2, [.int r, .int y, .ref (s 1), .ref (s 2)])) :: (s 1, .inl (cA, n, aq pa)) :: (s 2, .inl (cA, b, aq da)) :: (sR cI 6 pa (rP m0 m1 m2 m3 m4 m5) n ++ sR cI 2 da (rB m6 m7) b)) ++ (w' ++ [])) (by simp only [List.append_assoc, List.cons_append, List.append_nil, List.nil_append] <;> rfl) ?_
    refine zn_callMV (a := ((nm, .inl (cI, n, .inl g)) :: (s 0, .inr (2, [.int r, .int y, .ref (s 1), .ref (s 2)])) :: (s 1, .inl (cA, n, aq pa)) :: (s 2, .inl (cA, b, aq da)) :: (sR cI 6 pa (rP m0 m1 m2 m3 m4 m5) n ++ sR cI 2 da (rB m6 m7) b))) (bb := []) (rest := []) C zn_TB zn_TE (zn_ofM (w_digest l D hRd)) (cwV 0 C.1.2.2.2.2 gL_law_X1_digest rfl rfl rfl (by decide +kernel) ⟨Nat.le_of_ble_eq_true rfl, Nat.le_of_ble_eq_true rfl⟩) dL_law_1162 1165 rfl (ci := 1) rfl 0 hrc rfl rfl (Nat.le_of_ble_eq_true rfl) ⟨(by show kc + 1 + 0 ≤ 600130; omega), (by show ns + 16 + 0 ≤ 7301079; omega)⟩ [0, 1] rfl (fun v w' hv => ?_)
    obtain ⟨rfl, hR2⟩ := hv
    refine zv_wd (ws' := ((nm, .inl (cI, n, .inl g)) :: (s 0, .inr (2, [.int r, .int y, .ref (s 1), .ref (s 2)])) :: (s 1, .inl (cA, n, aq pa)) :: (s 2, .inl (cA, b, aq da)) :: (sR cI 6 pa (rP m0 m1 m2 m3 m4 m5) n ++ (sR cI 2 da (rB m6 m7) b ++ w')))) (by simp only [List.append_assoc, List.cons_append, List.append_nil, List.nil_append] <;> rfl) ?_
    refine zv_go rfl rfl (st' := [.long (dgM n b m0 m1 m2 m3 m5 m6 m7 r y)]) rfl (kc' := (kc + 1)) rfl (ns' := (ns + 16)) rfl ?_
    refine zv_lload C dL_law_1165 1167 rfl 5 rfl ?_
    refine zv_lcmpE C dL_law_1167 1168 rfl rfl ?_
    refine zv_if_eq C dL_law_1168 1171 1173 rfl (by decide) (fun _ => ?_) (fun c => absurd rfl c)
    refine zv_sub [0, 1, 2, 3, 4, 5, 6, 7, 8] (lv' := [(0, .ref sc), (1, .ref a), (2, .ref (s 0)), (3, .int (nI ti)), (4, .int x), (5, .long (dgM n b m0 m1 m2 m3 m5 m6 m7 r y)), (7, .int (nI n)), (16, .ref nm), (17, .int (nI pl))]) rfl ?_
    exact K w' hR2
  refine zv_icmp_ne C dL_law_1116 1119 1125 rfl (by decide) (fun cr => ?_) (fun cr => ?_)
  ·
    have e1 : (1 : Int32) = 1 - r := by rw [hV.r01.resolve_right cr]; rfl
    rw [e1] at hRb
    refine zv_sub [2, 3, 4, 5, 6, 7, 8, 9, 10, 1, 0] (lv' := [(0, .ref sc), (1, .ref a), (2, .ref (s 0)), (3, .int (nI ti)), (4, .int x), (5, .long (dgM n b m0 m1 m2 m3 m5 m6 m7 r y)), (7, .int (nI n)), (16, .ref nm), (17, .int (nI pl)), (20, .int (nI (cne (nmS n m0 m1 m2 m3 m5 (1 - r)) (nmS n m0 m1 m2 m3 m5 r) n))), (21, .int r)]) rfl ?_
    exact K2 w' hRb
  ·
    have e1 : (0 : Int32) = 1 - r := by rw [cr]; rfl
    refine zv_aload_n C dL_law_1119 1120 rfl 3 rfl ?_
    refine zv_iconst (v := 0) C dL_law_1120 1121 rfl (by decide) ?_
    refine zv_wd (ws' := ((nm, .inl (cI, n, .inl g)) :: (s 0, .inr (2, [.int r, .int y, .ref (s 1), .ref (s 2)])) :: (s 1, .inl (cA, n, aq pa)) :: (s 2, .inl (cA, b, aq da)) :: (sR cI 6 pa (rP m0 m1 m2 m3 m4 m5) n ++ sR cI 2 da (rB m6 m7) b)) ++ (w' ++ [])) (by simp only [List.append_assoc, List.cons_append, List.append_nil, List.nil_append] <;> rfl) ?_
    refine zn_callMV (a := ((nm, .inl (cI, n, .inl g)) :: (s 0, .inr (2, [.int r, .int y, .ref (s 1), .ref (s 2)])) :: (s 1, .inl (cA, n, aq pa)) :: (s 2, .inl (cA, b, aq da)) :: (sR cI 6 pa (rP m0 m1 m2 m3 m4 m5) n ++ sR cI 2 da (rB m6 m7) b))) (bb := []) (rest := []) C zn_TB zn_TE (zn_ofM (w_setRule l D hRb 0 (by decide))) (cwV 1 C.1.2.2.2.2 gL_law_X1_setRule rfl rfl rfl (by decide +kernel) ⟨Nat.le_of_ble_eq_true rfl, Nat.le_of_ble_eq_true rfl⟩) dL_law_1121 1124 rfl (ci := 1) rfl 0 hrc rfl rfl (Nat.le_of_ble_eq_true rfl) ⟨(by show kc + 0 ≤ 600130; omega), (by show ns + 0 ≤ 7301079; omega)⟩ [0, 1] rfl (fun v w' hv => ?_)
    obtain ⟨rfl, hR2⟩ := hv
    refine zv_wd (ws' := ((nm, .inl (cI, n, .inl g)) :: (s 0, .inr (2, [.int r, .int y, .ref (s 1), .ref (s 2)])) :: (s 1, .inl (cA, n, aq pa)) :: (s 2, .inl (cA, b, aq da)) :: (sR cI 6 pa (rP m0 m1 m2 m3 m4 m5) n ++ (sR cI 2 da (rB m6 m7) b ++ w')))) (by simp only [List.append_assoc, List.cons_append, List.append_nil, List.nil_append] <;> rfl) ?_
    refine zv_go rfl rfl (st' := [.int 1]) rfl (kc' := kc) rfl (ns' := ns) rfl ?_
    rw [e1] at hR2
    refine zn_pop C dL_law_1124 1125 rfl rfl ?_
    refine zv_sub [2, 3, 4, 5, 6, 7, 8, 9, 10, 1, 0] (lv' := [(0, .ref sc), (1, .ref a), (2, .ref (s 0)), (3, .int (nI ti)), (4, .int x), (5, .long (dgM n b m0 m1 m2 m3 m5 m6 m7 r y)), (7, .int (nI n)), (16, .ref nm), (17, .int (nI pl)), (20, .int (nI (cne (nmS n m0 m1 m2 m3 m5 (1 - r)) (nmS n m0 m1 m2 m3 m5 r) n))), (21, .int r)]) rfl ?_
    exact K2 w' hR2
set_option maxHeartbeats 4000000 in
set_option maxRecDepth 100000 in
theorem la_years {pP : Program} {l : Launch} {eE : Env} {sS : State} {mM : MethodId} {aA : Array Value} {bB : List Frame} {mT : Method} {cD : Code} {Q : State → Prop} {D : va_G} {cI cZ cA : ClassId} {A : Nat → Prop} (C : zv_C pP mM cD cL_law 27 sS aA wsL_law "RiverNamesLaw" A) {a n b : Nat} {r y : Int32} {m0 m1 m2 m3 m4 m5 m6 m7 : Nat → Int32} {w : va_W} (hR : zR cI cZ a n b r y m0 m1 m2 m3 m4 m5 m6 m7 w) {s pa da : Nat → Nat} {sc ti kc ns : Nat} {x : Int32} (hkc : kc ≤ 600000) (hns : ns ≤ 7300000) {nm pl : Nat} {g : Nat → Int32} (hpl : pl < n) (hg : ∀ i, i < n → g i = nmS n m0 m1 m2 m3 m5 r i) (K : ∀ (w' : va_W) (yy : Nat), zR cI cZ a n b r (y + nI yy) m0 m1 m2 (swN m1 m3 m4 yy) m4 m5 m6 m7 w' → zv_V pP l eE room_1 sS mM aA bB mT cD Q 27 D vwCl A A (tyS cI cZ cA) ((nm, .inl (cI, n, .inl g)) :: (s 0, .inr (2, [.int r, .int (y + nI yy), .ref (s 1), .ref (s 2)])) :: (s 1, .inl (cA, n, aq pa)) :: (s 2, .inl (cA, b, aq da)) :: (sR cI 6 pa (rP m0 m1 m2 (swN m1 m3 m4 yy) m4 m5) n ++ (sR cI 2 da (rB m6 m7) b ++ w'))) kc ns 1312 [(0, .ref sc), (1, .ref a), (2, .ref (s 0)), (3, .int (nI ti)), (4, .int x)] []) : zv_V pP l eE room_1 sS mM aA bB mT cD Q 27 D vwCl A A (tyS cI cZ cA) ((nm, .inl (cI, n, .inl g)) :: (s 0, .inr (2, [.int r, .int y, .ref (s 1), .ref (s 2)])) :: (s 1, .inl (cA, n, aq pa)) :: (s 2, .inl (cA, b, aq da)) :: (sR cI 6 pa (rP m0 m1 m2 m3 m4 m5) n ++ (sR cI 2 da (rB m6 m7) b ++ w))) kc ns 1173 [(0, .ref sc), (1, .ref a), (2, .ref (s 0)), (3, .int (nI ti)), (4, .int x), (5, .long (dgM n b m0 m1 m2 m3 m5 m6 m7 r y)), (7, .int (nI n)), (16, .ref nm), (17, .int (nI pl))] [] := by
  have hV := hR.lv
  have hn16 : n ≤ 16 := hV.n16
  have hb16 : b ≤ 16 := hV.b16
  obtain ⟨fs, hrc⟩ := hR.recv
  obtain ⟨d, sD, hD⟩ := hV.dep
  refine zv_iconst (v := 1) C dL_law_1173 1174 rfl (by decide) ?_
  refine zv_iload C dL_law_1174 1176 rfl 4 rfl ?_
  refine zv_iconst (v := 5) C dL_law_1176 1177 rfl (by decide) ?_
  refine zn_ishr C dL_law_1177 1178 rfl ?_
  refine zv_bipush (v := 12) C dL_law_1178 1180 rfl (by decide) ?_
  refine zv_go rfl rfl (st' := [.int (nI 12), .int (x >>> (5 &&& 31)), .int 1]) (by rfl) rfl rfl ?_
  refine zn_callRS (rest := [.int 1]) C zn_TB zn_TE (zn_ofR (k_L_below l D cI cZ cA (x >>> ((5 : Int32) &&& 31)) 12 (by omega) (by omega))) (va_cwS 2 C.1.2.2.2.2 gL_law_L_below rfl rfl rfl (by decide +kernel) ⟨Nat.le_of_ble_eq_true rfl, Nat.le_of_ble_eq_true rfl⟩) dL_law_1180 1183 rfl rfl rfl (Nat.le_of_ble_eq_true rfl) ⟨(by show kc + 0 ≤ 600130; omega), (by show ns + 0 ≤ 7301079; omega)⟩ [0, 1] rfl (List.nil_sublist _) (fun v hv => ?_)
  subst hv
  refine zv_go rfl rfl (st' := [.int (nI (bl (x >>> ((5 : Int32) &&& 31)) 12)), .int 1]) rfl (kc' := kc) rfl (ns' := ns) rfl ?_
  refine zv_iadd (v := (nI (1 + bl (x >>> ((5 : Int32) &&& 31)) 12))) C dL_law_1183 1184 rfl (nI_add 1 (bl (x >>> ((5 : Int32) &&& 31)) 12)) ?_
  have hy0 := bl_lt (x >>> ((5 : Int32) &&& 31)) (N := 12) (by omega)
  obtain ⟨yy, hyy, h1y, h12⟩ : ∃ yy : Nat, 1 + bl (x >>> ((5 : Int32) &&& 31)) 12 = yy ∧ 1 ≤ yy ∧ yy ≤ 12 := ⟨_, rfl, by omega, by omega⟩
  refine zv_go rfl rfl (st' := [.int (nI yy)]) (by rw [← hyy]) rfl rfl ?_
  refine zv_istore C dL_law_1184 1186 rfl [(22, .int (nI yy)), (0, .ref sc), (1, .ref a), (2, .ref (s 0)), (3, .int (nI ti)), (4, .int x), (5, .long (dgM n b m0 m1 m2 m3 m5 m6 m7 r y)), (7, .int (nI n)), (16, .ref nm), (17, .int (nI pl))] (by decide) rfl ?_
  refine zv_aload_n C dL_law_1186 1187 rfl 2 rfl ?_
  refine zv_iload C dL_law_1187 1189 rfl 9 rfl ?_
  refine zv_iload C dL_law_1189 1191 rfl 0 rfl ?_
  refine zv_wd (ws' := ((nm, .inl (cI, n, .inl g)) :: (s 0, .inr (2, [.int r, .int y, .ref (s 1), .ref (s 2)])) :: (s 1, .inl (cA, n, aq pa)) :: (s 2, .inl (cA, b, aq da)) :: (sR cI 6 pa (rP m0 m1 m2 m3 m4 m5) n ++ sR cI 2 da (rB m6 m7) b)) ++ (w ++ [])) (by simp only [List.append_assoc, List.cons_append, List.append_nil, List.nil_append] <;> rfl) ?_
  refine zn_callMV (a := ((nm, .inl (cI, n, .inl g)) :: (s 0, .inr (2, [.int r, .int y, .ref (s 1), .ref (s 2)])) :: (s 1, .inl (cA, n, aq pa)) :: (s 2, .inl (cA, b, aq da)) :: (sR cI 6 pa (rP m0 m1 m2 m3 m4 m5) n ++ sR cI 2 da (rB m6 m7) b))) (bb := []) (rest := []) C zn_TB zn_TE (zn_ofM (w_nameIn l D hR pl yy hpl h1y (by omega))) (cwV 2 C.1.2.2.2.2 gL_law_X1_nameIn rfl rfl rfl (by decide +kernel) ⟨Nat.le_of_ble_eq_true rfl, Nat.le_of_ble_eq_true rfl⟩) dL_law_1191 1194 rfl (ci := 1) rfl 0 hrc rfl rfl (Nat.le_of_ble_eq_true rfl) ⟨(by show kc + 0 ≤ 600130; omega), (by show ns + 0 ≤ 7301079; omega)⟩ [0, 1] rfl (fun v w' hv => ?_)
  obtain ⟨rfl, hR2⟩ := hv
  refine zv_wd (ws' := ((nm, .inl (cI, n, .inl g)) :: (s 0, .inr (2, [.int r, .int y, .ref (s 1), .ref (s 2)])) :: (s 1, .inl (cA, n, aq pa)) :: (s 2, .inl (cA, b, aq da)) :: (sR cI 6 pa (rP m0 m1 m2 m3 m4 m5) n ++ (sR cI 2 da (rB m6 m7) b ++ w')))) (by simp only [List.append_assoc, List.cons_append, List.append_nil, List.nil_append] <;> rfl) ?_
  refine zv_go rfl rfl (st' := [.int (nmS n m0 m1 m2 (swN m1 m3 m4 yy) m5 r pl)]) rfl (kc' := kc) rfl (ns' := ns) rfl ?_
  have hRa := hR2
  obtain ⟨fs2, hrc⟩ := hRa.recv
  refine zv_istore C dL_law_1194 1196 rfl [(23, .int (nmS n m0 m1 m2 (swN m1 m3 m4 yy) m5 r pl)), (22, .int (nI yy)), (0, .ref sc), (1, .ref a), (2, .ref (s 0)), (3, .int (nI ti)), (4, .int x), (5, .long (dgM n b m0 m1 m2 m3 m5 m6 m7 r y)), (7, .int (nI n)), (16, .ref nm), (17, .int (nI pl))] (by decide) rfl ?_
  refine zv_aload_n C dL_law_1196 1197 rfl 3 rfl ?_
  refine zv_iload C dL_law_1197 1199 rfl 10 rfl ?_
  refine zv_wd (ws' := ((nm, .inl (cI, n, .inl g)) :: (s 0, .inr (2, [.int r, .int y, .ref (s 1), .ref (s 2)])) :: (s 1, .inl (cA, n, aq pa)) :: (s 2, .inl (cA, b, aq da)) :: (sR cI 6 pa (rP m0 m1 m2 m3 m4 m5) n ++ sR cI 2 da (rB m6 m7) b)) ++ (w' ++ [])) (by simp only [List.append_assoc, List.cons_append, List.append_nil, List.nil_append] <;> rfl) ?_
  refine zn_callMV (a := ((nm, .inl (cI, n, .inl g)) :: (s 0, .inr (2, [.int r, .int y, .ref (s 1), .ref (s 2)])) :: (s 1, .inl (cA, n, aq pa)) :: (s 2, .inl (cA, b, aq da)) :: (sR cI 6 pa (rP m0 m1 m2 m3 m4 m5) n ++ sR cI 2 da (rB m6 m7) b))) (bb := []) (rest := []) C zn_TB zn_TE (zn_ofM (w_yearsUntilRenamed l D hRa pl hpl)) (cwV 1 C.1.2.2.2.2 gL_law_X1_yearsUntilRenamed rfl rfl rfl (by decide +kernel) ⟨Nat.le_of_ble_eq_true rfl, Nat.le_of_ble_eq_true rfl⟩) dL_law_1199 1202 rfl (ci := 1) rfl 0 hrc rfl rfl (Nat.le_of_ble_eq_true rfl) ⟨(by show kc + 0 ≤ 600130; omega), (by show ns + 0 ≤ 7301079; omega)⟩ [0, 1] rfl (fun v w' hv => ?_)
  obtain ⟨rfl, hR2⟩ := hv
  refine zv_wd (ws' := ((nm, .inl (cI, n, .inl g)) :: (s 0, .inr (2, [.int r, .int y, .ref (s 1), .ref (s 2)])) :: (s 1, .inl (cA, n, aq pa)) :: (s 2, .inl (cA, b, aq da)) :: (sR cI 6 pa (rP m0 m1 m2 m3 m4 m5) n ++ (sR cI 2 da (rB m6 m7) b ++ w')))) (by simp only [List.append_assoc, List.cons_append, List.append_nil, List.nil_append] <;> rfl) ?_
  refine zv_go rfl rfl (st' := [.int (utl (anY n m0 m1 m2 m3 m4 m5 r pl) 50)]) rfl (kc' := kc) rfl (ns' := ns) rfl ?_
  have hRb := hR2
  refine zv_istore C dL_law_1202 1204 rfl [(24, .int (utl (anY n m0 m1 m2 m3 m4 m5 r pl) 50)), (23, .int (nmS n m0 m1 m2 (swN m1 m3 m4 yy) m5 r pl)), (22, .int (nI yy)), (0, .ref sc), (1, .ref a), (2, .ref (s 0)), (3, .int (nI ti)), (4, .int x), (5, .long (dgM n b m0 m1 m2 m3 m5 m6 m7 r y)), (7, .int (nI n)), (16, .ref nm), (17, .int (nI pl))] (by decide) rfl ?_
  refine zv_iconst (v := 1) C dL_law_1204 1205 rfl (by decide) ?_
  refine zv_istore C dL_law_1205 1207 rfl [(25, .int 1), (24, .int (utl (anY n m0 m1 m2 m3 m4 m5 r pl) 50)), (23, .int (nmS n m0 m1 m2 (swN m1 m3 m4 yy) m5 r pl)), (22, .int (nI yy)), (0, .ref sc), (1, .ref a), (2, .ref (s 0)), (3, .int (nI ti)), (4, .int x), (5, .long (dgM n b m0 m1 m2 m3 m5 m6 m7 r y)), (7, .int (nI n)), (16, .ref nm), (17, .int (nI pl))] (by decide) rfl ?_
  have hut := utl_spec (anY n m0 m1 m2 m3 m4 m5 r pl) 50 (by omega)
  obtain ⟨un, eun⟩ : ∃ un, utl (anY n m0 m1 m2 m3 m4 m5 r pl) 50 = un := ⟨_, rfl⟩
  rw [eun] at hut
  have L1 : ∀ (mu_L1 : Nat), ∀ (k : Nat) (u : va_W), (zR cI cZ a n b r (y + nI k) m0 m1 m2 (swN m1 m3 m4 k) m4 m5 m6 m7 u) → (k ≤ yy) → yy - k < mu_L1 → zv_V pP l eE room_1 sS mM aA bB mT cD Q 27 D vwCl A A (tyS cI cZ cA) ((nm, .inl (cI, n, .inl g)) :: (s 0, .inr (2, [.int r, .int (y + nI k), .ref (s 1), .ref (s 2)])) :: (s 1, .inl (cA, n, aq pa)) :: (s 2, .inl (cA, b, aq da)) :: (sR cI 6 pa (rP m0 m1 m2 (swN m1 m3 m4 k) m4 m5) n ++ (sR cI 2 da (rB m6 m7) b ++ u))) kc ns 1207 [(0, .ref sc), (1, .ref a), (2, .ref (s 0)), (3, .int (nI ti)), (4, .int x), (5, .long (dgM n b m0 m1 m2 m3 m5 m6 m7 r y)), (7, .int (nI n)), (16, .ref nm), (17, .int (nI pl)), (22, .int (nI yy)), (23, .int (nmS n m0 m1 m2 (swN m1 m3 m4 yy) m5 r pl)), (24, .int un), (25, .int (nI (k + 1)))] [] := by
    intro mu_L1
    induction mu_L1 with
    | zero => intro k u hRk hk hmu_L1; exact absurd hmu_L1 (Nat.not_lt_zero _)
    | succ mu_L1 ih_L1 =>
      intro k u hRk hk hmu_L1
      refine zv_iload C dL_law_1207 1209 rfl 12 rfl ?_
      refine zv_iload C dL_law_1209 1211 rfl 9 rfl ?_
      refine zv_icmp_gt C dL_law_1211 1214 1299 rfl (by decide) (fun ck => ?_) (fun ck => ?_)
      ·
        have e1 : k = yy := by have := zn_lt (by omega) (by omega) ck; omega
        subst e1
        obtain ⟨fs3, hrc⟩ := hRk.recv
        refine zv_aload_n C dL_law_1299 1300 rfl 1 rfl ?_
        refine zv_iload C dL_law_1300 1302 rfl 8 rfl ?_
        refine zn_callRV (rest := []) C zn_TB zn_TE (zn_ofR (w_nameAt l D hRk pl hpl)) (cwV 1 C.1.2.2.2.2 gL_law_X1_nameAt rfl rfl rfl (by decide +kernel) ⟨Nat.le_of_ble_eq_true rfl, Nat.le_of_ble_eq_true rfl⟩) dL_law_1302 1305 rfl (ci := 1) rfl 0 hrc rfl rfl (Nat.le_of_ble_eq_true rfl) ⟨(by show kc + 0 ≤ 600130; omega), (by show ns + 0 ≤ 7301079; omega)⟩ [0, 1] rfl (List.Sublist.cons _ (List.Sublist.cons _ (List.Sublist.cons _ (List.Sublist.cons _ ((List.sublist_append_right _ _).trans (List.sublist_append_right _ _)))))) (fun v hv => ?_)
        subst hv
        refine zv_go rfl rfl (st' := [.int (nmS n m0 m1 m2 (swN m1 m3 m4 k) m5 r pl)]) rfl (kc' := kc) rfl (ns' := ns) rfl ?_
        refine zv_iload C dL_law_1305 1307 rfl 10 rfl ?_
        refine zv_icmp_eq C dL_law_1307 1310 1312 rfl (by decide) (fun _ => ?_) (fun c => absurd rfl c)
        refine zv_sub [0, 1, 2, 3, 4] (lv' := [(0, .ref sc), (1, .ref a), (2, .ref (s 0)), (3, .int (nI ti)), (4, .int x)]) rfl ?_
        exact K u k hRk
      ·
        have hk2 : k < yy := by have := zn_lt' (by omega) (by omega) ck; omega
        obtain ⟨fs3, hrc⟩ := hRk.recv
        have hVk := hRk.lv
        refine zv_aload_n C dL_law_1214 1215 rfl 1 rfl ?_
        refine zv_iconst (v := 1) C dL_law_1215 1216 rfl (by decide) ?_
        refine zv_wd (ws' := ((nm, .inl (cI, n, .inl g)) :: (s 0, .inr (2, [.int r, .int (y + nI k), .ref (s 1), .ref (s 2)])) :: (s 1, .inl (cA, n, aq pa)) :: (s 2, .inl (cA, b, aq da)) :: (sR cI 6 pa (rP m0 m1 m2 (swN m1 m3 m4 k) m4 m5) n ++ sR cI 2 da (rB m6 m7) b)) ++ (u ++ [])) (by simp only [List.append_assoc, List.cons_append, List.append_nil, List.nil_append] <;> rfl) ?_
        refine zn_callMV (a := ((nm, .inl (cI, n, .inl g)) :: (s 0, .inr (2, [.int r, .int (y + nI k), .ref (s 1), .ref (s 2)])) :: (s 1, .inl (cA, n, aq pa)) :: (s 2, .inl (cA, b, aq da)) :: (sR cI 6 pa (rP m0 m1 m2 (swN m1 m3 m4 k) m4 m5) n ++ sR cI 2 da (rB m6 m7) b))) (bb := []) (rest := []) C zn_TB zn_TE (zn_ofM (w_pass l D hRk 1 (by omega) (by omega))) (cwV 1 C.1.2.2.2.2 gL_law_X1_pass rfl rfl rfl (by decide +kernel) ⟨Nat.le_of_ble_eq_true rfl, Nat.le_of_ble_eq_true rfl⟩) dL_law_1216 1219 rfl (ci := 1) rfl 0 hrc rfl rfl (Nat.le_of_ble_eq_true rfl) ⟨(by show kc + 0 ≤ 600130; omega), (by show ns + 0 ≤ 7301079; omega)⟩ [0, 1] rfl (fun v w' hv => ?_)
        obtain ⟨rfl, hR2⟩ := hv
        refine zv_wd (ws' := ((nm, .inl (cI, n, .inl g)) :: (s 0, .inr (2, [.int r, .int (y + nI k), .ref (s 1), .ref (s 2)])) :: (s 1, .inl (cA, n, aq pa)) :: (s 2, .inl (cA, b, aq da)) :: (sR cI 6 pa (rP m0 m1 m2 (swN m1 m3 m4 k) m4 m5) n ++ (sR cI 2 da (rB m6 m7) b ++ w')))) (by simp only [List.append_assoc, List.cons_append, List.append_nil, List.nil_append] <;> rfl) ?_
        refine zv_go rfl rfl (st' := [.int (nI (inN m6 m7 (nmS n m0 m1 m2 (swN m1 (swN m1 m3 m4 k) m4 1) m5 r) b))]) rfl (kc' := kc) rfl (ns' := ns) rfl ?_
        have ey : y + nI k + nI 1 = y + nI (k + 1) := by rw [Int32.add_assoc, nI_add]
        have hRn : zR cI cZ a n b r (y + nI (k + 1)) m0 m1 m2 (swN m1 m3 m4 (k + 1)) m4 m5 m6 m7 w' := by
          rw [← ey]; exact hR2
        obtain ⟨fs4, hrc⟩ := hRn.recv
        refine zv_istore C dL_law_1219 1221 rfl [(26, .int (nI (inN m6 m7 (nmS n m0 m1 m2 (swN m1 (swN m1 m3 m4 k) m4 1) m5 r) b))), (0, .ref sc), (1, .ref a), (2, .ref (s 0)), (3, .int (nI ti)), (4, .int x), (5, .long (dgM n b m0 m1 m2 m3 m5 m6 m7 r y)), (7, .int (nI n)), (16, .ref nm), (17, .int (nI pl)), (22, .int (nI yy)), (23, .int (nmS n m0 m1 m2 (swN m1 m3 m4 yy) m5 r pl)), (24, .int un), (25, .int (nI (k + 1)))] (by decide) rfl ?_
        refine zv_aload_n C dL_law_1221 1222 rfl 3 rfl ?_
        refine zv_iconst (v := 1) C dL_law_1222 1223 rfl (by decide) ?_
        refine zv_wd (ws' := [(nm, .inl (cI, n, .inl g))] ++ (cS cI cA s r (y + nI k) n b pa da m0 m1 m2 (swN m1 m3 m4 k) m4 m5 m6 m7 ++ w')) (by simp only [List.append_assoc, List.cons_append, List.append_nil, List.nil_append] <;> rfl) ?_
        refine zv_go rfl rfl (st' := [.int (nI 1), .ref (s 0)]) (by rfl) rfl rfl ?_
        refine zn_callMV (a := [(nm, .inl (cI, n, .inl g))]) (bb := w') (rest := []) C zn_TB zn_TE (zn_ofM (k_X2_pass l D cI cZ cA (y + nI k) hn16 hVk.zm1 s pa da 1 (by omega))) (cwV 1 C.1.2.2.2.2 gL_law_X2_pass rfl rfl rfl (by decide +kernel) ⟨Nat.le_of_ble_eq_true rfl, Nat.le_of_ble_eq_true rfl⟩) dL_law_1223 1226 rfl (ci := 2) rfl 0 rfl rfl rfl (Nat.le_of_ble_eq_true rfl) ⟨(by show kc + 0 ≤ 600130; omega), (by show ns + 0 ≤ 7301079; omega)⟩ [0, 1, 2] rfl (fun v w9 hv => ?_)
        obtain ⟨rfl, rfl⟩ := hv
        rw [ey]
        refine zv_wd (ws' := ((nm, .inl (cI, n, .inl g)) :: (s 0, .inr (2, [.int r, .int (y + nI (k + 1)), .ref (s 1), .ref (s 2)])) :: (s 1, .inl (cA, n, aq pa)) :: (s 2, .inl (cA, b, aq da)) :: (sR cI 6 pa (rP m0 m1 m2 (swN m1 m3 m4 (k + 1)) m4 m5) n ++ (sR cI 2 da (rB m6 m7) b ++ w')))) (by simp only [List.append_assoc, List.cons_append, List.append_nil, List.nil_append] <;> rfl) ?_
        refine zv_go rfl rfl (st' := []) rfl (kc' := kc) rfl (ns' := ns) rfl ?_
        refine zv_iload C dL_law_1226 1228 rfl 0 rfl ?_
        refine zv_aload_n C dL_law_1228 1229 rfl 2 rfl ?_
        refine zn_callRV (rest := [.int (nI (inN m6 m7 (nmS n m0 m1 m2 (swN m1 (swN m1 m3 m4 k) m4 1) m5 r) b))]) C zn_TB zn_TE (zn_ofR (w_insults l D hRn)) (cwV 0 C.1.2.2.2.2 gL_law_X1_insults rfl rfl rfl (by decide +kernel) ⟨Nat.le_of_ble_eq_true rfl, Nat.le_of_ble_eq_true rfl⟩) dL_law_1229 1232 rfl (ci := 1) rfl 0 hrc rfl rfl (Nat.le_of_ble_eq_true rfl) ⟨(by show kc + 0 ≤ 600130; omega), (by show ns + 0 ≤ 7301079; omega)⟩ [0, 1] rfl (List.Sublist.cons _ (List.Sublist.cons _ (List.Sublist.cons _ (List.Sublist.cons _ ((List.sublist_append_right _ _).trans (List.sublist_append_right _ _)))))) (fun v hv => ?_)
        subst hv
        refine zv_go rfl rfl (st' := [.int (nI (inN m6 m7 (nmS n m0 m1 m2 (swN m1 m3 m4 (k + 1)) m5 r) b)), .int (nI (inN m6 m7 (nmS n m0 m1 m2 (swN m1 (swN m1 m3 m4 k) m4 1) m5 r) b))]) rfl (kc' := kc) rfl (ns' := ns) rfl ?_
        refine zv_icmp_ne C dL_law_1232 1235 1291 rfl (by decide) (fun c => absurd c (fun c => c rfl)) (fun _ => ?_)
        refine zv_iload C dL_law_1235 1237 rfl 12 rfl ?_
        rcases hut with ⟨hu1, hu2⟩ | ⟨u9, hu0, hu50, hu1, hu2, hu3⟩
        ·
          refine zv_go rfl (lv' := [(26, .int (nI (inN m6 m7 (nmS n m0 m1 m2 (swN m1 (swN m1 m3 m4 k) m4 1) m5 r) b))), (0, .ref sc), (1, .ref a), (2, .ref (s 0)), (3, .int (nI ti)), (4, .int x), (5, .long (dgM n b m0 m1 m2 m3 m5 m6 m7 r y)), (7, .int (nI n)), (16, .ref nm), (17, .int (nI pl)), (22, .int (nI yy)), (23, .int (nmS n m0 m1 m2 (swN m1 m3 m4 yy) m5 r pl)), (24, .int (-1 : Int32)), (25, .int (nI (k + 1)))]) (by rw [hu1]) (st' := [.int (-1 : Int32)]) (by rw [hu1]) rfl rfl ?_
          have hsame : nmS n m0 m1 m2 (swN m1 m3 m4 (k + 1)) m5 r pl = nmS n m0 m1 m2 m3 m5 r pl := by
            have z := hu2 (k + 1) (by omega) (by omega)
            unfold anY at z
            simpa using z
          refine zv_if_lt C dL_law_1237 1240 1247 rfl (by decide) (fun _ => ?_) (fun c => absurd (by decide) c)
          refine zv_iconst (v := 1) C dL_law_1247 1248 rfl (by decide) ?_
          refine zv_goto C dL_law_1248 1252 (by decide) ?_
          refine zv_aload_n C dL_law_1252 1253 rfl 2 rfl ?_
          refine zv_iload C dL_law_1253 1255 rfl 9 rfl ?_
          refine zn_callRV (rest := [.int 1]) C zn_TB zn_TE (zn_ofR (w_nameAt l D hRn pl hpl)) (cwV 1 C.1.2.2.2.2 gL_law_X1_nameAt rfl rfl rfl (by decide +kernel) ⟨Nat.le_of_ble_eq_true rfl, Nat.le_of_ble_eq_true rfl⟩) dL_law_1255 1258 rfl (ci := 1) rfl 0 hrc rfl rfl (Nat.le_of_ble_eq_true rfl) ⟨(by show kc + 0 ≤ 600130; omega), (by show ns + 0 ≤ 7301079; omega)⟩ [0, 1] rfl (List.Sublist.cons _ (List.Sublist.cons _ (List.Sublist.cons _ (List.Sublist.cons _ ((List.sublist_append_right _ _).trans (List.sublist_append_right _ _)))))) (fun v hv => ?_)
          subst hv
          refine zv_go rfl rfl (st' := [.int (nmS n m0 m1 m2 (swN m1 m3 m4 (k + 1)) m5 r pl), .int 1]) rfl (kc' := kc) rfl (ns' := ns) rfl ?_
          refine zv_aload C dL_law_1258 1260 rfl 8 rfl ?_
          refine zv_iload C dL_law_1260 1262 rfl 9 rfl ?_
          refine zv_iald (v := (nmS n m0 m1 m2 m3 m5 r pl)) C dL_law_1262 1263 rfl 0 0 pl rfl rfl rfl (by omega) (by omega) (hg pl hpl) ?_
          refine zv_icmp_ne C dL_law_1263 1266 1270 rfl (by decide) (fun c => absurd c (fun c => c hsame)) (fun _ => ?_)
          refine zv_iconst (v := 1) C dL_law_1266 1267 rfl (by decide) ?_
          refine zv_goto C dL_law_1267 1271 (by decide) ?_
          refine zv_icmp_eq C dL_law_1271 1274 1293 rfl (by decide) (fun _ => ?_) (fun c => absurd rfl c)
          refine zv_go rfl (lv' := [(26, .int (nI (inN m6 m7 (nmS n m0 m1 m2 (swN m1 (swN m1 m3 m4 k) m4 1) m5 r) b))), (0, .ref sc), (1, .ref a), (2, .ref (s 0)), (3, .int (nI ti)), (4, .int x), (5, .long (dgM n b m0 m1 m2 m3 m5 m6 m7 r y)), (7, .int (nI n)), (16, .ref nm), (17, .int (nI pl)), (22, .int (nI yy)), (23, .int (nmS n m0 m1 m2 (swN m1 m3 m4 yy) m5 r pl)), (24, .int un), (25, .int (nI (k + 1)))]) (by rw [hu1]) rfl rfl rfl ?_
          refine zv_iinc (v := (nI (k + 1 + 1))) C dL_law_1293 1296 rfl [(25, .int (nI (k + 1 + 1))), (26, .int (nI (inN m6 m7 (nmS n m0 m1 m2 (swN m1 (swN m1 m3 m4 k) m4 1) m5 r) b))), (0, .ref sc), (1, .ref a), (2, .ref (s 0)), (3, .int (nI ti)), (4, .int x), (5, .long (dgM n b m0 m1 m2 m3 m5 m6 m7 r y)), (7, .int (nI n)), (16, .ref nm), (17, .int (nI pl)), (22, .int (nI yy)), (23, .int (nmS n m0 m1 m2 (swN m1 m3 m4 yy) m5 r pl)), (24, .int un)] 13 rfl (nI_1 (k + 1)) (by decide) rfl ?_
          refine zv_goto C dL_law_1296 1207 (by decide) ?_
          refine zv_sub [2, 3, 4, 5, 6, 7, 8, 9, 10, 11, 12, 13, 0] (lv' := [(0, .ref sc), (1, .ref a), (2, .ref (s 0)), (3, .int (nI ti)), (4, .int x), (5, .long (dgM n b m0 m1 m2 m3 m5 m6 m7 r y)), (7, .int (nI n)), (16, .ref nm), (17, .int (nI pl)), (22, .int (nI yy)), (23, .int (nmS n m0 m1 m2 (swN m1 m3 m4 yy) m5 r pl)), (24, .int un), (25, .int (nI (k + 1 + 1)))]) rfl ?_
          exact ih_L1 (k + 1) w' hRn (by omega) (by omega)
        ·
          refine zv_go rfl (lv' := [(26, .int (nI (inN m6 m7 (nmS n m0 m1 m2 (swN m1 (swN m1 m3 m4 k) m4 1) m5 r) b))), (0, .ref sc), (1, .ref a), (2, .ref (s 0)), (3, .int (nI ti)), (4, .int x), (5, .long (dgM n b m0 m1 m2 m3 m5 m6 m7 r y)), (7, .int (nI n)), (16, .ref nm), (17, .int (nI pl)), (22, .int (nI yy)), (23, .int (nmS n m0 m1 m2 (swN m1 m3 m4 yy) m5 r pl)), (24, .int (nI u9)), (25, .int (nI (k + 1)))]) (by rw [hu1]) (st' := [.int (nI u9)]) (by rw [hu1]) rfl rfl ?_
          refine zv_if_lt C dL_law_1237 1240 1247 rfl (by decide) (fun c => absurd c (nI_nneg (by omega))) (fun _ => ?_)
          refine zv_iload C dL_law_1240 1242 rfl 13 rfl ?_
          refine zv_iload C dL_law_1242 1244 rfl 12 rfl ?_
          refine zv_icmp_ge C dL_law_1244 1247 1251 rfl (by decide) (fun cu => ?_) (fun cu => ?_)
          · -- in it, or later
            have hge := zn_le (by omega) (by omega) cu
            refine zv_iconst (v := 0) C dL_law_1251 1252 rfl (by decide) ?_
            refine zv_aload_n C dL_law_1252 1253 rfl 2 rfl ?_
            refine zv_iload C dL_law_1253 1255 rfl 9 rfl ?_
            refine zn_callRV (rest := [.int 0]) C zn_TB zn_TE (zn_ofR (w_nameAt l D hRn pl hpl)) (cwV 1 C.1.2.2.2.2 gL_law_X1_nameAt rfl rfl rfl (by decide +kernel) ⟨Nat.le_of_ble_eq_true rfl, Nat.le_of_ble_eq_true rfl⟩) dL_law_1255 1258 rfl (ci := 1) rfl 0 hrc rfl rfl (Nat.le_of_ble_eq_true rfl) ⟨(by show kc + 0 ≤ 600130; omega), (by show ns + 0 ≤ 7301079; omega)⟩ [0, 1] rfl (List.Sublist.cons _ (List.Sublist.cons _ (List.Sublist.cons _ (List.Sublist.cons _ ((List.sublist_append_right _ _).trans (List.sublist_append_right _ _)))))) (fun v hv => ?_)
            subst hv
            refine zv_go rfl rfl (st' := [.int (nmS n m0 m1 m2 (swN m1 m3 m4 (k + 1)) m5 r pl), .int 0]) rfl (kc' := kc) rfl (ns' := ns) rfl ?_
            refine zv_aload C dL_law_1258 1260 rfl 8 rfl ?_
            refine zv_iload C dL_law_1260 1262 rfl 9 rfl ?_
            refine zv_iald (v := (nmS n m0 m1 m2 m3 m5 r pl)) C dL_law_1262 1263 rfl 0 0 pl rfl rfl rfl (by omega) (by omega) (hg pl hpl) ?_
            refine zv_icmp_ne C dL_law_1263 1266 1270 rfl (by decide) (fun cn => ?_) (fun cn => ?_)
            ·
              refine zv_iconst (v := 0) C dL_law_1270 1271 rfl (by decide) ?_
              refine zv_icmp_eq C dL_law_1271 1274 1293 rfl (by decide) (fun _ => ?_) (fun c => absurd rfl c)
              refine zv_go rfl (lv' := [(26, .int (nI (inN m6 m7 (nmS n m0 m1 m2 (swN m1 (swN m1 m3 m4 k) m4 1) m5 r) b))), (0, .ref sc), (1, .ref a), (2, .ref (s 0)), (3, .int (nI ti)), (4, .int x), (5, .long (dgM n b m0 m1 m2 m3 m5 m6 m7 r y)), (7, .int (nI n)), (16, .ref nm), (17, .int (nI pl)), (22, .int (nI yy)), (23, .int (nmS n m0 m1 m2 (swN m1 m3 m4 yy) m5 r pl)), (24, .int un), (25, .int (nI (k + 1)))]) (by rw [hu1]) rfl rfl rfl ?_
              refine zv_iinc (v := (nI (k + 1 + 1))) C dL_law_1293 1296 rfl [(25, .int (nI (k + 1 + 1))), (26, .int (nI (inN m6 m7 (nmS n m0 m1 m2 (swN m1 (swN m1 m3 m4 k) m4 1) m5 r) b))), (0, .ref sc), (1, .ref a), (2, .ref (s 0)), (3, .int (nI ti)), (4, .int x), (5, .long (dgM n b m0 m1 m2 m3 m5 m6 m7 r y)), (7, .int (nI n)), (16, .ref nm), (17, .int (nI pl)), (22, .int (nI yy)), (23, .int (nmS n m0 m1 m2 (swN m1 m3 m4 yy) m5 r pl)), (24, .int un)] 13 rfl (nI_1 (k + 1)) (by decide) rfl ?_
              refine zv_goto C dL_law_1296 1207 (by decide) ?_
              refine zv_sub [2, 3, 4, 5, 6, 7, 8, 9, 10, 11, 12, 13, 0] (lv' := [(0, .ref sc), (1, .ref a), (2, .ref (s 0)), (3, .int (nI ti)), (4, .int x), (5, .long (dgM n b m0 m1 m2 m3 m5 m6 m7 r y)), (7, .int (nI n)), (16, .ref nm), (17, .int (nI pl)), (22, .int (nI yy)), (23, .int (nmS n m0 m1 m2 (swN m1 m3 m4 yy) m5 r pl)), (24, .int un), (25, .int (nI (k + 1 + 1)))]) rfl ?_
              exact ih_L1 (k + 1) w' hRn (by omega) (by omega)
            ·
              have hgt : u9 < k + 1 := by
                refine Nat.lt_of_le_of_ne hge (fun e => ?_)
                subst e
                unfold anY at hu2
                simp at hu2
                exact hu2 cn
              refine zv_iconst (v := 1) C dL_law_1266 1267 rfl (by decide) ?_
              refine zv_goto C dL_law_1267 1271 (by decide) ?_
              refine zv_icmp_eq C dL_law_1271 1274 1293 rfl (by decide) (fun c => absurd c (by decide)) (fun _ => ?_)
              refine zv_iload C dL_law_1274 1276 rfl 13 rfl ?_
              refine zv_iload C dL_law_1276 1278 rfl 12 rfl ?_
              refine zv_if_ge C dL_law_1278 1281 1286 rfl (by decide) (fun _ => ?_) (fun c => absurd (Int32.not_lt.mp (nI_nneg (by omega))) c)
              refine zv_iload C dL_law_1286 1288 rfl 12 rfl ?_
              refine zv_icmp_gt C dL_law_1288 1291 1293 rfl (by decide) (fun _ => ?_) (fun c => absurd (nI_lt (by omega) (by omega)) c)
              refine zv_go rfl (lv' := [(26, .int (nI (inN m6 m7 (nmS n m0 m1 m2 (swN m1 (swN m1 m3 m4 k) m4 1) m5 r) b))), (0, .ref sc), (1, .ref a), (2, .ref (s 0)), (3, .int (nI ti)), (4, .int x), (5, .long (dgM n b m0 m1 m2 m3 m5 m6 m7 r y)), (7, .int (nI n)), (16, .ref nm), (17, .int (nI pl)), (22, .int (nI yy)), (23, .int (nmS n m0 m1 m2 (swN m1 m3 m4 yy) m5 r pl)), (24, .int un), (25, .int (nI (k + 1)))]) (by rw [hu1]) rfl rfl rfl ?_
              refine zv_iinc (v := (nI (k + 1 + 1))) C dL_law_1293 1296 rfl [(25, .int (nI (k + 1 + 1))), (26, .int (nI (inN m6 m7 (nmS n m0 m1 m2 (swN m1 (swN m1 m3 m4 k) m4 1) m5 r) b))), (0, .ref sc), (1, .ref a), (2, .ref (s 0)), (3, .int (nI ti)), (4, .int x), (5, .long (dgM n b m0 m1 m2 m3 m5 m6 m7 r y)), (7, .int (nI n)), (16, .ref nm), (17, .int (nI pl)), (22, .int (nI yy)), (23, .int (nmS n m0 m1 m2 (swN m1 m3 m4 yy) m5 r pl)), (24, .int un)] 13 rfl (nI_1 (k + 1)) (by decide) rfl ?_
              refine zv_goto C dL_law_1296 1207 (by decide) ?_
              refine zv_sub [2, 3, 4, 5, 6, 7, 8, 9, 10, 11, 12, 13, 0] (lv' := [(0, .ref sc), (1, .ref a), (2, .ref (s 0)), (3, .int (nI ti)), (4, .int x), (5, .long (dgM n b m0 m1 m2 m3 m5 m6 m7 r y)), (7, .int (nI n)), (16, .ref nm), (17, .int (nI pl)), (22, .int (nI yy)), (23, .int (nmS n m0 m1 m2 (swN m1 m3 m4 yy) m5 r pl)), (24, .int un), (25, .int (nI (k + 1 + 1)))]) rfl ?_
              exact ih_L1 (k + 1) w' hRn (by omega) (by omega)
          ·
            have hlt := zn_le' (by omega) (by omega) cu
            have hsame : nmS n m0 m1 m2 (swN m1 m3 m4 (k + 1)) m5 r pl = nmS n m0 m1 m2 m3 m5 r pl := by
              have z := hu3 (k + 1) (by omega) (by omega)
              unfold anY at z
              simpa using z
            refine zv_iconst (v := 1) C dL_law_1247 1248 rfl (by decide) ?_
            refine zv_goto C dL_law_1248 1252 (by decide) ?_
            refine zv_aload_n C dL_law_1252 1253 rfl 2 rfl ?_
            refine zv_iload C dL_law_1253 1255 rfl 9 rfl ?_
            refine zn_callRV (rest := [.int 1]) C zn_TB zn_TE (zn_ofR (w_nameAt l D hRn pl hpl)) (cwV 1 C.1.2.2.2.2 gL_law_X1_nameAt rfl rfl rfl (by decide +kernel) ⟨Nat.le_of_ble_eq_true rfl, Nat.le_of_ble_eq_true rfl⟩) dL_law_1255 1258 rfl (ci := 1) rfl 0 hrc rfl rfl (Nat.le_of_ble_eq_true rfl) ⟨(by show kc + 0 ≤ 600130; omega), (by show ns + 0 ≤ 7301079; omega)⟩ [0, 1] rfl (List.Sublist.cons _ (List.Sublist.cons _ (List.Sublist.cons _ (List.Sublist.cons _ ((List.sublist_append_right _ _).trans (List.sublist_append_right _ _)))))) (fun v hv => ?_)
            subst hv
            refine zv_go rfl rfl (st' := [.int (nmS n m0 m1 m2 (swN m1 m3 m4 (k + 1)) m5 r pl), .int 1]) rfl (kc' := kc) rfl (ns' := ns) rfl ?_
            refine zv_aload C dL_law_1258 1260 rfl 8 rfl ?_
            refine zv_iload C dL_law_1260 1262 rfl 9 rfl ?_
            refine zv_iald (v := (nmS n m0 m1 m2 m3 m5 r pl)) C dL_law_1262 1263 rfl 0 0 pl rfl rfl rfl (by omega) (by omega) (hg pl hpl) ?_
            refine zv_icmp_ne C dL_law_1263 1266 1270 rfl (by decide) (fun c => absurd c (fun c => c hsame)) (fun _ => ?_)
            refine zv_iconst (v := 1) C dL_law_1266 1267 rfl (by decide) ?_
            refine zv_goto C dL_law_1267 1271 (by decide) ?_
            refine zv_icmp_eq C dL_law_1271 1274 1293 rfl (by decide) (fun _ => ?_) (fun c => absurd rfl c)
            refine zv_go rfl (lv' := [(26, .int (nI (inN m6 m7 (nmS n m0 m1 m2 (swN m1 (swN m1 m3 m4 k) m4 1) m5 r) b))), (0, .ref sc), (1, .ref a), (2, .ref (s 0)), (3, .int (nI ti)), (4, .int x), (5, .long (dgM n b m0 m1 m2 m3 m5 m6 m7 r y)), (7, .int (nI n)), (16, .ref nm), (17, .int (nI pl)), (22, .int (nI yy)), (23, .int (nmS n m0 m1 m2 (swN m1 m3 m4 yy) m5 r pl)), (24, .int un), (25, .int (nI (k + 1)))]) (by rw [hu1]) rfl rfl rfl ?_
            refine zv_iinc (v := (nI (k + 1 + 1))) C dL_law_1293 1296 rfl [(25, .int (nI (k + 1 + 1))), (26, .int (nI (inN m6 m7 (nmS n m0 m1 m2 (swN m1 (swN m1 m3 m4 k) m4 1) m5 r) b))), (0, .ref sc), (1, .ref a), (2, .ref (s 0)), (3, .int (nI ti)), (4, .int x), (5, .long (dgM n b m0 m1 m2 m3 m5 m6 m7 r y)), (7, .int (nI n)), (16, .ref nm), (17, .int (nI pl)), (22, .int (nI yy)), (23, .int (nmS n m0 m1 m2 (swN m1 m3 m4 yy) m5 r pl)), (24, .int un)] 13 rfl (nI_1 (k + 1)) (by decide) rfl ?_
            refine zv_goto C dL_law_1296 1207 (by decide) ?_
            refine zv_sub [2, 3, 4, 5, 6, 7, 8, 9, 10, 11, 12, 13, 0] (lv' := [(0, .ref sc), (1, .ref a), (2, .ref (s 0)), (3, .int (nI ti)), (4, .int x), (5, .long (dgM n b m0 m1 m2 m3 m5 m6 m7 r y)), (7, .int (nI n)), (16, .ref nm), (17, .int (nI pl)), (22, .int (nI yy)), (23, .int (nmS n m0 m1 m2 (swN m1 m3 m4 yy) m5 r pl)), (24, .int un), (25, .int (nI (k + 1 + 1)))]) rfl ?_
            exact ih_L1 (k + 1) w' hRn (by omega) (by omega)
  have ey0 : y + nI 0 = y := Int32.add_zero y
  refine zv_go rfl (lv' := [(25, .int (nI (0 + 1))), (24, .int un), (23, .int (nmS n m0 m1 m2 (swN m1 m3 m4 yy) m5 r pl)), (22, .int (nI yy)), (0, .ref sc), (1, .ref a), (2, .ref (s 0)), (3, .int (nI ti)), (4, .int x), (5, .long (dgM n b m0 m1 m2 m3 m5 m6 m7 r y)), (7, .int (nI n)), (16, .ref nm), (17, .int (nI pl))]) (by rw [eun]; rfl) rfl rfl rfl ?_
  refine zv_wd (ws' := ((nm, .inl (cI, n, .inl g)) :: (s 0, .inr (2, [.int r, .int (y + nI 0), .ref (s 1), .ref (s 2)])) :: (s 1, .inl (cA, n, aq pa)) :: (s 2, .inl (cA, b, aq da)) :: (sR cI 6 pa (rP m0 m1 m2 (swN m1 m3 m4 0) m4 m5) n ++ (sR cI 2 da (rB m6 m7) b ++ w')))) (by rw [ey0]; rfl) ?_
  refine zv_sub [4, 5, 6, 7, 8, 9, 10, 11, 12, 3, 2, 1, 0] (lv' := [(0, .ref sc), (1, .ref a), (2, .ref (s 0)), (3, .int (nI ti)), (4, .int x), (5, .long (dgM n b m0 m1 m2 m3 m5 m6 m7 r y)), (7, .int (nI n)), (16, .ref nm), (17, .int (nI pl)), (22, .int (nI yy)), (23, .int (nmS n m0 m1 m2 (swN m1 m3 m4 yy) m5 r pl)), (24, .int un), (25, .int (nI (0 + 1)))]) rfl ?_
  exact L1 (yy + 1) 0 w' (by rw [ey0]; exact hRb) (by omega) (by omega)
