/-! ===== the law's loop: looking at names ===== -/
theorem mx_nI {a c : Nat} (ha : a < 2 ^ 31) (hc : c < 2 ^ 31) : (if nI a < nI c then nI c else nI a) = nI (if a < c then c else a) := by
  by_cases z : a < c
  · rw [if_pos z, if_pos (nI_lt z hc)]
  · rw [if_neg z, if_neg (nI_nlt (by omega) (by omega))]
set_option maxHeartbeats 4000000 in
set_option maxRecDepth 100000 in
theorem la_names {pP : Program} {l : Launch} {eE : Env} {sS : State} {mM : MethodId} {aA : Array Value} {bB : List Frame} {mT : Method} {cD : Code} {Q : State → Prop} {D : va_G} {cI cZ cA : ClassId} {A : Nat → Prop} (C : zv_C pP mM cD cL_law 27 sS aA wsL_law "RiverNamesLaw" A) {a n b : Nat} {r y : Int32} {m0 m1 m2 m3 m4 m5 m6 m7 : Nat → Int32} {w : va_W} (hR : zR cI cZ a n b r y m0 m1 m2 m3 m4 m5 m6 m7 w) {s pa da : Nat → Nat} {sc ti kc ns : Nat} {x : Int32} (hkc : kc ≤ 600000) (hns : ns ≤ 7300000) (K : ∀ w' : va_W, zR cI cZ a n b r y m0 m1 m2 m3 m4 m5 m6 m7 w' → zv_V pP l eE room_1 sS mM aA bB mT cD Q 27 D vwCl A A (tyS cI cZ cA) ((s 0, .inr (2, [.int r, .int y, .ref (s 1), .ref (s 2)])) :: (s 1, .inl (cA, n, aq pa)) :: (s 2, .inl (cA, b, aq da)) :: (sR cI 6 pa (rP m0 m1 m2 m3 m4 m5) n ++ (sR cI 2 da (rB m6 m7) b ++ w'))) kc ns 197 [(0, .ref sc), (1, .ref a), (2, .ref (s 0)), (3, .int (nI ti)), (4, .int x), (5, .long (dgM n b m0 m1 m2 m3 m5 m6 m7 r y)), (7, .int (nI n))] []) : zv_V pP l eE room_1 sS mM aA bB mT cD Q 27 D vwCl A A (tyS cI cZ cA) ((s 0, .inr (2, [.int r, .int y, .ref (s 1), .ref (s 2)])) :: (s 1, .inl (cA, n, aq pa)) :: (s 2, .inl (cA, b, aq da)) :: (sR cI 6 pa (rP m0 m1 m2 m3 m4 m5) n ++ (sR cI 2 da (rB m6 m7) b ++ w))) kc ns 82 [(0, .ref sc), (1, .ref a), (2, .ref (s 0)), (3, .int (nI ti)), (4, .int x)] [] := by
  have ml : Cond.methodLink RL 98 Lib.Math.max.name ∈ wsL_law := by decide +kernel
  have ms : Cond.static Lib.Math.max.name ∈ wsL_law := by decide +kernel
  have mi : Cond.initialized "java/lang/Math" ∈ wsL_law := by decide +kernel
  have mc : Cond.code Lib.Math.max.name Lib.Math.max.code 2 (some .int) ∈ wsL_law := by decide +kernel
  have hV := hR.lv
  have hn16 : n ≤ 16 := hV.n16
  have hb16 : b ≤ 16 := hV.b16
  obtain ⟨fs, hrc⟩ := hR.recv
  obtain ⟨d, sD, hD⟩ := hV.dep
  refine zv_aload_n C dL_law_82 83 rfl 1 rfl ?_
  refine zv_wd (ws' := ((s 0, .inr (2, [.int r, .int y, .ref (s 1), .ref (s 2)])) :: (s 1, .inl (cA, n, aq pa)) :: (s 2, .inl (cA, b, aq da)) :: (sR cI 6 pa (rP m0 m1 m2 m3 m4 m5) n ++ sR cI 2 da (rB m6 m7) b)) ++ (w ++ [])) (by simp only [List.append_assoc, List.cons_append, List.append_nil, List.nil_append] <;> rfl) ?_
  refine zn_callMV (a := ((s 0, .inr (2, [.int r, .int y, .ref (s 1), .ref (s 2)])) :: (s 1, .inl (cA, n, aq pa)) :: (s 2, .inl (cA, b, aq da)) :: (sR cI 6 pa (rP m0 m1 m2 m3 m4 m5) n ++ sR cI 2 da (rB m6 m7) b))) (bb := []) (rest := []) C zn_TB zn_TE (zn_ofM (w_digest l D hR)) (cwV 0 C.1.2.2.2.2 gL_law_X1_digest rfl rfl rfl (by decide +kernel) ⟨Nat.le_of_ble_eq_true rfl, Nat.le_of_ble_eq_true rfl⟩) dL_law_83 86 rfl (ci := 1) rfl 0 hrc rfl rfl (Nat.le_of_ble_eq_true rfl) ⟨(by show kc + 0 ≤ 600130; omega), (by show ns + 0 ≤ 7301079; omega)⟩ [0, 1] rfl (fun v w' hv => ?_)
  obtain ⟨rfl, hR2⟩ := hv
  refine zv_wd (ws' := ((s 0, .inr (2, [.int r, .int y, .ref (s 1), .ref (s 2)])) :: (s 1, .inl (cA, n, aq pa)) :: (s 2, .inl (cA, b, aq da)) :: (sR cI 6 pa (rP m0 m1 m2 m3 m4 m5) n ++ (sR cI 2 da (rB m6 m7) b ++ w')))) (by simp only [List.append_assoc, List.cons_append, List.append_nil, List.nil_append] <;> rfl) ?_
  refine zv_go rfl rfl (st' := [.long (dgM n b m0 m1 m2 m3 m5 m6 m7 r y)]) rfl (kc' := kc) rfl (ns' := ns) rfl ?_
  obtain ⟨fs2, hrc⟩ := hR2.recv
  refine zv_lstore C dL_law_86 88 rfl [(5, .long (dgM n b m0 m1 m2 m3 m5 m6 m7 r y)), (0, .ref sc), (1, .ref a), (2, .ref (s 0)), (3, .int (nI ti)), (4, .int x)] (by decide) rfl ?_
  refine zv_aload_n C dL_law_88 89 rfl 2 rfl ?_
  refine zn_callRV (rest := []) C zn_TB zn_TE (zn_ofR (w_places l D hR2)) (cwV 0 C.1.2.2.2.2 gL_law_X1_places rfl rfl rfl (by decide +kernel) ⟨Nat.le_of_ble_eq_true rfl, Nat.le_of_ble_eq_true rfl⟩) dL_law_89 92 rfl (ci := 1) rfl 0 hrc rfl rfl (Nat.le_of_ble_eq_true rfl) ⟨(by show kc + 0 ≤ 600130; omega), (by show ns + 0 ≤ 7301079; omega)⟩ [0, 1] rfl (List.Sublist.cons _ (List.Sublist.cons _ (List.Sublist.cons _ ((List.sublist_append_right _ _).trans (List.sublist_append_right _ _))))) (fun v hv => ?_)
  subst hv
  refine zv_go rfl rfl (st' := [.int (nI n)]) rfl (kc' := kc) rfl (ns' := ns) rfl ?_
  refine zv_istore C dL_law_92 94 rfl [(7, .int (nI n)), (5, .long (dgM n b m0 m1 m2 m3 m5 m6 m7 r y)), (0, .ref sc), (1, .ref a), (2, .ref (s 0)), (3, .int (nI ti)), (4, .int x)] (by decide) rfl ?_
  refine zv_iconst (v := 0) C dL_law_94 95 rfl (by decide) ?_
  refine zv_istore C dL_law_95 97 rfl [(8, .int 0), (7, .int (nI n)), (5, .long (dgM n b m0 m1 m2 m3 m5 m6 m7 r y)), (0, .ref sc), (1, .ref a), (2, .ref (s 0)), (3, .int (nI ti)), (4, .int x)] (by decide) rfl ?_
  refine zv_iconst (v := 0) C dL_law_97 98 rfl (by decide) ?_
  refine zv_istore C dL_law_98 100 rfl [(9, .int 0), (8, .int 0), (7, .int (nI n)), (5, .long (dgM n b m0 m1 m2 m3 m5 m6 m7 r y)), (0, .ref sc), (1, .ref a), (2, .ref (s 0)), (3, .int (nI ti)), (4, .int x)] (by decide) rfl ?_
  refine zv_iconst (v := 0) C dL_law_100 101 rfl (by decide) ?_
  refine zv_istore C dL_law_101 103 rfl [(10, .int 0), (9, .int 0), (8, .int 0), (7, .int (nI n)), (5, .long (dgM n b m0 m1 m2 m3 m5 m6 m7 r y)), (0, .ref sc), (1, .ref a), (2, .ref (s 0)), (3, .int (nI ti)), (4, .int x)] (by decide) rfl ?_
  have L1 : ∀ (mu_L1 : Nat), ∀ (k : Nat), (k ≤ 10) → 10 - k < mu_L1 → zv_V pP l eE room_1 sS mM aA bB mT cD Q 27 D vwCl A A (tyS cI cZ cA) ((s 0, .inr (2, [.int r, .int y, .ref (s 1), .ref (s 2)])) :: (s 1, .inl (cA, n, aq pa)) :: (s 2, .inl (cA, b, aq da)) :: (sR cI 6 pa (rP m0 m1 m2 m3 m4 m5) n ++ (sR cI 2 da (rB m6 m7) b ++ w'))) kc ns 103 [(0, .ref sc), (1, .ref a), (2, .ref (s 0)), (3, .int (nI ti)), (4, .int x), (5, .long (dgM n b m0 m1 m2 m3 m5 m6 m7 r y)), (7, .int (nI n)), (8, .int (nI (nsm (nmS n m0 m1 m2 m3 m5 r) n k))), (9, .int (nI (nmx (nmS n m0 m1 m2 m3 m5 r) n k))), (10, .int (nI k))] [] := by
    intro mu_L1
    induction mu_L1 with
    | zero => intro k hk hmu_L1; exact absurd hmu_L1 (Nat.not_lt_zero _)
    | succ mu_L1 ih_L1 =>
      intro k hk hmu_L1
      refine zv_iload C dL_law_103 105 rfl 9 rfl ?_
      refine zv_bipush (v := 10) C dL_law_105 107 rfl (by decide) ?_
      refine zv_icmp_ge C dL_law_107 110 140 rfl (by decide) (fun ck => ?_) (fun ck => ?_)
      ·
        have e1 : k = 10 := by have := zn_le (a := 10) (b := k) (by omega) (by omega) ck; omega
        subst e1
        have hall := nsm_all (f := nmS n m0 m1 m2 m3 m5 r) n (fun i hi => hV.nv hi)
        have hsl := nsm_le (f := nmS n m0 m1 m2 m3 m5 r) (n := n) 10
        refine zv_iload C dL_law_140 142 rfl 7 rfl ?_
        refine zv_aload_n C dL_law_142 143 rfl 1 rfl ?_
        refine zn_callRV (rest := [.int (nI (nsm (nmS n m0 m1 m2 m3 m5 r) n 10))]) C zn_TB zn_TE (zn_ofR (w_nameless l D hR2)) (cwV 0 C.1.2.2.2.2 gL_law_X1_nameless rfl rfl rfl (by decide +kernel) ⟨Nat.le_of_ble_eq_true rfl, Nat.le_of_ble_eq_true rfl⟩) dL_law_143 146 rfl (ci := 1) rfl 0 hrc rfl rfl (Nat.le_of_ble_eq_true rfl) ⟨(by show kc + 0 ≤ 600130; omega), (by show ns + 0 ≤ 7301079; omega)⟩ [0, 1] rfl (List.Sublist.cons _ (List.Sublist.cons _ (List.Sublist.cons _ ((List.sublist_append_right _ _).trans (List.sublist_append_right _ _))))) (fun v hv => ?_)
        subst hv
        refine zv_go rfl rfl (st' := [.int (nI (cnt (nmS n m0 m1 m2 m3 m5 r) (-1) n)), .int (nI (nsm (nmS n m0 m1 m2 m3 m5 r) n 10))]) rfl (kc' := kc) rfl (ns' := ns) rfl ?_
        refine zv_iadd (v := (nI n)) C dL_law_146 147 rfl (by rw [nI_add, hall]) ?_
        refine zv_iload C dL_law_147 149 rfl 6 rfl ?_
        refine zv_icmp_ne C dL_law_149 152 195 rfl (by decide) (fun c => absurd c (fun c => c rfl)) (fun _ => ?_)
        refine zv_aload_n C dL_law_152 153 rfl 1 rfl ?_
        rcases gst_spec (nmS n m0 m1 m2 m3 m5 r) n 10 (Nat.le_refl _) with ⟨hg, hz⟩ | ⟨a9, ha9, hg, hc9, hm9⟩
        ·
          have hs0 : nsm (nmS n m0 m1 m2 m3 m5 r) n 10 = 0 := nsm_none 10 hz
          refine zn_callRV (rest := []) C zn_TB zn_TE (zn_ofR (w_greatestName l D hR2)) (cwV 0 C.1.2.2.2.2 gL_law_X1_greatestName rfl rfl rfl (by decide +kernel) ⟨Nat.le_of_ble_eq_true rfl, Nat.le_of_ble_eq_true rfl⟩) dL_law_153 156 rfl (ci := 1) rfl 0 hrc rfl rfl (Nat.le_of_ble_eq_true rfl) ⟨(by show kc + 0 ≤ 600130; omega), (by show ns + 0 ≤ 7301079; omega)⟩ [0, 1] rfl (List.Sublist.cons _ (List.Sublist.cons _ (List.Sublist.cons _ ((List.sublist_append_right _ _).trans (List.sublist_append_right _ _))))) (fun v hv => ?_)
          subst hv
          rw [hg]
          refine zv_go rfl rfl (st' := [.int (-1 : Int32)]) rfl (kc' := kc) rfl (ns' := ns) rfl ?_
          refine zv_if_ge C dL_law_156 159 163 rfl (by decide) (fun c => absurd c (by decide)) (fun _ => ?_)
          refine zv_iconst (v := 1) C dL_law_159 160 rfl (by decide) ?_
          refine zv_goto C dL_law_160 164 (by decide) ?_
          refine zv_iload C dL_law_164 166 rfl 7 rfl ?_
          refine zv_if_ne C dL_law_166 169 173 rfl (by decide) (fun c => absurd c (fun c => c (by rw [hs0]; rfl))) (fun _ => ?_)
          refine zv_iconst (v := 1) C dL_law_169 170 rfl (by decide) ?_
          refine zv_goto C dL_law_170 174 (by decide) ?_
          refine zv_icmp_ne C dL_law_174 177 195 rfl (by decide) (fun c => absurd c (fun c => c rfl)) (fun _ => ?_)
          refine zv_iload C dL_law_177 179 rfl 7 rfl ?_
          refine zv_if_le C dL_law_179 182 197 rfl (by decide) (fun _ => ?_) (fun c => absurd (by rw [hs0]; decide) c)
          refine zv_sub [0, 1, 2, 3, 4, 5, 6] (lv' := [(0, .ref sc), (1, .ref a), (2, .ref (s 0)), (3, .int (nI ti)), (4, .int x), (5, .long (dgM n b m0 m1 m2 m3 m5 m6 m7 r y)), (7, .int (nI n))]) rfl ?_
          exact K w' hR2
        ·
          have hs1 : ¬ nsm (nmS n m0 m1 m2 m3 m5 r) n 10 = 0 := fun z => by have := nsm_ge (f := nmS n m0 m1 m2 m3 m5 r) (n := n) 10 a9 ha9; omega
          have hcl := cnt_le (nmS n m0 m1 m2 m3 m5 r) (nI a9) n
          refine zn_callRV (rest := []) C zn_TB zn_TE (zn_ofR (w_greatestName l D hR2)) (cwV 0 C.1.2.2.2.2 gL_law_X1_greatestName rfl rfl rfl (by decide +kernel) ⟨Nat.le_of_ble_eq_true rfl, Nat.le_of_ble_eq_true rfl⟩) dL_law_153 156 rfl (ci := 1) rfl 0 hrc rfl rfl (Nat.le_of_ble_eq_true rfl) ⟨(by show kc + 0 ≤ 600130; omega), (by show ns + 0 ≤ 7301079; omega)⟩ [0, 1] rfl (List.Sublist.cons _ (List.Sublist.cons _ (List.Sublist.cons _ ((List.sublist_append_right _ _).trans (List.sublist_append_right _ _))))) (fun v hv => ?_)
          subst hv
          rw [hg]
          refine zv_go rfl rfl (st' := [.int (nI a9)]) rfl (kc' := kc) rfl (ns' := ns) rfl ?_
          refine zv_if_ge C dL_law_156 159 163 rfl (by decide) (fun _ => ?_) (fun c => absurd (Int32.not_lt.mp (nI_nneg (by omega))) c)
          refine zv_iconst (v := 0) C dL_law_163 164 rfl (by decide) ?_
          refine zv_iload C dL_law_164 166 rfl 7 rfl ?_
          refine zv_if_ne C dL_law_166 169 173 rfl (by decide) (fun _ => ?_) (fun c => absurd c (fun z => hs1 (zn_eq (by omega) (by omega) (show nI _ = nI 0 from z))))
          refine zv_iconst (v := 0) C dL_law_173 174 rfl (by decide) ?_
          refine zv_icmp_ne C dL_law_174 177 195 rfl (by decide) (fun c => absurd c (fun c => c rfl)) (fun _ => ?_)
          refine zv_iload C dL_law_177 179 rfl 7 rfl ?_
          refine zv_if_le C dL_law_179 182 197 rfl (by decide) (fun c => absurd c (fun z => hs1 ((nI_le0 (by omega)).mp z))) (fun _ => ?_)
          refine zv_aload_n C dL_law_182 183 rfl 1 rfl ?_
          refine zv_aload_n C dL_law_183 184 rfl 1 rfl ?_
          refine zn_callRV (rest := [.ref a]) C zn_TB zn_TE (zn_ofR (w_greatestName l D hR2)) (cwV 0 C.1.2.2.2.2 gL_law_X1_greatestName rfl rfl rfl (by decide +kernel) ⟨Nat.le_of_ble_eq_true rfl, Nat.le_of_ble_eq_true rfl⟩) dL_law_184 187 rfl (ci := 1) rfl 0 hrc rfl rfl (Nat.le_of_ble_eq_true rfl) ⟨(by show kc + 0 ≤ 600130; omega), (by show ns + 0 ≤ 7301079; omega)⟩ [0, 1] rfl (List.Sublist.cons _ (List.Sublist.cons _ (List.Sublist.cons _ ((List.sublist_append_right _ _).trans (List.sublist_append_right _ _))))) (fun v hv => ?_)
          subst hv
          rw [hg]
          refine zv_go rfl rfl (st' := [.int (nI a9), .ref a]) rfl (kc' := kc) rfl (ns' := ns) rfl ?_
          refine zn_callRV (rest := []) C zn_TB zn_TE (zn_ofR (w_placesNamed l D hR2 (nI a9) (isI_nI (lo := 0) (hi := 9) (Nat.zero_le _) (by omega) (by omega)))) (cwV 1 C.1.2.2.2.2 gL_law_X1_placesNamed rfl rfl rfl (by decide +kernel) ⟨Nat.le_of_ble_eq_true rfl, Nat.le_of_ble_eq_true rfl⟩) dL_law_187 190 rfl (ci := 1) rfl 0 hrc rfl rfl (Nat.le_of_ble_eq_true rfl) ⟨(by show kc + 0 ≤ 600130; omega), (by show ns + 0 ≤ 7301079; omega)⟩ [0, 1] rfl (List.Sublist.cons _ (List.Sublist.cons _ (List.Sublist.cons _ ((List.sublist_append_right _ _).trans (List.sublist_append_right _ _))))) (fun v hv => ?_)
          subst hv
          refine zv_go rfl rfl (st' := [.int (nI (cnt (nmS n m0 m1 m2 m3 m5 r) (nI a9) n))]) rfl (kc' := kc) rfl (ns' := ns) rfl ?_
          refine zv_iload C dL_law_190 192 rfl 8 rfl ?_
          refine zv_icmp_eq C dL_law_192 195 197 rfl (by decide) (fun _ => ?_) (fun c => absurd (by rw [nmx_is 10 ha9 (fun i hi => by have := hm9 i hi; omega)]) c)
          refine zv_sub [0, 1, 2, 3, 4, 5, 6] (lv' := [(0, .ref sc), (1, .ref a), (2, .ref (s 0)), (3, .int (nI ti)), (4, .int x), (5, .long (dgM n b m0 m1 m2 m3 m5 m6 m7 r y)), (7, .int (nI n))]) rfl ?_
          exact K w' hR2
      ·
        have hk2 : k < 10 := zn_le' (a := 10) (b := k) (by omega) (by omega) ck
        have hc1 := cnt_le (nmS n m0 m1 m2 m3 m5 r) (nI k) n
        have hx1 := nmx_le (f := nmS n m0 m1 m2 m3 m5 r) (n := n) k
        refine zv_iload C dL_law_110 112 rfl 7 rfl ?_
        refine zv_aload_n C dL_law_112 113 rfl 1 rfl ?_
        refine zv_iload C dL_law_113 115 rfl 9 rfl ?_
        refine zn_callRV (rest := [.int (nI (nsm (nmS n m0 m1 m2 m3 m5 r) n k))]) C zn_TB zn_TE (zn_ofR (w_placesNamed l D hR2 (nI k) (isI_nI (lo := 0) (hi := 9) (Nat.zero_le _) (by omega) (by omega)))) (cwV 1 C.1.2.2.2.2 gL_law_X1_placesNamed rfl rfl rfl (by decide +kernel) ⟨Nat.le_of_ble_eq_true rfl, Nat.le_of_ble_eq_true rfl⟩) dL_law_115 118 rfl (ci := 1) rfl 0 hrc rfl rfl (Nat.le_of_ble_eq_true rfl) ⟨(by show kc + 0 ≤ 600130; omega), (by show ns + 0 ≤ 7301079; omega)⟩ [0, 1] rfl (List.Sublist.cons _ (List.Sublist.cons _ (List.Sublist.cons _ ((List.sublist_append_right _ _).trans (List.sublist_append_right _ _))))) (fun v hv => ?_)
        subst hv
        refine zv_go rfl rfl (st' := [.int (nI (cnt (nmS n m0 m1 m2 m3 m5 r) (nI k) n)), .int (nI (nsm (nmS n m0 m1 m2 m3 m5 r) n k))]) rfl (kc' := kc) rfl (ns' := ns) rfl ?_
        refine zv_iadd (v := (nI (nsm (nmS n m0 m1 m2 m3 m5 r) n (k + 1)))) C dL_law_118 119 rfl (nI_add _ _) ?_
        refine zv_istore C dL_law_119 121 rfl [(8, .int (nI (nsm (nmS n m0 m1 m2 m3 m5 r) n (k + 1)))), (0, .ref sc), (1, .ref a), (2, .ref (s 0)), (3, .int (nI ti)), (4, .int x), (5, .long (dgM n b m0 m1 m2 m3 m5 m6 m7 r y)), (7, .int (nI n)), (9, .int (nI (nmx (nmS n m0 m1 m2 m3 m5 r) n k))), (10, .int (nI k))] (by decide) rfl ?_
        refine zv_iload C dL_law_121 123 rfl 8 rfl ?_
        refine zv_aload_n C dL_law_123 124 rfl 2 rfl ?_
        refine zv_iload C dL_law_124 126 rfl 9 rfl ?_
        refine zn_callRV (rest := [.int (nI (nmx (nmS n m0 m1 m2 m3 m5 r) n k))]) C zn_TB zn_TE (zn_ofR (w_placesNamed l D hR2 (nI k) (isI_nI (lo := 0) (hi := 9) (Nat.zero_le _) (by omega) (by omega)))) (cwV 1 C.1.2.2.2.2 gL_law_X1_placesNamed rfl rfl rfl (by decide +kernel) ⟨Nat.le_of_ble_eq_true rfl, Nat.le_of_ble_eq_true rfl⟩) dL_law_126 129 rfl (ci := 1) rfl 0 hrc rfl rfl (Nat.le_of_ble_eq_true rfl) ⟨(by show kc + 0 ≤ 600130; omega), (by show ns + 0 ≤ 7301079; omega)⟩ [0, 1] rfl (List.Sublist.cons _ (List.Sublist.cons _ (List.Sublist.cons _ ((List.sublist_append_right _ _).trans (List.sublist_append_right _ _))))) (fun v hv => ?_)
        subst hv
        refine zv_go rfl rfl (st' := [.int (nI (cnt (nmS n m0 m1 m2 m3 m5 r) (nI k) n)), .int (nI (nmx (nmS n m0 m1 m2 m3 m5 r) n k))]) rfl (kc' := kc) rfl (ns' := ns) rfl ?_
        refine zv_mmax C dL_law_129 132 rfl ml ms mi mc (Nat.le_of_ble_eq_true rfl) (Nat.le_of_ble_eq_true rfl) (by show kc ≤ 600130; omega) (by show ns ≤ 7301079; omega) ?_
        refine zv_go rfl rfl (st' := [.int (nI (nmx (nmS n m0 m1 m2 m3 m5 r) n (k + 1)))]) (by rw [mx_nI (by omega) (by omega)]; rfl) rfl rfl ?_
        refine zv_istore C dL_law_132 134 rfl [(9, .int (nI (nmx (nmS n m0 m1 m2 m3 m5 r) n (k + 1)))), (8, .int (nI (nsm (nmS n m0 m1 m2 m3 m5 r) n (k + 1)))), (0, .ref sc), (1, .ref a), (2, .ref (s 0)), (3, .int (nI ti)), (4, .int x), (5, .long (dgM n b m0 m1 m2 m3 m5 m6 m7 r y)), (7, .int (nI n)), (10, .int (nI k))] (by decide) rfl ?_
        refine zv_iinc (v := (nI (k + 1))) C dL_law_134 137 rfl [(10, .int (nI (k + 1))), (9, .int (nI (nmx (nmS n m0 m1 m2 m3 m5 r) n (k + 1)))), (8, .int (nI (nsm (nmS n m0 m1 m2 m3 m5 r) n (k + 1)))), (0, .ref sc), (1, .ref a), (2, .ref (s 0)), (3, .int (nI ti)), (4, .int x), (5, .long (dgM n b m0 m1 m2 m3 m5 m6 m7 r y)), (7, .int (nI n))] 9 rfl (nI_1 k) (by decide) rfl ?_
        refine zv_goto C dL_law_137 103 (by decide) ?_
        refine zv_sub [3, 4, 5, 6, 7, 8, 9, 2, 1, 0] (lv' := [(0, .ref sc), (1, .ref a), (2, .ref (s 0)), (3, .int (nI ti)), (4, .int x), (5, .long (dgM n b m0 m1 m2 m3 m5 m6 m7 r y)), (7, .int (nI n)), (8, .int (nI (nsm (nmS n m0 m1 m2 m3 m5 r) n (k + 1)))), (9, .int (nI (nmx (nmS n m0 m1 m2 m3 m5 r) n (k + 1)))), (10, .int (nI (k + 1)))]) rfl ?_
        exact ih_L1 (k + 1) (by omega) (by omega)
  refine zv_go rfl (lv' := [(10, .int (nI 0)), (9, .int (nI (nmx (nmS n m0 m1 m2 m3 m5 r) n 0))), (8, .int (nI (nsm (nmS n m0 m1 m2 m3 m5 r) n 0))), (7, .int (nI n)), (5, .long (dgM n b m0 m1 m2 m3 m5 m6 m7 r y)), (0, .ref sc), (1, .ref a), (2, .ref (s 0)), (3, .int (nI ti)), (4, .int x)]) rfl rfl rfl rfl ?_
  refine zv_sub [5, 6, 7, 8, 9, 4, 3, 2, 1, 0] (lv' := [(0, .ref sc), (1, .ref a), (2, .ref (s 0)), (3, .int (nI ti)), (4, .int x), (5, .long (dgM n b m0 m1 m2 m3 m5 m6 m7 r y)), (7, .int (nI n)), (8, .int (nI (nsm (nmS n m0 m1 m2 m3 m5 r) n 0))), (9, .int (nI (nmx (nmS n m0 m1 m2 m3 m5 r) n 0))), (10, .int (nI 0))]) rfl ?_
  exact L1 11 0 (by omega) (by omega)
set_option maxHeartbeats 4000000 in
set_option maxRecDepth 100000 in
theorem la_bridges {pP : Program} {l : Launch} {eE : Env} {sS : State} {mM : MethodId} {aA : Array Value} {bB : List Frame} {mT : Method} {cD : Code} {Q : State → Prop} {D : va_G} {cI cZ cA : ClassId} {A : Nat → Prop} (C : zv_C pP mM cD cL_law 27 sS aA wsL_law "RiverNamesLaw" A) {a n b : Nat} {r y : Int32} {m0 m1 m2 m3 m4 m5 m6 m7 : Nat → Int32} {w : va_W} (hR : zR cI cZ a n b r y m0 m1 m2 m3 m4 m5 m6 m7 w) {s pa da : Nat → Nat} {sc ti kc ns : Nat} {x : Int32} (hkc : kc ≤ 600000) (hns : ns ≤ 7300000) (K : ∀ w' : va_W, zR cI cZ a n b r y m0 m1 m2 m3 m4 m5 m6 m7 w' → zv_V pP l eE room_1 sS mM aA bB mT cD Q 27 D vwCl A A (tyS cI cZ cA) ((s 0, .inr (2, [.int r, .int y, .ref (s 1), .ref (s 2)])) :: (s 1, .inl (cA, n, aq pa)) :: (s 2, .inl (cA, b, aq da)) :: (sR cI 6 pa (rP m0 m1 m2 m3 m4 m5) n ++ (sR cI 2 da (rB m6 m7) b ++ w'))) kc ns 1005 [(0, .ref sc), (1, .ref a), (2, .ref (s 0)), (3, .int (nI ti)), (4, .int x), (5, .long (dgM n b m0 m1 m2 m3 m5 m6 m7 r y)), (7, .int (nI n))] []) : zv_V pP l eE room_1 sS mM aA bB mT cD Q 27 D vwCl A A (tyS cI cZ cA) ((s 0, .inr (2, [.int r, .int y, .ref (s 1), .ref (s 2)])) :: (s 1, .inl (cA, n, aq pa)) :: (s 2, .inl (cA, b, aq da)) :: (sR cI 6 pa (rP m0 m1 m2 m3 m4 m5) n ++ (sR cI 2 da (rB m6 m7) b ++ w))) kc ns 789 [(0, .ref sc), (1, .ref a), (2, .ref (s 0)), (3, .int (nI ti)), (4, .int x), (5, .long (dgM n b m0 m1 m2 m3 m5 m6 m7 r y)), (7, .int (nI n))] [] := by
  have hV := hR.lv
  have hn16 : n ≤ 16 := hV.n16
  have hb16 : b ≤ 16 := hV.b16
  obtain ⟨fs, hrc⟩ := hR.recv
  obtain ⟨d, sD, hD⟩ := hV.dep
  refine zv_iconst (v := 0) C dL_law_789 790 rfl (by decide) ?_
  refine zv_istore C dL_law_790 792 rfl [(12, .int 0), (0, .ref sc), (1, .ref a), (2, .ref (s 0)), (3, .int (nI ti)), (4, .int x), (5, .long (dgM n b m0 m1 m2 m3 m5 m6 m7 r y)), (7, .int (nI n))] (by decide) rfl ?_
  refine zv_iconst (v := 0) C dL_law_792 793 rfl (by decide) ?_
  refine zv_istore C dL_law_793 795 rfl [(13, .int 0), (12, .int 0), (0, .ref sc), (1, .ref a), (2, .ref (s 0)), (3, .int (nI ti)), (4, .int x), (5, .long (dgM n b m0 m1 m2 m3 m5 m6 m7 r y)), (7, .int (nI n))] (by decide) rfl ?_
  refine zv_iconst (v := 0) C dL_law_795 796 rfl (by decide) ?_
  refine zv_istore C dL_law_796 798 rfl [(14, .int 0), (13, .int 0), (12, .int 0), (0, .ref sc), (1, .ref a), (2, .ref (s 0)), (3, .int (nI ti)), (4, .int x), (5, .long (dgM n b m0 m1 m2 m3 m5 m6 m7 r y)), (7, .int (nI n))] (by decide) rfl ?_
  have L1 : ∀ (mu_L1 : Nat), ∀ (k : Nat), (k ≤ b) → b - k < mu_L1 → zv_V pP l eE room_1 sS mM aA bB mT cD Q 27 D vwCl A A (tyS cI cZ cA) ((s 0, .inr (2, [.int r, .int y, .ref (s 1), .ref (s 2)])) :: (s 1, .inl (cA, n, aq pa)) :: (s 2, .inl (cA, b, aq da)) :: (sR cI 6 pa (rP m0 m1 m2 m3 m4 m5) n ++ (sR cI 2 da (rB m6 m7) b ++ w))) kc ns 798 [(0, .ref sc), (1, .ref a), (2, .ref (s 0)), (3, .int (nI ti)), (4, .int x), (5, .long (dgM n b m0 m1 m2 m3 m5 m6 m7 r y)), (7, .int (nI n)), (12, .int (nI (inN m6 m7 (nmS n m0 m1 m2 m3 m5 r) k))), (13, .int 0), (14, .int (nI k))] [] := by
    intro mu_L1
    induction mu_L1 with
    | zero => intro k hk hmu_L1; exact absurd hmu_L1 (Nat.not_lt_zero _)
    | succ mu_L1 ih_L1 =>
      intro k hk hmu_L1
      refine zv_iload C dL_law_798 800 rfl 9 rfl ?_
      refine zv_aload_n C dL_law_800 801 rfl 1 rfl ?_
      refine zn_callRV (rest := [.int (nI k)]) C zn_TB zn_TE (zn_ofR (w_bridges l D hR)) (cwV 0 C.1.2.2.2.2 gL_law_X1_bridges rfl rfl rfl (by decide +kernel) ⟨Nat.le_of_ble_eq_true rfl, Nat.le_of_ble_eq_true rfl⟩) dL_law_801 804 rfl (ci := 1) rfl 0 hrc rfl rfl (Nat.le_of_ble_eq_true rfl) ⟨(by show kc + 0 ≤ 600130; omega), (by show ns + 0 ≤ 7301079; omega)⟩ [0, 1] rfl (List.Sublist.cons _ (List.Sublist.cons _ (List.Sublist.cons _ ((List.sublist_append_right _ _).trans (List.sublist_append_right _ _))))) (fun v hv => ?_)
      subst hv
      refine zv_go rfl rfl (st' := [.int (nI b), .int (nI k)]) rfl (kc' := kc) rfl (ns' := ns) rfl ?_
      refine zv_icmp_ge C dL_law_804 807 876 rfl (by decide) (fun ck => ?_) (fun ck => ?_)
      ·
        have e1 : b = k := by have := zn_le (by omega) (by omega) ck; omega
        subst e1
        refine zv_iconst (v := 0) C dL_law_876 877 rfl (by decide) ?_
        refine zv_istore C dL_law_877 879 rfl [(14, .int 0), (0, .ref sc), (1, .ref a), (2, .ref (s 0)), (3, .int (nI ti)), (4, .int x), (5, .long (dgM n b m0 m1 m2 m3 m5 m6 m7 r y)), (7, .int (nI n)), (12, .int (nI (inN m6 m7 (nmS n m0 m1 m2 m3 m5 r) b))), (13, .int 0)] (by decide) rfl ?_
        have L2 : ∀ (mu_L2 : Nat), ∀ (k : Nat), (k ≤ n) → n - k < mu_L2 → zv_V pP l eE room_1 sS mM aA bB mT cD Q 27 D vwCl A A (tyS cI cZ cA) ((s 0, .inr (2, [.int r, .int y, .ref (s 1), .ref (s 2)])) :: (s 1, .inl (cA, n, aq pa)) :: (s 2, .inl (cA, b, aq da)) :: (sR cI 6 pa (rP m0 m1 m2 m3 m4 m5) n ++ (sR cI 2 da (rB m6 m7) b ++ w))) kc ns 879 [(0, .ref sc), (1, .ref a), (2, .ref (s 0)), (3, .int (nI ti)), (4, .int x), (5, .long (dgM n b m0 m1 m2 m3 m5 m6 m7 r y)), (7, .int (nI n)), (12, .int (nI (inN m6 m7 (nmS n m0 m1 m2 m3 m5 r) b))), (13, .int (nI (ipS m6 m7 (nmS n m0 m1 m2 m3 m5 r) b k))), (14, .int (nI k))] [] := by
          intro mu_L2
          induction mu_L2 with
          | zero => intro k hk hmu_L2; exact absurd hmu_L2 (Nat.not_lt_zero _)
          | succ mu_L2 ih_L2 =>
            intro k hk hmu_L2
            refine zv_iload C dL_law_879 881 rfl 9 rfl ?_
            refine zv_iload C dL_law_881 883 rfl 6 rfl ?_
            refine zv_icmp_ge C dL_law_883 886 903 rfl (by decide) (fun ck => ?_) (fun ck => ?_)
            ·
              have e1 : n = k := by have := zn_le (by omega) (by omega) ck; omega
              subst e1
              have hips := ipS_all (m7 := m7) (g := nmS n m0 m1 m2 m3 m5 r) hn16 b hV.brg
              refine zv_aload_n C dL_law_903 904 rfl 1 rfl ?_
              refine zv_wd (ws' := ((s 0, .inr (2, [.int r, .int y, .ref (s 1), .ref (s 2)])) :: (s 1, .inl (cA, n, aq pa)) :: (s 2, .inl (cA, b, aq da)) :: (sR cI 6 pa (rP m0 m1 m2 m3 m4 m5) n ++ sR cI 2 da (rB m6 m7) b)) ++ (w ++ [])) (by simp only [List.append_assoc, List.cons_append, List.append_nil, List.nil_append] <;> rfl) ?_
              refine zn_callMV (a := ((s 0, .inr (2, [.int r, .int y, .ref (s 1), .ref (s 2)])) :: (s 1, .inl (cA, n, aq pa)) :: (s 2, .inl (cA, b, aq da)) :: (sR cI 6 pa (rP m0 m1 m2 m3 m4 m5) n ++ sR cI 2 da (rB m6 m7) b))) (bb := []) (rest := []) C zn_TB zn_TE (zn_ofM (w_weightiestSpring l D hR)) (cwV 0 C.1.2.2.2.2 gL_law_X1_weightiestSpring rfl rfl rfl (by decide +kernel) ⟨Nat.le_of_ble_eq_true rfl, Nat.le_of_ble_eq_true rfl⟩) dL_law_904 907 rfl (ci := 1) rfl 0 hrc rfl rfl (Nat.le_of_ble_eq_true rfl) ⟨(by show kc + 0 ≤ 600130; omega), (by show ns + 0 ≤ 7301079; omega)⟩ [0, 1] rfl (fun v w' hv => ?_)
              obtain ⟨rfl, hR2⟩ := hv
              refine zv_wd (ws' := ((s 0, .inr (2, [.int r, .int y, .ref (s 1), .ref (s 2)])) :: (s 1, .inl (cA, n, aq pa)) :: (s 2, .inl (cA, b, aq da)) :: (sR cI 6 pa (rP m0 m1 m2 m3 m4 m5) n ++ (sR cI 2 da (rB m6 m7) b ++ w')))) (by simp only [List.append_assoc, List.cons_append, List.append_nil, List.nil_append] <;> rfl) ?_
              refine zv_go rfl rfl (st' := [.int ((wst (sprg m1 m3) (dry n m0 m1 m2 m3 m5 r) n).1)]) rfl (kc' := kc) rfl (ns' := ns) rfl ?_
              obtain ⟨fs2, hrc⟩ := hR2.recv
              refine zv_istore C dL_law_907 909 rfl [(14, .int ((wst (sprg m1 m3) (dry n m0 m1 m2 m3 m5 r) n).1)), (0, .ref sc), (1, .ref a), (2, .ref (s 0)), (3, .int (nI ti)), (4, .int x), (5, .long (dgM n b m0 m1 m2 m3 m5 m6 m7 r y)), (7, .int (nI n)), (12, .int (nI (inN m6 m7 (nmS n m0 m1 m2 m3 m5 r) b))), (13, .int (nI (ipS m6 m7 (nmS n m0 m1 m2 m3 m5 r) b n)))] (by decide) rfl ?_
              refine zv_iconst (v := 0) C dL_law_909 910 rfl (by decide) ?_
              refine zv_istore C dL_law_910 912 rfl [(15, .int 0), (14, .int ((wst (sprg m1 m3) (dry n m0 m1 m2 m3 m5 r) n).1)), (0, .ref sc), (1, .ref a), (2, .ref (s 0)), (3, .int (nI ti)), (4, .int x), (5, .long (dgM n b m0 m1 m2 m3 m5 m6 m7 r y)), (7, .int (nI n)), (12, .int (nI (inN m6 m7 (nmS n m0 m1 m2 m3 m5 r) b))), (13, .int (nI (ipS m6 m7 (nmS n m0 m1 m2 m3 m5 r) b n)))] (by decide) rfl ?_
              refine zv_iconst (v := 0) C dL_law_912 913 rfl (by decide) ?_
              refine zv_istore C dL_law_913 915 rfl [(16, .int 0), (15, .int 0), (14, .int ((wst (sprg m1 m3) (dry n m0 m1 m2 m3 m5 r) n).1)), (0, .ref sc), (1, .ref a), (2, .ref (s 0)), (3, .int (nI ti)), (4, .int x), (5, .long (dgM n b m0 m1 m2 m3 m5 m6 m7 r y)), (7, .int (nI n)), (12, .int (nI (inN m6 m7 (nmS n m0 m1 m2 m3 m5 r) b))), (13, .int (nI (ipS m6 m7 (nmS n m0 m1 m2 m3 m5 r) b n)))] (by decide) rfl ?_
              have L3 : ∀ (mu_L3 : Nat), ∀ (k : Nat), (k ≤ n) → n - k < mu_L3 → zv_V pP l eE room_1 sS mM aA bB mT cD Q 27 D vwCl A A (tyS cI cZ cA) ((s 0, .inr (2, [.int r, .int y, .ref (s 1), .ref (s 2)])) :: (s 1, .inl (cA, n, aq pa)) :: (s 2, .inl (cA, b, aq da)) :: (sR cI 6 pa (rP m0 m1 m2 m3 m4 m5) n ++ (sR cI 2 da (rB m6 m7) b ++ w'))) kc ns 915 [(0, .ref sc), (1, .ref a), (2, .ref (s 0)), (3, .int (nI ti)), (4, .int x), (5, .long (dgM n b m0 m1 m2 m3 m5 m6 m7 r y)), (7, .int (nI n)), (12, .int (nI (inN m6 m7 (nmS n m0 m1 m2 m3 m5 r) b))), (13, .int (nI (ipS m6 m7 (nmS n m0 m1 m2 m3 m5 r) b n))), (14, .int ((wst (sprg m1 m3) (dry n m0 m1 m2 m3 m5 r) n).1)), (15, .int (zb (anb (wz m3) k))), (16, .int (nI k))] [] := by
                intro mu_L3
                induction mu_L3 with
                | zero => intro k hk hmu_L3; exact absurd hmu_L3 (Nat.not_lt_zero _)
                | succ mu_L3 ih_L3 =>
                  intro k hk hmu_L3
                  refine zv_iload C dL_law_915 917 rfl 11 rfl ?_
                  refine zv_iload C dL_law_917 919 rfl 6 rfl ?_
                  refine zv_icmp_ge C dL_law_919 922 947 rfl (by decide) (fun ck => ?_) (fun ck => ?_)
                  ·
                    have e1 : n = k := by have := zn_le (by omega) (by omega) ck; omega
                    subst e1
                    refine zv_iload C dL_law_947 949 rfl 7 rfl ?_
                    refine zv_aload_n C dL_law_949 950 rfl 1 rfl ?_
                    refine zn_callRV (rest := [.int (nI (inN m6 m7 (nmS n m0 m1 m2 m3 m5 r) b))]) C zn_TB zn_TE (zn_ofR (w_insults l D hR2)) (cwV 0 C.1.2.2.2.2 gL_law_X1_insults rfl rfl rfl (by decide +kernel) ⟨Nat.le_of_ble_eq_true rfl, Nat.le_of_ble_eq_true rfl⟩) dL_law_950 953 rfl (ci := 1) rfl 0 hrc rfl rfl (Nat.le_of_ble_eq_true rfl) ⟨(by show kc + 0 ≤ 600130; omega), (by show ns + 0 ≤ 7301079; omega)⟩ [0, 1] rfl (List.Sublist.cons _ (List.Sublist.cons _ (List.Sublist.cons _ ((List.sublist_append_right _ _).trans (List.sublist_append_right _ _))))) (fun v hv => ?_)
                    subst hv
                    refine zv_go rfl rfl (st' := [.int (nI (inN m6 m7 (nmS n m0 m1 m2 m3 m5 r) b)), .int (nI (inN m6 m7 (nmS n m0 m1 m2 m3 m5 r) b))]) rfl (kc' := kc) rfl (ns' := ns) rfl ?_
                    refine zv_icmp_ne C dL_law_953 956 1003 rfl (by decide) (fun c => absurd c (fun c => c rfl)) (fun _ => ?_)
                    refine zv_iload C dL_law_956 958 rfl 8 rfl ?_
                    refine zv_iload C dL_law_958 960 rfl 7 rfl ?_
                    refine zv_icmp_ne C dL_law_960 963 1003 rfl (by decide) (fun c => absurd c (fun c => c (by rw [hips]))) (fun _ => ?_)
                    have K9 : zv_V pP l eE room_1 sS mM aA bB mT cD Q 27 D vwCl A A (tyS cI cZ cA) ((s 0, .inr (2, [.int r, .int y, .ref (s 1), .ref (s 2)])) :: (s 1, .inl (cA, n, aq pa)) :: (s 2, .inl (cA, b, aq da)) :: (sR cI 6 pa (rP m0 m1 m2 m3 m4 m5) n ++ (sR cI 2 da (rB m6 m7) b ++ w'))) kc ns 993 [(0, .ref sc), (1, .ref a), (2, .ref (s 0)), (3, .int (nI ti)), (4, .int x), (5, .long (dgM n b m0 m1 m2 m3 m5 m6 m7 r y)), (7, .int (nI n))] [] := by
                      refine zv_aload_n C dL_law_993 994 rfl 1 rfl ?_
                      refine zv_wd (ws' := ((s 0, .inr (2, [.int r, .int y, .ref (s 1), .ref (s 2)])) :: (s 1, .inl (cA, n, aq pa)) :: (s 2, .inl (cA, b, aq da)) :: (sR cI 6 pa (rP m0 m1 m2 m3 m4 m5) n ++ sR cI 2 da (rB m6 m7) b)) ++ (w' ++ [])) (by simp only [List.append_assoc, List.cons_append, List.append_nil, List.nil_append] <;> rfl) ?_
                      refine zn_callMV (a := ((s 0, .inr (2, [.int r, .int y, .ref (s 1), .ref (s 2)])) :: (s 1, .inl (cA, n, aq pa)) :: (s 2, .inl (cA, b, aq da)) :: (sR cI 6 pa (rP m0 m1 m2 m3 m4 m5) n ++ sR cI 2 da (rB m6 m7) b))) (bb := []) (rest := []) C zn_TB zn_TE (zn_ofM (w_digest l D hR2)) (cwV 0 C.1.2.2.2.2 gL_law_X1_digest rfl rfl rfl (by decide +kernel) ⟨Nat.le_of_ble_eq_true rfl, Nat.le_of_ble_eq_true rfl⟩) dL_law_994 997 rfl (ci := 1) rfl 0 hrc rfl rfl (Nat.le_of_ble_eq_true rfl) ⟨(by show kc + 0 ≤ 600130; omega), (by show ns + 0 ≤ 7301079; omega)⟩ [0, 1] rfl (fun v w' hv => ?_)
                      obtain ⟨rfl, hR2⟩ := hv
                      refine zv_wd (ws' := ((s 0, .inr (2, [.int r, .int y, .ref (s 1), .ref (s 2)])) :: (s 1, .inl (cA, n, aq pa)) :: (s 2, .inl (cA, b, aq da)) :: (sR cI 6 pa (rP m0 m1 m2 m3 m4 m5) n ++ (sR cI 2 da (rB m6 m7) b ++ w')))) (by simp only [List.append_assoc, List.cons_append, List.append_nil, List.nil_append] <;> rfl) ?_
                      refine zv_go rfl rfl (st' := [.long (dgM n b m0 m1 m2 m3 m5 m6 m7 r y)]) rfl (kc' := kc) rfl (ns' := ns) rfl ?_
                      refine zv_lload C dL_law_997 999 rfl 5 rfl ?_
                      refine zv_lcmpE C dL_law_999 1000 rfl rfl ?_
                      refine zv_if_eq C dL_law_1000 1003 1005 rfl (by decide) (fun _ => ?_) (fun c => absurd rfl c)
                      exact K w' hR2
                    rcases wst_spec (sprg m1 m3) (dry n m0 m1 m2 m3 m5 r) n (by omega) with ⟨hw1, hw2⟩ | ⟨hv9, hw0, hw1, hw2⟩
                    ·
                      refine zv_go rfl (lv' := [(0, .ref sc), (1, .ref a), (2, .ref (s 0)), (3, .int (nI ti)), (4, .int x), (5, .long (dgM n b m0 m1 m2 m3 m5 m6 m7 r y)), (7, .int (nI n)), (12, .int (nI (inN m6 m7 (nmS n m0 m1 m2 m3 m5 r) b))), (13, .int (nI (ipS m6 m7 (nmS n m0 m1 m2 m3 m5 r) b n))), (14, .int (-1 : Int32)), (15, .int (zb (anb (wz m3) n))), (16, .int (nI n))]) (by rw [hw1]) rfl rfl rfl ?_
                      have hz : anb (wz m3) n = false := by
                        cases z : anb (wz m3) n with
                        | false => rfl
                        | true =>
                          obtain ⟨j, hj, e⟩ := (anb_iff _ n).mp z
                          rw [← hV.spw hj, hw2 j hj] at e
                          cases e
                      refine zv_iload C dL_law_963 965 rfl 9 rfl ?_
                      refine zv_if_lt C dL_law_965 968 972 rfl (by decide) (fun _ => ?_) (fun c => absurd (by decide) c)
                      refine zv_iconst (v := 0) C dL_law_972 973 rfl (by decide) ?_
                      refine zv_iload C dL_law_973 975 rfl 10 rfl ?_
                      refine zv_icmp_ne C dL_law_975 978 1003 rfl (by decide) (fun c => absurd c (fun c => c (by rw [hz]; rfl))) (fun _ => ?_)
                      refine zv_iload C dL_law_978 980 rfl 9 rfl ?_
                      refine zv_if_lt C dL_law_980 983 993 rfl (by decide) (fun _ => ?_) (fun c => absurd (by decide) c)
                      refine zv_sub [0, 1, 2, 3, 4, 5, 6] (lv' := [(0, .ref sc), (1, .ref a), (2, .ref (s 0)), (3, .int (nI ti)), (4, .int x), (5, .long (dgM n b m0 m1 m2 m3 m5 m6 m7 r y)), (7, .int (nI n))]) rfl ?_
                      exact K9
                    ·
                      refine zv_go rfl (lv' := [(0, .ref sc), (1, .ref a), (2, .ref (s 0)), (3, .int (nI ti)), (4, .int x), (5, .long (dgM n b m0 m1 m2 m3 m5 m6 m7 r y)), (7, .int (nI n)), (12, .int (nI (inN m6 m7 (nmS n m0 m1 m2 m3 m5 r) b))), (13, .int (nI (ipS m6 m7 (nmS n m0 m1 m2 m3 m5 r) b n))), (14, .int (nI hv9)), (15, .int (zb (anb (wz m3) n))), (16, .int (nI n))]) (by rw [hw1]) rfl rfl rfl ?_
                      have hz : anb (wz m3) n = true := (anb_iff _ n).mpr ⟨hv9, hw0, by rw [← hV.spw hw0]; exact hw2⟩
                      obtain ⟨_, s9, hs9, es9⟩ := hV.wat hv9 hw0
                      have hs1 : ¬ s9 = 0 := fun z => by
                        have := (spg_wet hV.wat hw0).mp hw2
                        rw [es9, z] at this
                        exact this (by decide)
                      refine zv_iload C dL_law_963 965 rfl 9 rfl ?_
                      refine zv_if_lt C dL_law_965 968 972 rfl (by decide) (fun c => absurd c (nI_nneg (by omega))) (fun _ => ?_)
                      refine zv_iconst (v := 1) C dL_law_968 969 rfl (by decide) ?_
                      refine zv_goto C dL_law_969 973 (by decide) ?_
                      refine zv_iload C dL_law_973 975 rfl 10 rfl ?_
                      refine zv_icmp_ne C dL_law_975 978 1003 rfl (by decide) (fun c => absurd c (fun c => c (by rw [hz]; rfl))) (fun _ => ?_)
                      refine zv_iload C dL_law_978 980 rfl 9 rfl ?_
                      refine zv_if_lt C dL_law_980 983 993 rfl (by decide) (fun c => absurd c (nI_nneg (by omega))) (fun _ => ?_)
                      refine zv_aload_n C dL_law_983 984 rfl 1 rfl ?_
                      refine zv_iload C dL_law_984 986 rfl 9 rfl ?_
                      refine zn_callRV (rest := []) C zn_TB zn_TE (zn_ofR (w_springOf l D hR2 hv9 hw0)) (cwV 1 C.1.2.2.2.2 gL_law_X1_springOf rfl rfl rfl (by decide +kernel) ⟨Nat.le_of_ble_eq_true rfl, Nat.le_of_ble_eq_true rfl⟩) dL_law_986 989 rfl (ci := 1) rfl 0 hrc rfl rfl (Nat.le_of_ble_eq_true rfl) ⟨(by show kc + 0 ≤ 600130; omega), (by show ns + 0 ≤ 7301079; omega)⟩ [0, 1] rfl (List.Sublist.cons _ (List.Sublist.cons _ (List.Sublist.cons _ ((List.sublist_append_right _ _).trans (List.sublist_append_right _ _))))) (fun v hv => ?_)
                      subst hv
                      rw [es9]
                      refine zv_go rfl rfl (st' := [.int (nI s9)]) rfl (kc' := kc) rfl (ns' := ns) rfl ?_
                      refine zv_iconst (v := 1) C dL_law_989 990 rfl (by decide) ?_
                      refine zv_icmp_lt C dL_law_990 993 1003 rfl (by decide) (fun c => absurd c (nI_nlt (a := s9) (b := 1) (by omega) (by omega))) (fun _ => ?_)
                      refine zv_sub [0, 1, 2, 3, 4, 5, 6] (lv' := [(0, .ref sc), (1, .ref a), (2, .ref (s 0)), (3, .int (nI ti)), (4, .int x), (5, .long (dgM n b m0 m1 m2 m3 m5 m6 m7 r y)), (7, .int (nI n))]) rfl ?_
                      exact K9
                  ·
                    have hk2 : k < n := zn_le' (by omega) (by omega) ck
                    refine zv_iload C dL_law_922 924 rfl 10 rfl ?_
                    refine zv_aload_n C dL_law_924 925 rfl 1 rfl ?_
                    refine zv_iload C dL_law_925 927 rfl 11 rfl ?_
                    refine zn_callRV (rest := [.int (zb (anb (wz m3) k))]) C zn_TB zn_TE (zn_ofR (w_springOf l D hR2 k hk2)) (cwV 1 C.1.2.2.2.2 gL_law_X1_springOf rfl rfl rfl (by decide +kernel) ⟨Nat.le_of_ble_eq_true rfl, Nat.le_of_ble_eq_true rfl⟩) dL_law_927 930 rfl (ci := 1) rfl 0 hrc rfl rfl (Nat.le_of_ble_eq_true rfl) ⟨(by show kc + 0 ≤ 600130; omega), (by show ns + 0 ≤ 7301079; omega)⟩ [0, 1] rfl (List.Sublist.cons _ (List.Sublist.cons _ (List.Sublist.cons _ ((List.sublist_append_right _ _).trans (List.sublist_append_right _ _))))) (fun v hv => ?_)
                    subst hv
                    refine zv_go rfl rfl (st' := [.int (m3 k), .int (zb (anb (wz m3) k))]) rfl (kc' := kc) rfl (ns' := ns) rfl ?_
                    refine zv_if_le C dL_law_930 933 937 rfl (by decide) (fun c3 => ?_) (fun c3 => ?_)
                    ·
                      refine zv_iconst (v := 0) C dL_law_937 938 rfl (by decide) ?_
                      refine zn_ior (v := (zb (anb (wz m3) (k + 1)))) C dL_law_938 939 rfl (zb_or0 _ _ (by unfold wz; rw [decide_eq_true c3]; rfl)) ?_
                      refine zv_istore C dL_law_939 941 rfl [(15, .int (zb (anb (wz m3) (k + 1)))), (0, .ref sc), (1, .ref a), (2, .ref (s 0)), (3, .int (nI ti)), (4, .int x), (5, .long (dgM n b m0 m1 m2 m3 m5 m6 m7 r y)), (7, .int (nI n)), (12, .int (nI (inN m6 m7 (nmS n m0 m1 m2 m3 m5 r) b))), (13, .int (nI (ipS m6 m7 (nmS n m0 m1 m2 m3 m5 r) b n))), (14, .int ((wst (sprg m1 m3) (dry n m0 m1 m2 m3 m5 r) n).1)), (16, .int (nI k))] (by decide) rfl ?_
                      refine zv_iinc (v := (nI (k + 1))) C dL_law_941 944 rfl [(16, .int (nI (k + 1))), (15, .int (zb (anb (wz m3) (k + 1)))), (0, .ref sc), (1, .ref a), (2, .ref (s 0)), (3, .int (nI ti)), (4, .int x), (5, .long (dgM n b m0 m1 m2 m3 m5 m6 m7 r y)), (7, .int (nI n)), (12, .int (nI (inN m6 m7 (nmS n m0 m1 m2 m3 m5 r) b))), (13, .int (nI (ipS m6 m7 (nmS n m0 m1 m2 m3 m5 r) b n))), (14, .int ((wst (sprg m1 m3) (dry n m0 m1 m2 m3 m5 r) n).1))] 11 rfl (nI_1 k) (by decide) rfl ?_
                      refine zv_goto C dL_law_944 915 (by decide) ?_
                      refine zv_sub [2, 3, 4, 5, 6, 7, 8, 9, 10, 11, 1, 0] (lv' := [(0, .ref sc), (1, .ref a), (2, .ref (s 0)), (3, .int (nI ti)), (4, .int x), (5, .long (dgM n b m0 m1 m2 m3 m5 m6 m7 r y)), (7, .int (nI n)), (12, .int (nI (inN m6 m7 (nmS n m0 m1 m2 m3 m5 r) b))), (13, .int (nI (ipS m6 m7 (nmS n m0 m1 m2 m3 m5 r) b n))), (14, .int ((wst (sprg m1 m3) (dry n m0 m1 m2 m3 m5 r) n).1)), (15, .int (zb (anb (wz m3) (k + 1)))), (16, .int (nI (k + 1)))]) rfl ?_
                      exact ih_L3 (k + 1) (by omega) (by omega)
                    ·
                      refine zv_iconst (v := 1) C dL_law_933 934 rfl (by decide) ?_
                      refine zv_goto C dL_law_934 938 (by decide) ?_
                      refine zn_ior (v := (zb (anb (wz m3) (k + 1)))) C dL_law_938 939 rfl (zb_or1 _ _ (by unfold wz; rw [decide_eq_false c3]; rfl)) ?_
                      refine zv_istore C dL_law_939 941 rfl [(15, .int (zb (anb (wz m3) (k + 1)))), (0, .ref sc), (1, .ref a), (2, .ref (s 0)), (3, .int (nI ti)), (4, .int x), (5, .long (dgM n b m0 m1 m2 m3 m5 m6 m7 r y)), (7, .int (nI n)), (12, .int (nI (inN m6 m7 (nmS n m0 m1 m2 m3 m5 r) b))), (13, .int (nI (ipS m6 m7 (nmS n m0 m1 m2 m3 m5 r) b n))), (14, .int ((wst (sprg m1 m3) (dry n m0 m1 m2 m3 m5 r) n).1)), (16, .int (nI k))] (by decide) rfl ?_
                      refine zv_iinc (v := (nI (k + 1))) C dL_law_941 944 rfl [(16, .int (nI (k + 1))), (15, .int (zb (anb (wz m3) (k + 1)))), (0, .ref sc), (1, .ref a), (2, .ref (s 0)), (3, .int (nI ti)), (4, .int x), (5, .long (dgM n b m0 m1 m2 m3 m5 m6 m7 r y)), (7, .int (nI n)), (12, .int (nI (inN m6 m7 (nmS n m0 m1 m2 m3 m5 r) b))), (13, .int (nI (ipS m6 m7 (nmS n m0 m1 m2 m3 m5 r) b n))), (14, .int ((wst (sprg m1 m3) (dry n m0 m1 m2 m3 m5 r) n).1))] 11 rfl (nI_1 k) (by decide) rfl ?_
                      refine zv_goto C dL_law_944 915 (by decide) ?_
                      refine zv_sub [2, 3, 4, 5, 6, 7, 8, 9, 10, 11, 1, 0] (lv' := [(0, .ref sc), (1, .ref a), (2, .ref (s 0)), (3, .int (nI ti)), (4, .int x), (5, .long (dgM n b m0 m1 m2 m3 m5 m6 m7 r y)), (7, .int (nI n)), (12, .int (nI (inN m6 m7 (nmS n m0 m1 m2 m3 m5 r) b))), (13, .int (nI (ipS m6 m7 (nmS n m0 m1 m2 m3 m5 r) b n))), (14, .int ((wst (sprg m1 m3) (dry n m0 m1 m2 m3 m5 r) n).1)), (15, .int (zb (anb (wz m3) (k + 1)))), (16, .int (nI (k + 1)))]) rfl ?_
                      exact ih_L3 (k + 1) (by omega) (by omega)
              refine zv_go rfl (lv' := [(16, .int (nI 0)), (15, .int (zb (anb (wz m3) 0))), (14, .int ((wst (sprg m1 m3) (dry n m0 m1 m2 m3 m5 r) n).1)), (0, .ref sc), (1, .ref a), (2, .ref (s 0)), (3, .int (nI ti)), (4, .int x), (5, .long (dgM n b m0 m1 m2 m3 m5 m6 m7 r y)), (7, .int (nI n)), (12, .int (nI (inN m6 m7 (nmS n m0 m1 m2 m3 m5 r) b))), (13, .int (nI (ipS m6 m7 (nmS n m0 m1 m2 m3 m5 r) b n)))]) rfl rfl rfl rfl ?_
              refine zv_sub [3, 4, 5, 6, 7, 8, 9, 10, 11, 2, 1, 0] (lv' := [(0, .ref sc), (1, .ref a), (2, .ref (s 0)), (3, .int (nI ti)), (4, .int x), (5, .long (dgM n b m0 m1 m2 m3 m5 m6 m7 r y)), (7, .int (nI n)), (12, .int (nI (inN m6 m7 (nmS n m0 m1 m2 m3 m5 r) b))), (13, .int (nI (ipS m6 m7 (nmS n m0 m1 m2 m3 m5 r) b n))), (14, .int ((wst (sprg m1 m3) (dry n m0 m1 m2 m3 m5 r) n).1)), (15, .int (zb (anb (wz m3) 0))), (16, .int (nI 0))]) rfl ?_
              exact L3 (n + 1) 0 (by omega) (by omega)
            ·
              have hk2 : k < n := zn_le' (by omega) (by omega) ck
              refine zv_iload C dL_law_886 888 rfl 8 rfl ?_
              refine zv_aload_n C dL_law_888 889 rfl 1 rfl ?_
              refine zv_iload C dL_law_889 891 rfl 9 rfl ?_
              refine zn_callRV (rest := [.int (nI (ipS m6 m7 (nmS n m0 m1 m2 m3 m5 r) b k))]) C zn_TB zn_TE (zn_ofR (w_insultsAt l D hR k hk2)) (cwV 1 C.1.2.2.2.2 gL_law_X1_insultsAt rfl rfl rfl (by decide +kernel) ⟨Nat.le_of_ble_eq_true rfl, Nat.le_of_ble_eq_true rfl⟩) dL_law_891 894 rfl (ci := 1) rfl 0 hrc rfl rfl (Nat.le_of_ble_eq_true rfl) ⟨(by show kc + 0 ≤ 600130; omega), (by show ns + 0 ≤ 7301079; omega)⟩ [0, 1] rfl (List.Sublist.cons _ (List.Sublist.cons _ (List.Sublist.cons _ ((List.sublist_append_right _ _).trans (List.sublist_append_right _ _))))) (fun v hv => ?_)
              subst hv
              refine zv_go rfl rfl (st' := [.int (nI (inP m6 m7 (nmS n m0 m1 m2 m3 m5 r) k b)), .int (nI (ipS m6 m7 (nmS n m0 m1 m2 m3 m5 r) b k))]) rfl (kc' := kc) rfl (ns' := ns) rfl ?_
              refine zv_iadd (v := (nI (ipS m6 m7 (nmS n m0 m1 m2 m3 m5 r) b (k + 1)))) C dL_law_894 895 rfl (nI_add _ _) ?_
              refine zv_istore C dL_law_895 897 rfl [(13, .int (nI (ipS m6 m7 (nmS n m0 m1 m2 m3 m5 r) b (k + 1)))), (0, .ref sc), (1, .ref a), (2, .ref (s 0)), (3, .int (nI ti)), (4, .int x), (5, .long (dgM n b m0 m1 m2 m3 m5 m6 m7 r y)), (7, .int (nI n)), (12, .int (nI (inN m6 m7 (nmS n m0 m1 m2 m3 m5 r) b))), (14, .int (nI k))] (by decide) rfl ?_
              refine zv_iinc (v := (nI (k + 1))) C dL_law_897 900 rfl [(14, .int (nI (k + 1))), (13, .int (nI (ipS m6 m7 (nmS n m0 m1 m2 m3 m5 r) b (k + 1)))), (0, .ref sc), (1, .ref a), (2, .ref (s 0)), (3, .int (nI ti)), (4, .int x), (5, .long (dgM n b m0 m1 m2 m3 m5 m6 m7 r y)), (7, .int (nI n)), (12, .int (nI (inN m6 m7 (nmS n m0 m1 m2 m3 m5 r) b)))] 9 rfl (nI_1 k) (by decide) rfl ?_
              refine zv_goto C dL_law_900 879 (by decide) ?_
              refine zv_sub [2, 3, 4, 5, 6, 7, 8, 9, 1, 0] (lv' := [(0, .ref sc), (1, .ref a), (2, .ref (s 0)), (3, .int (nI ti)), (4, .int x), (5, .long (dgM n b m0 m1 m2 m3 m5 m6 m7 r y)), (7, .int (nI n)), (12, .int (nI (inN m6 m7 (nmS n m0 m1 m2 m3 m5 r) b))), (13, .int (nI (ipS m6 m7 (nmS n m0 m1 m2 m3 m5 r) b (k + 1)))), (14, .int (nI (k + 1)))]) rfl ?_
              exact ih_L2 (k + 1) (by omega) (by omega)
        refine zv_go rfl (lv' := [(14, .int (nI 0)), (0, .ref sc), (1, .ref a), (2, .ref (s 0)), (3, .int (nI ti)), (4, .int x), (5, .long (dgM n b m0 m1 m2 m3 m5 m6 m7 r y)), (7, .int (nI n)), (12, .int (nI (inN m6 m7 (nmS n m0 m1 m2 m3 m5 r) b))), (13, .int (nI (ipS m6 m7 (nmS n m0 m1 m2 m3 m5 r) b 0)))]) rfl rfl rfl rfl ?_
        refine zv_sub [1, 2, 3, 4, 5, 6, 7, 8, 9, 0] (lv' := [(0, .ref sc), (1, .ref a), (2, .ref (s 0)), (3, .int (nI ti)), (4, .int x), (5, .long (dgM n b m0 m1 m2 m3 m5 m6 m7 r y)), (7, .int (nI n)), (12, .int (nI (inN m6 m7 (nmS n m0 m1 m2 m3 m5 r) b))), (13, .int (nI (ipS m6 m7 (nmS n m0 m1 m2 m3 m5 r) b 0))), (14, .int (nI 0))]) rfl ?_
        exact L2 (n + 1) 0 (by omega) (by omega)
      ·
        have hk2 : k < b := zn_le' (by omega) (by omega) ck
        obtain ⟨q, hq, eq⟩ := hV.brg k hk2
        refine zv_aload_n C dL_law_807 808 rfl 1 rfl ?_
        refine zv_iload C dL_law_808 810 rfl 9 rfl ?_
        refine zn_callRV (rest := []) C zn_TB zn_TE (zn_ofR (w_keeps l D hR k hk2)) (cwV 1 C.1.2.2.2.2 gL_law_X1_keeps rfl rfl rfl (by decide +kernel) ⟨Nat.le_of_ble_eq_true rfl, Nat.le_of_ble_eq_true rfl⟩) dL_law_810 813 rfl (ci := 1) rfl 0 hrc rfl rfl (Nat.le_of_ble_eq_true rfl) ⟨(by show kc + 0 ≤ 600130; omega), (by show ns + 0 ≤ 7301079; omega)⟩ [0, 1] rfl (List.Sublist.cons _ (List.Sublist.cons _ (List.Sublist.cons _ ((List.sublist_append_right _ _).trans (List.sublist_append_right _ _))))) (fun v hv => ?_)
        subst hv
        refine zv_go rfl rfl (st' := [.int (m7 k)]) rfl (kc' := kc) rfl (ns' := ns) rfl ?_
        refine zv_if_lt C dL_law_813 816 839 rfl (by decide) (fun c2 => ?_) (fun c2 => ?_)
        ·
          have hins : insd (m7 k) (nmS n m0 m1 m2 m3 m5 r (m6 k).toNatClampNeg) = false := ins_m1 (hV.2.2 k hk2) c2
          refine zv_iconst (v := 0) C dL_law_839 840 rfl (by decide) ?_
          refine zv_istore C dL_law_840 842 rfl [(15, .int 0), (0, .ref sc), (1, .ref a), (2, .ref (s 0)), (3, .int (nI ti)), (4, .int x), (5, .long (dgM n b m0 m1 m2 m3 m5 m6 m7 r y)), (7, .int (nI n)), (12, .int (nI (inN m6 m7 (nmS n m0 m1 m2 m3 m5 r) k))), (13, .int 0), (14, .int (nI k))] (by decide) rfl ?_
          refine zv_iload C dL_law_842 844 rfl 8 rfl ?_
          refine zv_iload C dL_law_844 846 rfl 0 rfl ?_
          refine zv_if_eq C dL_law_846 849 853 rfl (by decide) (fun _ => ?_) (fun c => absurd rfl c)
          refine zv_iconst (v := 0) C dL_law_853 854 rfl (by decide) ?_
          refine zv_iadd (v := (nI (inN m6 m7 (nmS n m0 m1 m2 m3 m5 r) (k + 1)))) C dL_law_854 855 rfl (by unfold inN; rw [cnb_n (fun i => insd (m7 i) (nmS n m0 m1 m2 m3 m5 r (m6 i).toNatClampNeg)) hins]; exact Int32.add_zero _) ?_
          refine zv_istore C dL_law_855 857 rfl [(12, .int (nI (inN m6 m7 (nmS n m0 m1 m2 m3 m5 r) (k + 1)))), (15, .int 0), (0, .ref sc), (1, .ref a), (2, .ref (s 0)), (3, .int (nI ti)), (4, .int x), (5, .long (dgM n b m0 m1 m2 m3 m5 m6 m7 r y)), (7, .int (nI n)), (13, .int 0), (14, .int (nI k))] (by decide) rfl ?_
          refine zv_aload_n C dL_law_857 858 rfl 3 rfl ?_
          refine zv_iload C dL_law_858 860 rfl 10 rfl ?_
          refine zn_callRV (rest := []) C zn_TB zn_TE (zn_ofR (w_isInsulted l D hR k hk2)) (cwV 1 C.1.2.2.2.2 gL_law_X1_isInsulted rfl rfl rfl (by decide +kernel) ⟨Nat.le_of_ble_eq_true rfl, Nat.le_of_ble_eq_true rfl⟩) dL_law_860 863 rfl (ci := 1) rfl 0 hrc rfl rfl (Nat.le_of_ble_eq_true rfl) ⟨(by show kc + 0 ≤ 600130; omega), (by show ns + 0 ≤ 7301079; omega)⟩ [0, 1] rfl (List.Sublist.cons _ (List.Sublist.cons _ (List.Sublist.cons _ ((List.sublist_append_right _ _).trans (List.sublist_append_right _ _))))) (fun v hv => ?_)
          subst hv
          rw [hins]
          refine zv_go rfl rfl (st' := [.int (zb false)]) rfl (kc' := kc) rfl (ns' := ns) rfl ?_
          refine zv_iload C dL_law_863 865 rfl 1 rfl ?_
          refine zv_icmp_eq C dL_law_865 868 870 rfl (by decide) (fun _ => ?_) (fun c => absurd rfl c)
          refine zv_iinc (v := (nI (k + 1))) C dL_law_870 873 rfl [(14, .int (nI (k + 1))), (12, .int (nI (inN m6 m7 (nmS n m0 m1 m2 m3 m5 r) (k + 1)))), (15, .int 0), (0, .ref sc), (1, .ref a), (2, .ref (s 0)), (3, .int (nI ti)), (4, .int x), (5, .long (dgM n b m0 m1 m2 m3 m5 m6 m7 r y)), (7, .int (nI n)), (13, .int 0)] 10 rfl (nI_1 k) (by decide) rfl ?_
          refine zv_goto C dL_law_873 798 (by decide) ?_
          refine zv_sub [3, 4, 5, 6, 7, 8, 9, 1, 10, 0] (lv' := [(0, .ref sc), (1, .ref a), (2, .ref (s 0)), (3, .int (nI ti)), (4, .int x), (5, .long (dgM n b m0 m1 m2 m3 m5 m6 m7 r y)), (7, .int (nI n)), (12, .int (nI (inN m6 m7 (nmS n m0 m1 m2 m3 m5 r) (k + 1)))), (13, .int 0), (14, .int (nI (k + 1)))]) rfl ?_
          exact ih_L1 (k + 1) (by omega) (by omega)
        ·
          refine zv_aload_n C dL_law_816 817 rfl 1 rfl ?_
          refine zv_iload C dL_law_817 819 rfl 9 rfl ?_
          refine zn_callRV (rest := []) C zn_TB zn_TE (zn_ofR (w_keeps l D hR k hk2)) (cwV 1 C.1.2.2.2.2 gL_law_X1_keeps rfl rfl rfl (by decide +kernel) ⟨Nat.le_of_ble_eq_true rfl, Nat.le_of_ble_eq_true rfl⟩) dL_law_819 822 rfl (ci := 1) rfl 0 hrc rfl rfl (Nat.le_of_ble_eq_true rfl) ⟨(by show kc + 0 ≤ 600130; omega), (by show ns + 0 ≤ 7301079; omega)⟩ [0, 1] rfl (List.Sublist.cons _ (List.Sublist.cons _ (List.Sublist.cons _ ((List.sublist_append_right _ _).trans (List.sublist_append_right _ _))))) (fun v hv => ?_)
          subst hv
          refine zv_go rfl rfl (st' := [.int (m7 k)]) rfl (kc' := kc) rfl (ns' := ns) rfl ?_
          refine zv_aload_n C dL_law_822 823 rfl 1 rfl ?_
          refine zv_aload_n C dL_law_823 824 rfl 1 rfl ?_
          refine zv_iload C dL_law_824 826 rfl 9 rfl ?_
          refine zn_callRV (rest := [.ref a, .int (m7 k)]) C zn_TB zn_TE (zn_ofR (w_placeOf l D hR k hk2)) (cwV 1 C.1.2.2.2.2 gL_law_X1_placeOf rfl rfl rfl (by decide +kernel) ⟨Nat.le_of_ble_eq_true rfl, Nat.le_of_ble_eq_true rfl⟩) dL_law_826 829 rfl (ci := 1) rfl 0 hrc rfl rfl (Nat.le_of_ble_eq_true rfl) ⟨(by show kc + 0 ≤ 600130; omega), (by show ns + 0 ≤ 7301079; omega)⟩ [0, 1] rfl (List.Sublist.cons _ (List.Sublist.cons _ (List.Sublist.cons _ ((List.sublist_append_right _ _).trans (List.sublist_append_right _ _))))) (fun v hv => ?_)
          subst hv
          rw [eq]
          refine zv_go rfl rfl (st' := [.int (nI q), .ref a, .int (m7 k)]) rfl (kc' := kc) rfl (ns' := ns) rfl ?_
          refine zn_callRV (rest := [.int (m7 k)]) C zn_TB zn_TE (zn_ofR (w_nameAt l D hR q hq)) (cwV 1 C.1.2.2.2.2 gL_law_X1_nameAt rfl rfl rfl (by decide +kernel) ⟨Nat.le_of_ble_eq_true rfl, Nat.le_of_ble_eq_true rfl⟩) dL_law_829 832 rfl (ci := 1) rfl 0 hrc rfl rfl (Nat.le_of_ble_eq_true rfl) ⟨(by show kc + 0 ≤ 600130; omega), (by show ns + 0 ≤ 7301079; omega)⟩ [0, 1] rfl (List.Sublist.cons _ (List.Sublist.cons _ (List.Sublist.cons _ ((List.sublist_append_right _ _).trans (List.sublist_append_right _ _))))) (fun v hv => ?_)
          subst hv
          refine zv_go rfl rfl (st' := [.int (nmS n m0 m1 m2 m3 m5 r q), .int (m7 k)]) rfl (kc' := kc) rfl (ns' := ns) rfl ?_
          refine zv_icmp_eq C dL_law_832 835 839 rfl (by decide) (fun c3 => ?_) (fun c3 => ?_)
          ·
            have hins : insd (m7 k) (nmS n m0 m1 m2 m3 m5 r (m6 k).toNatClampNeg) = false := by rw [eq, nI_clamp (by omega)]; simp [insd, c3]
            refine zv_iconst (v := 0) C dL_law_839 840 rfl (by decide) ?_
            refine zv_istore C dL_law_840 842 rfl [(15, .int 0), (0, .ref sc), (1, .ref a), (2, .ref (s 0)), (3, .int (nI ti)), (4, .int x), (5, .long (dgM n b m0 m1 m2 m3 m5 m6 m7 r y)), (7, .int (nI n)), (12, .int (nI (inN m6 m7 (nmS n m0 m1 m2 m3 m5 r) k))), (13, .int 0), (14, .int (nI k))] (by decide) rfl ?_
            refine zv_iload C dL_law_842 844 rfl 8 rfl ?_
            refine zv_iload C dL_law_844 846 rfl 0 rfl ?_
            refine zv_if_eq C dL_law_846 849 853 rfl (by decide) (fun _ => ?_) (fun c => absurd rfl c)
            refine zv_iconst (v := 0) C dL_law_853 854 rfl (by decide) ?_
            refine zv_iadd (v := (nI (inN m6 m7 (nmS n m0 m1 m2 m3 m5 r) (k + 1)))) C dL_law_854 855 rfl (by unfold inN; rw [cnb_n (fun i => insd (m7 i) (nmS n m0 m1 m2 m3 m5 r (m6 i).toNatClampNeg)) hins]; exact Int32.add_zero _) ?_
            refine zv_istore C dL_law_855 857 rfl [(12, .int (nI (inN m6 m7 (nmS n m0 m1 m2 m3 m5 r) (k + 1)))), (15, .int 0), (0, .ref sc), (1, .ref a), (2, .ref (s 0)), (3, .int (nI ti)), (4, .int x), (5, .long (dgM n b m0 m1 m2 m3 m5 m6 m7 r y)), (7, .int (nI n)), (13, .int 0), (14, .int (nI k))] (by decide) rfl ?_
            refine zv_aload_n C dL_law_857 858 rfl 3 rfl ?_
            refine zv_iload C dL_law_858 860 rfl 10 rfl ?_
            refine zn_callRV (rest := []) C zn_TB zn_TE (zn_ofR (w_isInsulted l D hR k hk2)) (cwV 1 C.1.2.2.2.2 gL_law_X1_isInsulted rfl rfl rfl (by decide +kernel) ⟨Nat.le_of_ble_eq_true rfl, Nat.le_of_ble_eq_true rfl⟩) dL_law_860 863 rfl (ci := 1) rfl 0 hrc rfl rfl (Nat.le_of_ble_eq_true rfl) ⟨(by show kc + 0 ≤ 600130; omega), (by show ns + 0 ≤ 7301079; omega)⟩ [0, 1] rfl (List.Sublist.cons _ (List.Sublist.cons _ (List.Sublist.cons _ ((List.sublist_append_right _ _).trans (List.sublist_append_right _ _))))) (fun v hv => ?_)
            subst hv
            rw [hins]
            refine zv_go rfl rfl (st' := [.int (zb false)]) rfl (kc' := kc) rfl (ns' := ns) rfl ?_
            refine zv_iload C dL_law_863 865 rfl 1 rfl ?_
            refine zv_icmp_eq C dL_law_865 868 870 rfl (by decide) (fun _ => ?_) (fun c => absurd rfl c)
            refine zv_iinc (v := (nI (k + 1))) C dL_law_870 873 rfl [(14, .int (nI (k + 1))), (12, .int (nI (inN m6 m7 (nmS n m0 m1 m2 m3 m5 r) (k + 1)))), (15, .int 0), (0, .ref sc), (1, .ref a), (2, .ref (s 0)), (3, .int (nI ti)), (4, .int x), (5, .long (dgM n b m0 m1 m2 m3 m5 m6 m7 r y)), (7, .int (nI n)), (13, .int 0)] 10 rfl (nI_1 k) (by decide) rfl ?_
            refine zv_goto C dL_law_873 798 (by decide) ?_
            refine zv_sub [3, 4, 5, 6, 7, 8, 9, 1, 10, 0] (lv' := [(0, .ref sc), (1, .ref a), (2, .ref (s 0)), (3, .int (nI ti)), (4, .int x), (5, .long (dgM n b m0 m1 m2 m3 m5 m6 m7 r y)), (7, .int (nI n)), (12, .int (nI (inN m6 m7 (nmS n m0 m1 m2 m3 m5 r) (k + 1)))), (13, .int 0), (14, .int (nI (k + 1)))]) rfl ?_
            exact ih_L1 (k + 1) (by omega) (by omega)
          ·
            have hins : insd (m7 k) (nmS n m0 m1 m2 m3 m5 r (m6 k).toNatClampNeg) = true := by rw [eq, nI_clamp (by omega)]; simp [insd, ins_m2 c2]; exact fun z => c3 z.symm
            refine zv_iconst (v := 1) C dL_law_835 836 rfl (by decide) ?_
            refine zv_goto C dL_law_836 840 (by decide) ?_
            refine zv_istore C dL_law_840 842 rfl [(15, .int 1), (0, .ref sc), (1, .ref a), (2, .ref (s 0)), (3, .int (nI ti)), (4, .int x), (5, .long (dgM n b m0 m1 m2 m3 m5 m6 m7 r y)), (7, .int (nI n)), (12, .int (nI (inN m6 m7 (nmS n m0 m1 m2 m3 m5 r) k))), (13, .int 0), (14, .int (nI k))] (by decide) rfl ?_
            refine zv_iload C dL_law_842 844 rfl 8 rfl ?_
            refine zv_iload C dL_law_844 846 rfl 0 rfl ?_
            refine zv_if_eq C dL_law_846 849 853 rfl (by decide) (fun c => absurd c (by decide)) (fun _ => ?_)
            refine zv_iconst (v := 1) C dL_law_849 850 rfl (by decide) ?_
            refine zv_goto C dL_law_850 854 (by decide) ?_
            refine zv_iadd (v := (nI (inN m6 m7 (nmS n m0 m1 m2 m3 m5 r) (k + 1)))) C dL_law_854 855 rfl (by unfold inN; rw [cnb_y (fun i => insd (m7 i) (nmS n m0 m1 m2 m3 m5 r (m6 i).toNatClampNeg)) hins]; exact nI_1 _) ?_
            refine zv_istore C dL_law_855 857 rfl [(12, .int (nI (inN m6 m7 (nmS n m0 m1 m2 m3 m5 r) (k + 1)))), (15, .int 1), (0, .ref sc), (1, .ref a), (2, .ref (s 0)), (3, .int (nI ti)), (4, .int x), (5, .long (dgM n b m0 m1 m2 m3 m5 m6 m7 r y)), (7, .int (nI n)), (13, .int 0), (14, .int (nI k))] (by decide) rfl ?_
            refine zv_aload_n C dL_law_857 858 rfl 3 rfl ?_
            refine zv_iload C dL_law_858 860 rfl 10 rfl ?_
            refine zn_callRV (rest := []) C zn_TB zn_TE (zn_ofR (w_isInsulted l D hR k hk2)) (cwV 1 C.1.2.2.2.2 gL_law_X1_isInsulted rfl rfl rfl (by decide +kernel) ⟨Nat.le_of_ble_eq_true rfl, Nat.le_of_ble_eq_true rfl⟩) dL_law_860 863 rfl (ci := 1) rfl 0 hrc rfl rfl (Nat.le_of_ble_eq_true rfl) ⟨(by show kc + 0 ≤ 600130; omega), (by show ns + 0 ≤ 7301079; omega)⟩ [0, 1] rfl (List.Sublist.cons _ (List.Sublist.cons _ (List.Sublist.cons _ ((List.sublist_append_right _ _).trans (List.sublist_append_right _ _))))) (fun v hv => ?_)
            subst hv
            rw [hins]
            refine zv_go rfl rfl (st' := [.int (zb true)]) rfl (kc' := kc) rfl (ns' := ns) rfl ?_
            refine zv_iload C dL_law_863 865 rfl 1 rfl ?_
            refine zv_icmp_eq C dL_law_865 868 870 rfl (by decide) (fun _ => ?_) (fun c => absurd rfl c)
            refine zv_iinc (v := (nI (k + 1))) C dL_law_870 873 rfl [(14, .int (nI (k + 1))), (12, .int (nI (inN m6 m7 (nmS n m0 m1 m2 m3 m5 r) (k + 1)))), (15, .int 1), (0, .ref sc), (1, .ref a), (2, .ref (s 0)), (3, .int (nI ti)), (4, .int x), (5, .long (dgM n b m0 m1 m2 m3 m5 m6 m7 r y)), (7, .int (nI n)), (13, .int 0)] 10 rfl (nI_1 k) (by decide) rfl ?_
            refine zv_goto C dL_law_873 798 (by decide) ?_
            refine zv_sub [3, 4, 5, 6, 7, 8, 9, 1, 10, 0] (lv' := [(0, .ref sc), (1, .ref a), (2, .ref (s 0)), (3, .int (nI ti)), (4, .int x), (5, .long (dgM n b m0 m1 m2 m3 m5 m6 m7 r y)), (7, .int (nI n)), (12, .int (nI (inN m6 m7 (nmS n m0 m1 m2 m3 m5 r) (k + 1)))), (13, .int 0), (14, .int (nI (k + 1)))]) rfl ?_
            exact ih_L1 (k + 1) (by omega) (by omega)
  refine zv_go rfl (lv' := [(14, .int (nI 0)), (13, .int 0), (12, .int (nI (inN m6 m7 (nmS n m0 m1 m2 m3 m5 r) 0))), (0, .ref sc), (1, .ref a), (2, .ref (s 0)), (3, .int (nI ti)), (4, .int x), (5, .long (dgM n b m0 m1 m2 m3 m5 m6 m7 r y)), (7, .int (nI n))]) rfl rfl rfl rfl ?_
  refine zv_sub [3, 4, 5, 6, 7, 8, 9, 2, 1, 0] (lv' := [(0, .ref sc), (1, .ref a), (2, .ref (s 0)), (3, .int (nI ti)), (4, .int x), (5, .long (dgM n b m0 m1 m2 m3 m5 m6 m7 r y)), (7, .int (nI n)), (12, .int (nI (inN m6 m7 (nmS n m0 m1 m2 m3 m5 r) 0))), (13, .int 0), (14, .int (nI 0))]) rfl ?_
  exact L1 (b + 1) 0 (by omega) (by omega)
