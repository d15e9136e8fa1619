/-! ===== the land by hand: what flows ===== -/
abbrev rmX2_flow : Room := { frames := 4, cells := 4400, slots := 70000, locals := 130 }
theorem zb_and1 (b : Bool) : zb b &&& 1 = zb b := by cases b <;> decide
theorem zb_and0 (b : Bool) : zb b &&& 0 = 0 := by cases b <;> decide
theorem RD_s {n : Nat} {m0 : Nat → Int32} {T : Nat → Bool} {p j : Nat} : RD n m0 T p (j + 1) = (RD n m0 T p j && (!decide (m0 j = nI p) || T j)) := by
  unfold RD
  simp only [anb]
  cases anb (fun q => decide (m0 q = nI p) && !T q) j <;> cases decide (m0 j = nI p) <;> cases T j <;> rfl
theorem mL_any (w g : Nat → Int32) {p k : Nat} : mL w g p (k + 1) = if w k = nI p then (if ¬ g k ≤ 0 then (if mL w g p k < g k + 1 then g k + 1 else mL w g p k) else mL w g p k) else mL w g p k := by
  simp only [mL]
  by_cases h1 : w k = nI p
  · by_cases h2 : g k ≤ 0
    · simp [h1, h2]
    · simp [h1, h2]
  · simp [h1]
set_option maxHeartbeats 4000000 in
set_option maxRecDepth 100000 in
theorem k_X2_flow (l : Launch) (D : va_G) (cI cZ cA : ClassId) {n b : Nat} {r : Int32} (y : Int32) {m0 m1 m2 m3 m4 m5 m6 m7 : Nat → Int32} (hV : LV n b r m0 m1 m2 m3 m4 m5 m6 m7) (s pa da : Nat → Nat) : zv_NE (va_AOA .int) l yX2_flow wsX2_flow rmX2_flow D vwCl (tyS cI cZ cA) [.ref (s 0)] ((s 0, .inr (2, [.int r, .int y, .ref (s 1), .ref (s 2)])) :: (s 1, .inl (cA, n, aq pa)) :: (s 2, .inl (cA, b, aq da)) :: (sR cI 6 pa (rP m0 m1 m2 m3 m4 m5) n ++ sR cI 2 da (rB m6 m7) b)) (fun v w => ∃ (fo : Nat) (g0 g1 g2 : Nat → Int32), v = some (.ref fo) ∧ w = [(fo, .inl (cA, 3, aq (fun i => fo + 1 + i))), (fo + 1, .inl (cI, n, .inl g0)), (fo + 2, .inl (cI, n, .inl g1)), (fo + 3, .inl (cI, n, .inl g2))] ∧ ∀ q, q < n → g0 q = (sol n m0 m1 m2 m3 m5 r).1 q ∧ g1 q = (sol n m0 m1 m2 m3 m5 r).2.1 q ∧ g2 q = (nmS n m0 m1 m2 m3 m5 r) q) := by
  refine zv_NE.of cX2_flow 8 (some (.array (.array .int))) (by decide) rfl (Nat.le_of_ble_eq_true rfl) ?_
  intro pP eE sS mM aA bB mT cD A C hr hlk hA hO Q hQ
  have hAq : ∀ q : Nat, sS.heap.size ≤ q → A q := C.2
  have inX2 : ∀ w ∈ u_ws RX2 TX2 4, w ∈ wsX2_flow := by decide +kernel
  have lk9 : Cond.fieldLink RX2 9 "RiverNamesLaw$Sim" "places" "[[I" ∈ wsX2_flow := by decide +kernel
  have cl34 : Cond.classLink RX2 34 "[[I" ∈ wsX2_flow := by decide +kernel
  have arint : Cond.arrayClass .int ∈ wsX2_flow := by decide +kernel
  have arboolean : Cond.arrayClass .boolean ∈ wsX2_flow := by decide +kernel
  refine zv_go (pc' := 0) rfl (lv' := [(0, .ref (s 0))]) rfl rfl rfl rfl ?_
  have hn16 : n ≤ 16 := hV.n16
  have hb16 : b ≤ 16 := hV.b16
  obtain ⟨d, sD, hD⟩ := hV.dep
  have hW := hV.wat
  refine zv_aload_n C dX2_flow_0 1 rfl 0 rfl ?_
  refine zv_get (ci := 2) C inX2 rfl dX2_flow_1 4 rfl 0 2 rfl (by decide) lk9 rfl ?_
  refine zv_alen (v := (nI n)) C dX2_flow_4 5 rfl 1 2 rfl rfl rfl ?_
  refine zv_istore_n C dX2_flow_5 6 rfl [(1, .int (nI n)), (0, .ref (s 0))] (by decide) rfl ?_
  refine zv_iconst (v := 3) C dX2_flow_6 7 rfl (by decide) ?_
  refine zv_iload_n C dX2_flow_7 8 rfl 0 rfl ?_
  refine zn_mna C (fun _ _ => trivial) hO cl34 arint dX2_flow_8 12 rfl hn16 2 0 rfl rfl (by show 0 + 4 ≤ 4400; omega) (by show 0 + (3 + 3 * n) ≤ 70000; omega) (fun fo fr_fo => ?_)
  refine zv_go rfl rfl rfl (kc' := 4) rfl (ns' := 0 + (3 + 3 * n)) rfl ?_
  refine zv_wd (ws' := ((fo, .inl (cA, 3, aq (fun i => fo + 1 + i))) :: (fo + 1, .inl (cI, n, .inl z0)) :: (fo + 2, .inl (cI, n, .inl z0)) :: (fo + 3, .inl (cI, n, .inl z0)) :: (s 0, .inr (2, [.int r, .int y, .ref (s 1), .ref (s 2)])) :: (s 1, .inl (cA, n, aq pa)) :: (s 2, .inl (cA, b, aq da)) :: (sR cI 6 pa (rP m0 m1 m2 m3 m4 m5) n ++ sR cI 2 da (rB m6 m7) b))) rfl ?_
  refine zv_astore_n C dX2_flow_12 13 rfl [(2, .ref fo), (1, .int (nI n)), (0, .ref (s 0))] (by decide) rfl ?_
  refine zv_iload_n C dX2_flow_13 14 rfl 1 rfl ?_
  refine zn_newa (atype := .boolean) C (fun _ _ => trivial) arboolean rfl dX2_flow_14 16 rfl (N' := n) (a0 := (n, .inl z0)) (fun cA => rfl) 1 rfl (fun h => h) (nI_nneg (by omega)) (nI_clamp (by omega)) (by show n * 1 ≤ _; omega) (by show 4 + 1 ≤ 4400; omega) (by show 0 + (3 + 3 * n) + n ≤ 70000; omega) (fun tl fr_tl => ?_)
  refine zv_go rfl rfl (st' := [.ref tl]) rfl (kc' := 5) rfl (ns' := (0 + (3 + 3 * n) + n)) rfl ?_
  have fA_tl := hAq tl fr_tl
  refine zv_astore_n C dX2_flow_16 17 rfl [(3, .ref tl), (2, .ref fo), (1, .int (nI n)), (0, .ref (s 0))] (by decide) rfl ?_
  refine zv_iconst (v := 0) C dX2_flow_17 18 rfl (by decide) ?_
  refine zv_istore C dX2_flow_18 20 rfl [(4, .int 0), (3, .ref tl), (2, .ref fo), (1, .int (nI n)), (0, .ref (s 0))] (by decide) rfl ?_
  have RL : ∀ (mu_RL : Nat), ∀ (k : Nat) (t : Nat → Int32) (T : Nat → Bool) (g0 g1 g2 : Nat → Int32) (kc ns : Nat), (∀ i, i < n → t i = zb (T i)) → (FT n m0 (sol n m0 m1 m2 m3 m5 r).1 (sol n m0 m1 m2 m3 m5 r).2.1 (nmS n m0 m1 m2 m3 m5 r) T g0 g1 g2) → (FD n d T k 0) → (k ≤ n) → (kc + 272 * (n - k) ≤ 4400) → (ns + 4352 * (n - k) ≤ 70000) → n - k < mu_RL → zv_V pP l eE rmX2_flow sS mM aA bB mT cD Q 8 D vwCl A (fun _ => True) (tyS cI cZ cA) ((tl, .inl (cZ, n, .inl t)) :: (fo, .inl (cA, 3, aq (fun i => fo + 1 + i))) :: (fo + 1, .inl (cI, n, .inl g0)) :: (fo + 2, .inl (cI, n, .inl g1)) :: (fo + 3, .inl (cI, n, .inl g2)) :: (s 0, .inr (2, [.int r, .int y, .ref (s 1), .ref (s 2)])) :: (s 1, .inl (cA, n, aq pa)) :: (s 2, .inl (cA, b, aq da)) :: (sR cI 6 pa (rP m0 m1 m2 m3 m4 m5) n ++ sR cI 2 da (rB m6 m7) b)) kc ns 20 [(0, .ref (s 0)), (1, .int (nI n)), (2, .ref fo), (3, .ref tl), (4, .int (nI k))] [] := by
    intro mu_RL
    induction mu_RL with
    | zero => intro k t T g0 g1 g2 kc ns ht hF hFD hk hkc hns hmu_RL; exact absurd hmu_RL (Nat.not_lt_zero _)
    | succ mu_RL ih_RL =>
      intro k t T g0 g1 g2 kc ns ht hF hFD hk hkc hns hmu_RL
      refine zv_iload C dX2_flow_20 22 rfl 4 rfl ?_
      refine zv_iload_n C dX2_flow_22 23 rfl 1 rfl ?_
      refine zv_icmp_ge C dX2_flow_23 26 262 rfl (by decide) (fun ck => ?_) (fun ck => ?_)
      ·
        have e1 : n = k := by have := zn_le (by omega) (by omega) ck; omega
        subst e1
        refine zv_aload_n C dX2_flow_262 263 rfl 2 rfl ?_
        refine zv_widen (k' := 4400) (n' := 70000) (by omega) (by omega) ?_
        refine zn_aret C hr (Or.inr ⟨_, rfl⟩) hlk hA hQ dX2_flow_263 _ (List.Sublist.cons _ (List.Sublist.cons_cons _ (List.Sublist.cons_cons _ (List.Sublist.cons_cons _ (List.Sublist.cons_cons _ (List.nil_sublist _)))))) (fun q hq => ?_) ⟨fo, g0, g1, g2, rfl, rfl, fun q hq => (hF q hq).1 (hFD q hq (Or.inl (by omega)))⟩
        simp only [List.mem_cons, List.not_mem_nil, or_false] at hq
        rcases hq with z | z | z | z <;> subst z <;> first | exact fr_fo | (show sS.heap.size ≤ fo + 1; omega) | (show sS.heap.size ≤ fo + 2; omega) | (show sS.heap.size ≤ fo + 3; omega)
      ·
        have hk2 : k < n := zn_le' (by omega) (by omega) ck
        have PL : ∀ (mu_PL : Nat), ∀ (p : Nat) (t : Nat → Int32) (T : Nat → Bool) (g0 g1 g2 : Nat → Int32) (kc ns : Nat), (∀ i, i < n → t i = zb (T i)) → (FT n m0 (sol n m0 m1 m2 m3 m5 r).1 (sol n m0 m1 m2 m3 m5 r).2.1 (nmS n m0 m1 m2 m3 m5 r) T g0 g1 g2) → (FD n d T k p) → (p ≤ n) → (kc + 17 * (n - p) + 272 * (n - (k + 1)) ≤ 4400) → (ns + 272 * (n - p) + 4352 * (n - (k + 1)) ≤ 70000) → n - p < mu_PL → zv_V pP l eE rmX2_flow sS mM aA bB mT cD Q 8 D vwCl A (fun _ => True) (tyS cI cZ cA) ((tl, .inl (cZ, n, .inl t)) :: (fo, .inl (cA, 3, aq (fun i => fo + 1 + i))) :: (fo + 1, .inl (cI, n, .inl g0)) :: (fo + 2, .inl (cI, n, .inl g1)) :: (fo + 3, .inl (cI, n, .inl g2)) :: (s 0, .inr (2, [.int r, .int y, .ref (s 1), .ref (s 2)])) :: (s 1, .inl (cA, n, aq pa)) :: (s 2, .inl (cA, b, aq da)) :: (sR cI 6 pa (rP m0 m1 m2 m3 m4 m5) n ++ sR cI 2 da (rB m6 m7) b)) kc ns 29 [(0, .ref (s 0)), (1, .int (nI n)), (2, .ref fo), (3, .ref tl), (4, .int (nI k)), (5, .int (nI p))] [] := by
          intro mu_PL
          induction mu_PL with
          | zero => intro p t T g0 g1 g2 kc ns ht hF hFD hp hkc hns hmu_PL; exact absurd hmu_PL (Nat.not_lt_zero _)
          | succ mu_PL ih_PL =>
            intro p t T g0 g1 g2 kc ns ht hF hFD hp hkc hns hmu_PL
            refine zv_iload C dX2_flow_29 31 rfl 5 rfl ?_
            refine zv_iload_n C dX2_flow_31 32 rfl 1 rfl ?_
            refine zv_icmp_ge C dX2_flow_32 35 256 rfl (by decide) (fun cp => ?_) (fun cp => ?_)
            ·
              have e1 : n = p := by have := zn_le (by omega) (by omega) cp; omega
              subst e1
              refine zv_iinc (v := (nI (k + 1))) C dX2_flow_256 259 rfl [(4, .int (nI (k + 1))), (0, .ref (s 0)), (1, .int (nI n)), (2, .ref fo), (3, .ref tl), (5, .int (nI n))] 4 rfl (nI_1 k) (by decide) rfl ?_
              refine zv_goto C dX2_flow_259 20 (by decide) ?_
              refine zv_sub [1, 2, 3, 4, 0] (lv' := [(0, .ref (s 0)), (1, .int (nI n)), (2, .ref fo), (3, .ref tl), (4, .int (nI (k + 1)))]) rfl ?_
              exact ih_RL (k + 1) t T g0 g1 g2 kc ns ht hF hFD.next (by omega) (by omega) (by omega) (by omega)
            ·
              have hp2 : p < n := zn_le' (by omega) (by omega) cp
              refine zv_aload_n C dX2_flow_35 36 rfl 3 rfl ?_
              refine zv_iload C dX2_flow_36 38 rfl 5 rfl ?_
              refine zv_zald (v := (zb (T p))) C dX2_flow_38 39 rfl 0 1 p rfl rfl rfl (by omega) (by omega) (ht p hp2) ?_
              have QL : ∀ (mu_QL : Nat), ∀ (j : Nat), (j ≤ n) → n - j < mu_QL → zv_V pP l eE rmX2_flow sS mM aA bB mT cD Q 8 D vwCl A (fun _ => True) (tyS cI cZ cA) ((tl, .inl (cZ, n, .inl t)) :: (fo, .inl (cA, 3, aq (fun i => fo + 1 + i))) :: (fo + 1, .inl (cI, n, .inl g0)) :: (fo + 2, .inl (cI, n, .inl g1)) :: (fo + 3, .inl (cI, n, .inl g2)) :: (s 0, .inr (2, [.int r, .int y, .ref (s 1), .ref (s 2)])) :: (s 1, .inl (cA, n, aq pa)) :: (s 2, .inl (cA, b, aq da)) :: (sR cI 6 pa (rP m0 m1 m2 m3 m4 m5) n ++ sR cI 2 da (rB m6 m7) b)) kc ns 52 [(0, .ref (s 0)), (1, .int (nI n)), (2, .ref fo), (3, .ref tl), (4, .int (nI k)), (5, .int (nI p)), (6, .int (zb (!T p && RD n m0 T p j))), (7, .int (nI j))] [] := by
                intro mu_QL
                induction mu_QL with
                | zero => intro j hj hmu_QL; exact absurd hmu_QL (Nat.not_lt_zero _)
                | succ mu_QL ih_QL =>
                  intro j hj hmu_QL
                  refine zv_iload C dX2_flow_52 54 rfl 7 rfl ?_
                  refine zv_iload_n C dX2_flow_54 55 rfl 1 rfl ?_
                  refine zv_icmp_ge C dX2_flow_55 58 95 rfl (by decide) (fun cj => ?_) (fun cj => ?_)
                  ·
                    have e1 : n = j := by have := zn_le (by omega) (by omega) cj; omega
                    subst e1
                    refine zv_iload C dX2_flow_95 97 rfl 6 rfl ?_
                    refine zv_if_ne C dX2_flow_97 100 103 rfl (by decide) (fun cc => ?_) (fun cc => ?_)
                    ·
                      have hcc := zb_ne0.mp cc
                      simp only [Bool.and_eq_true, Bool.not_eq_true'] at hcc
                      obtain ⟨hTp, hRD⟩ := hcc
                      have hrd := RD.iff.mp hRD
                      have hgp : g1 p = 0 := (hF p hp2).2 hTp
                      refine zv_aload_n C dX2_flow_103 104 rfl 3 rfl ?_
                      refine zv_iload C dX2_flow_104 106 rfl 5 rfl ?_
                      refine zv_iconst (v := 1) C dX2_flow_106 107 rfl (by decide) ?_
                      refine zn_zast (x' := 1) C dX2_flow_107 108 rfl 0 1 p rfl fA_tl rfl rfl (by omega) (by omega) (by decide) ((tl, .inl (cZ, n, .inl (upd t p 1))) :: (fo, .inl (cA, 3, aq (fun i => fo + 1 + i))) :: (fo + 1, .inl (cI, n, .inl g0)) :: (fo + 2, .inl (cI, n, .inl g1)) :: (fo + 3, .inl (cI, n, .inl g2)) :: (s 0, .inr (2, [.int r, .int y, .ref (s 1), .ref (s 2)])) :: (s 1, .inl (cA, n, aq pa)) :: (s 2, .inl (cA, b, aq da)) :: (sR cI 6 pa (rP m0 m1 m2 m3 m4 m5) n ++ sR cI 2 da (rB m6 m7) b)) rfl ?_
                      refine zv_aload_n C dX2_flow_108 109 rfl 2 rfl ?_
                      refine zv_iconst (v := 0) C dX2_flow_109 110 rfl (by decide) ?_
                      refine zn_aald (r := fo + 1) C dX2_flow_110 111 rfl 1 2 0 rfl rfl (by decide) (by omega) (by omega) rfl ?_
                      refine zv_iload C dX2_flow_111 113 rfl 5 rfl ?_
                      refine zv_aload_n C dX2_flow_113 114 rfl 0 rfl ?_
                      refine zv_get (ci := 2) C inX2 rfl dX2_flow_114 117 rfl 5 2 rfl (by decide) lk9 rfl ?_
                      refine zv_iload C dX2_flow_117 119 rfl 5 rfl ?_
                      refine zn_aald (r := pa p) C dX2_flow_119 120 rfl 6 2 p rfl rfl rfl (by omega) (by omega) rfl ?_
                      refine zv_iconst (v := 3) C dX2_flow_120 121 rfl (by decide) ?_
                      refine zv_iald (v := (m3 p)) C dX2_flow_121 122 rfl (p + 8) 0 3 (zr_p0 (by omega)) rfl (by decide) (by omega) (by omega) rfl ?_
                      refine zn_iast (x' := (m3 p)) C dX2_flow_122 123 rfl 2 0 p rfl (hAq _ (by omega)) rfl rfl (by omega) (by omega) rfl ((tl, .inl (cZ, n, .inl (upd t p 1))) :: (fo, .inl (cA, 3, aq (fun i => fo + 1 + i))) :: (fo + 1, .inl (cI, n, .inl (upd g0 p (m3 p)))) :: (fo + 2, .inl (cI, n, .inl g1)) :: (fo + 3, .inl (cI, n, .inl g2)) :: (s 0, .inr (2, [.int r, .int y, .ref (s 1), .ref (s 2)])) :: (s 1, .inl (cA, n, aq pa)) :: (s 2, .inl (cA, b, aq da)) :: (sR cI 6 pa (rP m0 m1 m2 m3 m4 m5) n ++ sR cI 2 da (rB m6 m7) b)) rfl ?_
                      refine zv_iconst (v := 0) C dX2_flow_123 124 rfl (by decide) ?_
                      refine zv_istore C dX2_flow_124 126 rfl [(7, .int 0), (0, .ref (s 0)), (1, .int (nI n)), (2, .ref fo), (3, .ref tl), (4, .int (nI k)), (5, .int (nI p)), (6, .int (zb (!T p && RD n m0 T p n)))] (by decide) rfl ?_
                      have SL : ∀ (mu_SL : Nat), ∀ (j : Nat) (e0 e1 : Nat → Int32), (∀ q, ¬ q = p → e0 q = g0 q ∧ e1 q = g1 q) → (e0 p = mW m0 g0 (m3 p) p j) → (e1 p = mL m0 g1 p j) → (∃ a, a ≤ 17 ∧ e1 p = nI a) → (j ≤ n) → n - j < mu_SL → zv_V pP l eE rmX2_flow sS mM aA bB mT cD Q 8 D vwCl A (fun _ => True) (tyS cI cZ cA) ((tl, .inl (cZ, n, .inl (upd t p 1))) :: (fo, .inl (cA, 3, aq (fun i => fo + 1 + i))) :: (fo + 1, .inl (cI, n, .inl e0)) :: (fo + 2, .inl (cI, n, .inl e1)) :: (fo + 3, .inl (cI, n, .inl g2)) :: (s 0, .inr (2, [.int r, .int y, .ref (s 1), .ref (s 2)])) :: (s 1, .inl (cA, n, aq pa)) :: (s 2, .inl (cA, b, aq da)) :: (sR cI 6 pa (rP m0 m1 m2 m3 m4 m5) n ++ sR cI 2 da (rB m6 m7) b)) kc ns 126 [(0, .ref (s 0)), (1, .int (nI n)), (2, .ref fo), (3, .ref tl), (4, .int (nI k)), (5, .int (nI p)), (7, .int (nI j))] [] := by
                        intro mu_SL
                        induction mu_SL with
                        | zero => intro j e0 e1 ho he0 he1 hb1 hj hmu_SL; exact absurd hmu_SL (Nat.not_lt_zero _)
                        | succ mu_SL ih_SL =>
                          intro j e0 e1 ho he0 he1 hb1 hj hmu_SL
                          refine zv_iload C dX2_flow_126 128 rfl 6 rfl ?_
                          refine zv_iload_n C dX2_flow_128 129 rfl 1 rfl ?_
                          refine zv_icmp_ge C dX2_flow_129 132 212 rfl (by decide) (fun cj => ?_) (fun cj => ?_)
                          ·
                            have e1z : n = j := by have := zn_le (by omega) (by omega) cj; omega
                            subst e1z
                            refine zv_aload_n C dX2_flow_212 213 rfl 2 rfl ?_
                            refine zv_iconst (v := 1) C dX2_flow_213 214 rfl (by decide) ?_
                            refine zn_aald (r := fo + 2) C dX2_flow_214 215 rfl 1 2 1 rfl rfl (by decide) (by omega) (by omega) rfl ?_
                            refine zv_iload C dX2_flow_215 217 rfl 5 rfl ?_
                            refine zv_iald (v := (e1 p)) C dX2_flow_217 218 rfl 3 0 p rfl rfl rfl (by omega) (by omega) rfl ?_
                            refine zv_if_ne C dX2_flow_218 221 237 rfl (by decide) (fun cz => ?_) (fun cz => ?_)
                            ·
                              have h1p : e1 p = (sol n m0 m1 m2 m3 m5 r).2.1 p := by
                                rw [(hV.ma hp2).2.1, ← mL_congr (e := g1) n (fun j hj e => ((hF j hj).1 (hrd j hj e)).2.1), ← he1]
                                unfold mLf
                                rw [if_neg (fun z => cz z.1)]
                              have h0p : e0 p = (sol n m0 m1 m2 m3 m5 r).1 p := by
                                rw [he0, (hV.ma hp2).1]
                                have hb : mB m1 m3 p = m3 p := by
                                  unfold mB
                                  by_cases z : m1 p = 0
                                  · rw [if_pos z, (hW p hp2).1 z]
                                  · rw [if_neg z]
                                rw [hb]
                                exact (mW_congr n (fun j hj e => ((hF j hj).1 (hrd j hj e)).1))
                              have hlq : ∀ q, q < n → m0 q = nI p → e0 q = (sol n m0 m1 m2 m3 m5 r).1 q ∧ e1 q = (sol n m0 m1 m2 m3 m5 r).2.1 q ∧ g2 q = (nmS n m0 m1 m2 m3 m5 r) q := fun q hq e => by
                                have hqp : ¬ q = p := fun z => by subst z; exact hD.ne hn16 hp2 e
                                obtain ⟨z0, z1, z2⟩ := (hF q hq).1 (hrd q hq e)
                                exact ⟨(ho q hqp).1.trans z0, ((ho q hqp).2.trans z1), z2⟩
                              refine zv_aload_n C dX2_flow_237 238 rfl 2 rfl ?_
                              refine zv_iconst (v := 2) C dX2_flow_238 239 rfl (by decide) ?_
                              refine zn_aald (r := fo + 3) C dX2_flow_239 240 rfl 1 2 2 rfl rfl (by decide) (by omega) (by omega) rfl ?_
                              refine zv_iload C dX2_flow_240 242 rfl 5 rfl ?_
                              refine zv_aload_n C dX2_flow_242 243 rfl 0 rfl ?_
                              refine zv_iload C dX2_flow_243 245 rfl 5 rfl ?_
                              refine zv_aload_n C dX2_flow_245 246 rfl 2 rfl ?_
                              refine zn_callRV (rest := [.int (nI p), .ref (fo + 3)]) C zn_OB (zn_OE hO) (k_X2_winner l D cI cZ cA y hV s pa da p fo e0 e1 g2 hp2 (fun q hq e => by rw [(hlq q hq e).2.2]; exact hV.nv hq) (fun q hq e => by
                                obtain ⟨x1, hx1, ex1⟩ := hV.wv hq
                                obtain ⟨x2, hx2, ex2⟩ := hV.lv hq
                                rw [(hlq q hq e).1, (hlq q hq e).2.1, ex1, ex2]
                                exact ⟨m1_lt_nI (by omega), m1_lt_nI (by omega)⟩)) (cwV 2 C.1.2.2.2.2 gX2_flow_X2_winner rfl rfl rfl (by decide +kernel) ⟨Nat.le_of_ble_eq_true rfl, Nat.le_of_ble_eq_true rfl⟩) dX2_flow_246 249 rfl (ci := 2) rfl 4 rfl rfl rfl (Nat.le_of_ble_eq_true rfl) ⟨(by show kc + 17 ≤ 4400; omega), (by show ns + 272 ≤ 70000; omega)⟩ [0, 1, 2] rfl (List.Sublist.cons _ (List.Sublist.refl _)) (fun v hv => ?_)
                              subst hv
                              have h2p : nmd m0 m1 m2 m3 m5 e0 e1 g2 r p n = (nmS n m0 m1 m2 m3 m5 r) p := by
                                refine Eq.trans ?_ (hV.ma hp2).2.2.symm
                                unfold nmd
                                rw [mN_congr n hlq]
                              refine zv_go rfl rfl (st' := [.int (nmd m0 m1 m2 m3 m5 e0 e1 g2 r p n), .int (nI p), .ref (fo + 3)]) rfl (kc' := (kc + 17)) rfl (ns' := (ns + 272)) rfl ?_
                              refine zn_iast (x' := (nmd m0 m1 m2 m3 m5 e0 e1 g2 r p n)) C dX2_flow_249 250 rfl 4 0 p rfl (hAq _ (by omega)) rfl rfl (by omega) (by omega) rfl ((tl, .inl (cZ, n, .inl (upd t p 1))) :: (fo, .inl (cA, 3, aq (fun i => fo + 1 + i))) :: (fo + 1, .inl (cI, n, .inl e0)) :: (fo + 2, .inl (cI, n, .inl e1)) :: (fo + 3, .inl (cI, n, .inl (upd g2 p (nmd m0 m1 m2 m3 m5 e0 e1 g2 r p n)))) :: (s 0, .inr (2, [.int r, .int y, .ref (s 1), .ref (s 2)])) :: (s 1, .inl (cA, n, aq pa)) :: (s 2, .inl (cA, b, aq da)) :: (sR cI 6 pa (rP m0 m1 m2 m3 m4 m5) n ++ sR cI 2 da (rB m6 m7) b)) rfl ?_
                              refine zv_iinc (v := (nI (p + 1))) C dX2_flow_250 253 rfl [(5, .int (nI (p + 1))), (0, .ref (s 0)), (1, .int (nI n)), (2, .ref fo), (3, .ref tl), (4, .int (nI k)), (7, .int (nI n))] 5 rfl (nI_1 p) (by decide) rfl ?_
                              refine zv_goto C dX2_flow_253 29 (by decide) ?_
                              refine zv_sub [1, 2, 3, 4, 5, 0] (lv' := [(0, .ref (s 0)), (1, .int (nI n)), (2, .ref fo), (3, .ref tl), (4, .int (nI k)), (5, .int (nI (p + 1)))]) rfl ?_
                              exact ih_PL (p + 1) _ (fun q => decide (q = p) || T q) _ _ _ _ _ (fun i hi => by
                                by_cases z : i = p
                                · subst z; rw [upd_at]; simp [zb]
                                · rw [upd_ne _ _ _ z, ht i hi]; simp [z]) (hF.tell (fun q hq => ⟨(ho q hq).1, (ho q hq).2, upd_ne _ _ _ hq⟩) h0p h1p (by rw [upd_at]; exact h2p)) (hFD.step (fun q hq => by simp [hq]) (by simp)) (by omega) (by omega) (by omega) (by omega)
                            ·
                              refine zv_aload_n C dX2_flow_221 222 rfl 0 rfl ?_
                              refine zv_iload C dX2_flow_222 224 rfl 5 rfl ?_
                              refine zn_callRV (rest := []) C zn_TB zn_TE (zn_ofR (k_X2_hasWater l D cI cZ cA y hV s pa da p hp2)) (cwV 1 C.1.2.2.2.2 gX2_flow_X2_hasWater rfl rfl rfl (by decide +kernel) ⟨Nat.le_of_ble_eq_true rfl, Nat.le_of_ble_eq_true rfl⟩) dX2_flow_224 227 rfl (ci := 2) rfl 0 rfl rfl rfl (Nat.le_of_ble_eq_true rfl) ⟨(by show kc + 0 ≤ 4400; omega), (by show ns + 0 ≤ 70000; omega)⟩ [0, 1, 2] rfl (List.Sublist.cons _ (List.Sublist.cons _ (List.Sublist.cons _ (List.Sublist.cons _ (List.Sublist.cons _ (List.Sublist.refl _)))))) (fun v hv => ?_)
                              subst hv
                              refine zv_go rfl rfl (st' := [.int (zb (sprg m1 m3 p))]) rfl (kc' := kc) rfl (ns' := ns) rfl ?_
                              refine zv_if_eq C dX2_flow_227 230 237 rfl (by decide) (fun cs => ?_) (fun cs => ?_)
                              ·
                                have h1p : e1 p = (sol n m0 m1 m2 m3 m5 r).2.1 p := by
                                  rw [(hV.ma hp2).2.1, ← mL_congr (e := g1) n (fun j hj e => ((hF j hj).1 (hrd j hj e)).2.1), ← he1]
                                  unfold mLf
                                  rw [zb_eq0.mp cs, if_neg (fun z => by cases z.2)]
                                have h0p : e0 p = (sol n m0 m1 m2 m3 m5 r).1 p := by
                                  rw [he0, (hV.ma hp2).1]
                                  have hb : mB m1 m3 p = m3 p := by
                                    unfold mB
                                    by_cases z : m1 p = 0
                                    · rw [if_pos z, (hW p hp2).1 z]
                                    · rw [if_neg z]
                                  rw [hb]
                                  exact (mW_congr n (fun j hj e => ((hF j hj).1 (hrd j hj e)).1))
                                have hlq : ∀ q, q < n → m0 q = nI p → e0 q = (sol n m0 m1 m2 m3 m5 r).1 q ∧ e1 q = (sol n m0 m1 m2 m3 m5 r).2.1 q ∧ g2 q = (nmS n m0 m1 m2 m3 m5 r) q := fun q hq e => by
                                  have hqp : ¬ q = p := fun z => by subst z; exact hD.ne hn16 hp2 e
                                  obtain ⟨z0, z1, z2⟩ := (hF q hq).1 (hrd q hq e)
                                  exact ⟨(ho q hqp).1.trans z0, ((ho q hqp).2.trans z1), z2⟩
                                refine zv_aload_n C dX2_flow_237 238 rfl 2 rfl ?_
                                refine zv_iconst (v := 2) C dX2_flow_238 239 rfl (by decide) ?_
                                refine zn_aald (r := fo + 3) C dX2_flow_239 240 rfl 1 2 2 rfl rfl (by decide) (by omega) (by omega) rfl ?_
                                refine zv_iload C dX2_flow_240 242 rfl 5 rfl ?_
                                refine zv_aload_n C dX2_flow_242 243 rfl 0 rfl ?_
                                refine zv_iload C dX2_flow_243 245 rfl 5 rfl ?_
                                refine zv_aload_n C dX2_flow_245 246 rfl 2 rfl ?_
                                refine zn_callRV (rest := [.int (nI p), .ref (fo + 3)]) C zn_OB (zn_OE hO) (k_X2_winner l D cI cZ cA y hV s pa da p fo e0 e1 g2 hp2 (fun q hq e => by rw [(hlq q hq e).2.2]; exact hV.nv hq) (fun q hq e => by
                                  obtain ⟨x1, hx1, ex1⟩ := hV.wv hq
                                  obtain ⟨x2, hx2, ex2⟩ := hV.lv hq
                                  rw [(hlq q hq e).1, (hlq q hq e).2.1, ex1, ex2]
                                  exact ⟨m1_lt_nI (by omega), m1_lt_nI (by omega)⟩)) (cwV 2 C.1.2.2.2.2 gX2_flow_X2_winner rfl rfl rfl (by decide +kernel) ⟨Nat.le_of_ble_eq_true rfl, Nat.le_of_ble_eq_true rfl⟩) dX2_flow_246 249 rfl (ci := 2) rfl 4 rfl rfl rfl (Nat.le_of_ble_eq_true rfl) ⟨(by show kc + 17 ≤ 4400; omega), (by show ns + 272 ≤ 70000; omega)⟩ [0, 1, 2] rfl (List.Sublist.cons _ (List.Sublist.refl _)) (fun v hv => ?_)
                                subst hv
                                have h2p : nmd m0 m1 m2 m3 m5 e0 e1 g2 r p n = (nmS n m0 m1 m2 m3 m5 r) p := by
                                  refine Eq.trans ?_ (hV.ma hp2).2.2.symm
                                  unfold nmd
                                  rw [mN_congr n hlq]
                                refine zv_go rfl rfl (st' := [.int (nmd m0 m1 m2 m3 m5 e0 e1 g2 r p n), .int (nI p), .ref (fo + 3)]) rfl (kc' := (kc + 17)) rfl (ns' := (ns + 272)) rfl ?_
                                refine zn_iast (x' := (nmd m0 m1 m2 m3 m5 e0 e1 g2 r p n)) C dX2_flow_249 250 rfl 4 0 p rfl (hAq _ (by omega)) rfl rfl (by omega) (by omega) rfl ((tl, .inl (cZ, n, .inl (upd t p 1))) :: (fo, .inl (cA, 3, aq (fun i => fo + 1 + i))) :: (fo + 1, .inl (cI, n, .inl e0)) :: (fo + 2, .inl (cI, n, .inl e1)) :: (fo + 3, .inl (cI, n, .inl (upd g2 p (nmd m0 m1 m2 m3 m5 e0 e1 g2 r p n)))) :: (s 0, .inr (2, [.int r, .int y, .ref (s 1), .ref (s 2)])) :: (s 1, .inl (cA, n, aq pa)) :: (s 2, .inl (cA, b, aq da)) :: (sR cI 6 pa (rP m0 m1 m2 m3 m4 m5) n ++ sR cI 2 da (rB m6 m7) b)) rfl ?_
                                refine zv_iinc (v := (nI (p + 1))) C dX2_flow_250 253 rfl [(5, .int (nI (p + 1))), (0, .ref (s 0)), (1, .int (nI n)), (2, .ref fo), (3, .ref tl), (4, .int (nI k)), (7, .int (nI n))] 5 rfl (nI_1 p) (by decide) rfl ?_
                                refine zv_goto C dX2_flow_253 29 (by decide) ?_
                                refine zv_sub [1, 2, 3, 4, 5, 0] (lv' := [(0, .ref (s 0)), (1, .int (nI n)), (2, .ref fo), (3, .ref tl), (4, .int (nI k)), (5, .int (nI (p + 1)))]) rfl ?_
                                exact ih_PL (p + 1) _ (fun q => decide (q = p) || T q) _ _ _ _ _ (fun i hi => by
                                  by_cases z : i = p
                                  · subst z; rw [upd_at]; simp [zb]
                                  · rw [upd_ne _ _ _ z, ht i hi]; simp [z]) (hF.tell (fun q hq => ⟨(ho q hq).1, (ho q hq).2, upd_ne _ _ _ hq⟩) h0p h1p (by rw [upd_at]; exact h2p)) (hFD.step (fun q hq => by simp [hq]) (by simp)) (by omega) (by omega) (by omega) (by omega)
                              ·
                                refine zv_aload_n C dX2_flow_230 231 rfl 2 rfl ?_
                                refine zv_iconst (v := 1) C dX2_flow_231 232 rfl (by decide) ?_
                                refine zn_aald (r := fo + 2) C dX2_flow_232 233 rfl 1 2 1 rfl rfl (by decide) (by omega) (by omega) rfl ?_
                                refine zv_iload C dX2_flow_233 235 rfl 5 rfl ?_
                                refine zv_iconst (v := 1) C dX2_flow_235 236 rfl (by decide) ?_
                                refine zn_iast (x' := 1) C dX2_flow_236 237 rfl 3 0 p rfl (hAq _ (by omega)) rfl rfl (by omega) (by omega) rfl ((tl, .inl (cZ, n, .inl (upd t p 1))) :: (fo, .inl (cA, 3, aq (fun i => fo + 1 + i))) :: (fo + 1, .inl (cI, n, .inl e0)) :: (fo + 2, .inl (cI, n, .inl (upd e1 p 1))) :: (fo + 3, .inl (cI, n, .inl g2)) :: (s 0, .inr (2, [.int r, .int y, .ref (s 1), .ref (s 2)])) :: (s 1, .inl (cA, n, aq pa)) :: (s 2, .inl (cA, b, aq da)) :: (sR cI 6 pa (rP m0 m1 m2 m3 m4 m5) n ++ sR cI 2 da (rB m6 m7) b)) rfl ?_
                                have h1p : (upd e1 p 1) p = (sol n m0 m1 m2 m3 m5 r).2.1 p := by
                                  rw [upd_at, (hV.ma hp2).2.1, ← mL_congr (e := g1) n (fun j hj e => ((hF j hj).1 (hrd j hj e)).2.1), ← he1]
                                  unfold mLf
                                  rw [zb_ne0.mp cs, if_pos ⟨cz, rfl⟩]
                                have h0p : e0 p = (sol n m0 m1 m2 m3 m5 r).1 p := by
                                  rw [he0, (hV.ma hp2).1]
                                  have hb : mB m1 m3 p = m3 p := by
                                    unfold mB
                                    by_cases z : m1 p = 0
                                    · rw [if_pos z, (hW p hp2).1 z]
                                    · rw [if_neg z]
                                  rw [hb]
                                  exact (mW_congr n (fun j hj e => ((hF j hj).1 (hrd j hj e)).1))
                                have hlq : ∀ q, q < n → m0 q = nI p → e0 q = (sol n m0 m1 m2 m3 m5 r).1 q ∧ (upd e1 p 1) q = (sol n m0 m1 m2 m3 m5 r).2.1 q ∧ g2 q = (nmS n m0 m1 m2 m3 m5 r) q := fun q hq e => by
                                  have hqp : ¬ q = p := fun z => by subst z; exact hD.ne hn16 hp2 e
                                  obtain ⟨z0, z1, z2⟩ := (hF q hq).1 (hrd q hq e)
                                  exact ⟨(ho q hqp).1.trans z0, (upd_ne _ _ _ hqp).trans ((ho q hqp).2.trans z1), z2⟩
                                refine zv_aload_n C dX2_flow_237 238 rfl 2 rfl ?_
                                refine zv_iconst (v := 2) C dX2_flow_238 239 rfl (by decide) ?_
                                refine zn_aald (r := fo + 3) C dX2_flow_239 240 rfl 1 2 2 rfl rfl (by decide) (by omega) (by omega) rfl ?_
                                refine zv_iload C dX2_flow_240 242 rfl 5 rfl ?_
                                refine zv_aload_n C dX2_flow_242 243 rfl 0 rfl ?_
                                refine zv_iload C dX2_flow_243 245 rfl 5 rfl ?_
                                refine zv_aload_n C dX2_flow_245 246 rfl 2 rfl ?_
                                refine zn_callRV (rest := [.int (nI p), .ref (fo + 3)]) C zn_OB (zn_OE hO) (k_X2_winner l D cI cZ cA y hV s pa da p fo e0 (upd e1 p 1) g2 hp2 (fun q hq e => by rw [(hlq q hq e).2.2]; exact hV.nv hq) (fun q hq e => by
                                  obtain ⟨x1, hx1, ex1⟩ := hV.wv hq
                                  obtain ⟨x2, hx2, ex2⟩ := hV.lv hq
                                  rw [(hlq q hq e).1, (hlq q hq e).2.1, ex1, ex2]
                                  exact ⟨m1_lt_nI (by omega), m1_lt_nI (by omega)⟩)) (cwV 2 C.1.2.2.2.2 gX2_flow_X2_winner rfl rfl rfl (by decide +kernel) ⟨Nat.le_of_ble_eq_true rfl, Nat.le_of_ble_eq_true rfl⟩) dX2_flow_246 249 rfl (ci := 2) rfl 4 rfl rfl rfl (Nat.le_of_ble_eq_true rfl) ⟨(by show kc + 17 ≤ 4400; omega), (by show ns + 272 ≤ 70000; omega)⟩ [0, 1, 2] rfl (List.Sublist.cons _ (List.Sublist.refl _)) (fun v hv => ?_)
                                subst hv
                                have h2p : nmd m0 m1 m2 m3 m5 e0 (upd e1 p 1) g2 r p n = (nmS n m0 m1 m2 m3 m5 r) p := by
                                  refine Eq.trans ?_ (hV.ma hp2).2.2.symm
                                  unfold nmd
                                  rw [mN_congr n hlq]
                                refine zv_go rfl rfl (st' := [.int (nmd m0 m1 m2 m3 m5 e0 (upd e1 p 1) g2 r p n), .int (nI p), .ref (fo + 3)]) rfl (kc' := (kc + 17)) rfl (ns' := (ns + 272)) rfl ?_
                                refine zn_iast (x' := (nmd m0 m1 m2 m3 m5 e0 (upd e1 p 1) g2 r p n)) C dX2_flow_249 250 rfl 4 0 p rfl (hAq _ (by omega)) rfl rfl (by omega) (by omega) rfl ((tl, .inl (cZ, n, .inl (upd t p 1))) :: (fo, .inl (cA, 3, aq (fun i => fo + 1 + i))) :: (fo + 1, .inl (cI, n, .inl e0)) :: (fo + 2, .inl (cI, n, .inl (upd e1 p 1))) :: (fo + 3, .inl (cI, n, .inl (upd g2 p (nmd m0 m1 m2 m3 m5 e0 (upd e1 p 1) g2 r p n)))) :: (s 0, .inr (2, [.int r, .int y, .ref (s 1), .ref (s 2)])) :: (s 1, .inl (cA, n, aq pa)) :: (s 2, .inl (cA, b, aq da)) :: (sR cI 6 pa (rP m0 m1 m2 m3 m4 m5) n ++ sR cI 2 da (rB m6 m7) b)) rfl ?_
                                refine zv_iinc (v := (nI (p + 1))) C dX2_flow_250 253 rfl [(5, .int (nI (p + 1))), (0, .ref (s 0)), (1, .int (nI n)), (2, .ref fo), (3, .ref tl), (4, .int (nI k)), (7, .int (nI n))] 5 rfl (nI_1 p) (by decide) rfl ?_
                                refine zv_goto C dX2_flow_253 29 (by decide) ?_
                                refine zv_sub [1, 2, 3, 4, 5, 0] (lv' := [(0, .ref (s 0)), (1, .int (nI n)), (2, .ref fo), (3, .ref tl), (4, .int (nI k)), (5, .int (nI (p + 1)))]) rfl ?_
                                exact ih_PL (p + 1) _ (fun q => decide (q = p) || T q) _ _ _ _ _ (fun i hi => by
                                  by_cases z : i = p
                                  · subst z; rw [upd_at]; simp [zb]
                                  · rw [upd_ne _ _ _ z, ht i hi]; simp [z]) (hF.tell (fun q hq => ⟨(ho q hq).1, (upd_ne _ _ _ hq).trans (ho q hq).2, upd_ne _ _ _ hq⟩) h0p h1p (by rw [upd_at]; exact h2p)) (hFD.step (fun q hq => by simp [hq]) (by simp)) (by omega) (by omega) (by omega) (by omega)
                          ·
                            have hj2 : j < n := zn_le' (by omega) (by omega) cj
                            refine zv_aload_n C dX2_flow_132 133 rfl 0 rfl ?_
                            refine zv_get (ci := 2) C inX2 rfl dX2_flow_133 136 rfl 5 2 rfl (by decide) lk9 rfl ?_
                            refine zv_iload C dX2_flow_136 138 rfl 6 rfl ?_
                            refine zn_aald (r := pa j) C dX2_flow_138 139 rfl 6 2 j rfl rfl rfl (by omega) (by omega) rfl ?_
                            refine zv_iconst (v := 0) C dX2_flow_139 140 rfl (by decide) ?_
                            refine zv_iald (v := (m0 j)) C dX2_flow_140 141 rfl (j + 8) 0 0 (zr_p0 (by omega)) rfl (by decide) (by omega) (by omega) rfl ?_
                            refine zv_iload C dX2_flow_141 143 rfl 5 rfl ?_
                            refine zv_icmp_eq C dX2_flow_143 146 149 rfl (by decide) (fun cw => ?_) (fun cw => ?_)
                            ·
                              have hjp : ¬ j = p := fun z => by subst z; exact hD.ne hn16 hp2 cw
                              obtain ⟨hj0, hj1, hj2v⟩ := (hF j hj2).1 (hrd j hj2 cw)
                              obtain ⟨a1, ha1, ea1⟩ := hb1
                              obtain ⟨c1, hc1, ec1⟩ := hV.lv hj2
                              refine zv_aload_n C dX2_flow_149 150 rfl 2 rfl ?_
                              refine zv_iconst (v := 0) C dX2_flow_150 151 rfl (by decide) ?_
                              refine zn_aald (r := fo + 1) C dX2_flow_151 152 rfl 1 2 0 rfl rfl (by decide) (by omega) (by omega) rfl ?_
                              refine zv_iload C dX2_flow_152 154 rfl 5 rfl ?_
                              refine zv_dup2 C dX2_flow_154 155 rfl rfl rfl ?_
                              refine zv_iald (v := (e0 p)) C dX2_flow_155 156 rfl 2 0 p rfl rfl rfl (by omega) (by omega) rfl ?_
                              refine zv_aload_n C dX2_flow_156 157 rfl 2 rfl ?_
                              refine zv_iconst (v := 0) C dX2_flow_157 158 rfl (by decide) ?_
                              refine zn_aald (r := fo + 1) C dX2_flow_158 159 rfl 1 2 0 rfl rfl (by decide) (by omega) (by omega) rfl ?_
                              refine zv_iload C dX2_flow_159 161 rfl 6 rfl ?_
                              refine zv_iald (v := (e0 j)) C dX2_flow_161 162 rfl 2 0 j rfl rfl rfl (by omega) (by omega) rfl ?_
                              refine zv_iadd (v := (mW m0 g0 (m3 p) p (j + 1))) C dX2_flow_162 163 rfl (by rw [mW_y _ _ _ cw, he0, (ho j hjp).1]) ?_
                              refine zn_iast (x' := (mW m0 g0 (m3 p) p (j + 1))) C dX2_flow_163 164 rfl 2 0 p rfl (hAq _ (by omega)) rfl rfl (by omega) (by omega) rfl ((tl, .inl (cZ, n, .inl (upd t p 1))) :: (fo, .inl (cA, 3, aq (fun i => fo + 1 + i))) :: (fo + 1, .inl (cI, n, .inl (upd e0 p (mW m0 g0 (m3 p) p (j + 1))))) :: (fo + 2, .inl (cI, n, .inl e1)) :: (fo + 3, .inl (cI, n, .inl g2)) :: (s 0, .inr (2, [.int r, .int y, .ref (s 1), .ref (s 2)])) :: (s 1, .inl (cA, n, aq pa)) :: (s 2, .inl (cA, b, aq da)) :: (sR cI 6 pa (rP m0 m1 m2 m3 m4 m5) n ++ sR cI 2 da (rB m6 m7) b)) rfl ?_
                              refine zv_aload_n C dX2_flow_164 165 rfl 2 rfl ?_
                              refine zv_iconst (v := 1) C dX2_flow_165 166 rfl (by decide) ?_
                              refine zn_aald (r := fo + 2) C dX2_flow_166 167 rfl 1 2 1 rfl rfl (by decide) (by omega) (by omega) rfl ?_
                              refine zv_iload C dX2_flow_167 169 rfl 6 rfl ?_
                              refine zv_iald (v := (e1 j)) C dX2_flow_169 170 rfl 3 0 j rfl rfl rfl (by omega) (by omega) rfl ?_
                              refine zv_aload_n C dX2_flow_170 171 rfl 2 rfl ?_
                              refine zv_iconst (v := 1) C dX2_flow_171 172 rfl (by decide) ?_
                              refine zn_aald (r := fo + 2) C dX2_flow_172 173 rfl 1 2 1 rfl rfl (by decide) (by omega) (by omega) rfl ?_
                              refine zv_iload C dX2_flow_173 175 rfl 5 rfl ?_
                              refine zv_iald (v := (e1 p)) C dX2_flow_175 176 rfl 3 0 p rfl rfl rfl (by omega) (by omega) rfl ?_
                              refine zv_icmp_lt C dX2_flow_176 179 206 rfl (by decide) (fun cl => ?_) (fun cl => ?_)
                              ·
                                refine zv_iinc (v := (nI (j + 1))) C dX2_flow_206 209 rfl [(7, .int (nI (j + 1))), (0, .ref (s 0)), (1, .int (nI n)), (2, .ref fo), (3, .ref tl), (4, .int (nI k)), (5, .int (nI p))] 6 rfl (nI_1 j) (by decide) rfl ?_
                                refine zv_goto C dX2_flow_209 126 (by decide) ?_
                                refine zv_sub [1, 2, 3, 4, 5, 6, 0] (lv' := [(0, .ref (s 0)), (1, .int (nI n)), (2, .ref fo), (3, .ref tl), (4, .int (nI k)), (5, .int (nI p)), (7, .int (nI (j + 1)))]) rfl ?_
                                exact ih_SL (j + 1) _ _ (fun q hq => ⟨(upd_ne _ _ _ hq).trans (ho q hq).1, (ho q hq).2⟩) (upd_at _ _ _) (by rw [mL_any, if_pos cw, ← he1, ← (ho j hjp).2, fl_len2 ea1 ((ho j hjp).2.trans (hj1.trans ec1)) (by omega) (by omega) cl]) ⟨a1, ha1, ea1⟩ (by omega) (by omega)
                              ·
                                refine zv_aload_n C dX2_flow_179 180 rfl 2 rfl ?_
                                refine zv_iconst (v := 1) C dX2_flow_180 181 rfl (by decide) ?_
                                refine zn_aald (r := fo + 2) C dX2_flow_181 182 rfl 1 2 1 rfl rfl (by decide) (by omega) (by omega) rfl ?_
                                refine zv_iload C dX2_flow_182 184 rfl 5 rfl ?_
                                refine zv_aload_n C dX2_flow_184 185 rfl 2 rfl ?_
                                refine zv_iconst (v := 1) C dX2_flow_185 186 rfl (by decide) ?_
                                refine zn_aald (r := fo + 2) C dX2_flow_186 187 rfl 1 2 1 rfl rfl (by decide) (by omega) (by omega) rfl ?_
                                refine zv_iload C dX2_flow_187 189 rfl 6 rfl ?_
                                refine zv_iald (v := (e1 j)) C dX2_flow_189 190 rfl 3 0 j rfl rfl rfl (by omega) (by omega) rfl ?_
                                refine zv_if_le C dX2_flow_190 193 204 rfl (by decide) (fun cg => ?_) (fun cg => ?_)
                                ·
                                  refine zv_iconst (v := 0) C dX2_flow_204 205 rfl (by decide) ?_
                                  refine zn_iast (x' := 0) C dX2_flow_205 206 rfl 3 0 p rfl (hAq _ (by omega)) rfl rfl (by omega) (by omega) rfl ((tl, .inl (cZ, n, .inl (upd t p 1))) :: (fo, .inl (cA, 3, aq (fun i => fo + 1 + i))) :: (fo + 1, .inl (cI, n, .inl (upd e0 p (mW m0 g0 (m3 p) p (j + 1))))) :: (fo + 2, .inl (cI, n, .inl (upd e1 p 0))) :: (fo + 3, .inl (cI, n, .inl g2)) :: (s 0, .inr (2, [.int r, .int y, .ref (s 1), .ref (s 2)])) :: (s 1, .inl (cA, n, aq pa)) :: (s 2, .inl (cA, b, aq da)) :: (sR cI 6 pa (rP m0 m1 m2 m3 m4 m5) n ++ sR cI 2 da (rB m6 m7) b)) rfl ?_
                                  refine zv_iinc (v := (nI (j + 1))) C dX2_flow_206 209 rfl [(7, .int (nI (j + 1))), (0, .ref (s 0)), (1, .int (nI n)), (2, .ref fo), (3, .ref tl), (4, .int (nI k)), (5, .int (nI p))] 6 rfl (nI_1 j) (by decide) rfl ?_
                                  refine zv_goto C dX2_flow_209 126 (by decide) ?_
                                  refine zv_sub [1, 2, 3, 4, 5, 6, 0] (lv' := [(0, .ref (s 0)), (1, .int (nI n)), (2, .ref fo), (3, .ref tl), (4, .int (nI k)), (5, .int (nI p)), (7, .int (nI (j + 1)))]) rfl ?_
                                  exact ih_SL (j + 1) _ _ (fun q hq => ⟨(upd_ne _ _ _ hq).trans (ho q hq).1, (upd_ne _ _ _ hq).trans (ho q hq).2⟩) (upd_at _ _ _) (by rw [upd_at, mL_any, if_pos cw, ← he1, ← (ho j hjp).2, fl_len ea1 ((ho j hjp).2.trans (hj1.trans ec1)) (by omega) (by omega) cl, if_neg (Int32.not_lt.mpr cg)]) ⟨0, by omega, upd_at _ _ _⟩ (by omega) (by omega)
                                ·
                                  refine zv_aload_n C dX2_flow_193 194 rfl 2 rfl ?_
                                  refine zv_iconst (v := 1) C dX2_flow_194 195 rfl (by decide) ?_
                                  refine zn_aald (r := fo + 2) C dX2_flow_195 196 rfl 1 2 1 rfl rfl (by decide) (by omega) (by omega) rfl ?_
                                  refine zv_iload C dX2_flow_196 198 rfl 6 rfl ?_
                                  refine zv_iald (v := (e1 j)) C dX2_flow_198 199 rfl 3 0 j rfl rfl rfl (by omega) (by omega) rfl ?_
                                  refine zv_iconst (v := 1) C dX2_flow_199 200 rfl (by decide) ?_
                                  refine zv_iadd (v := ((e1 j) + 1)) C dX2_flow_200 201 rfl rfl ?_
                                  refine zv_goto C dX2_flow_201 205 (by decide) ?_
                                  refine zn_iast (x' := ((e1 j) + 1)) C dX2_flow_205 206 rfl 3 0 p rfl (hAq _ (by omega)) rfl rfl (by omega) (by omega) rfl ((tl, .inl (cZ, n, .inl (upd t p 1))) :: (fo, .inl (cA, 3, aq (fun i => fo + 1 + i))) :: (fo + 1, .inl (cI, n, .inl (upd e0 p (mW m0 g0 (m3 p) p (j + 1))))) :: (fo + 2, .inl (cI, n, .inl (upd e1 p ((e1 j) + 1)))) :: (fo + 3, .inl (cI, n, .inl g2)) :: (s 0, .inr (2, [.int r, .int y, .ref (s 1), .ref (s 2)])) :: (s 1, .inl (cA, n, aq pa)) :: (s 2, .inl (cA, b, aq da)) :: (sR cI 6 pa (rP m0 m1 m2 m3 m4 m5) n ++ sR cI 2 da (rB m6 m7) b)) rfl ?_
                                  refine zv_iinc (v := (nI (j + 1))) C dX2_flow_206 209 rfl [(7, .int (nI (j + 1))), (0, .ref (s 0)), (1, .int (nI n)), (2, .ref fo), (3, .ref tl), (4, .int (nI k)), (5, .int (nI p))] 6 rfl (nI_1 j) (by decide) rfl ?_
                                  refine zv_goto C dX2_flow_209 126 (by decide) ?_
                                  refine zv_sub [1, 2, 3, 4, 5, 6, 0] (lv' := [(0, .ref (s 0)), (1, .int (nI n)), (2, .ref fo), (3, .ref tl), (4, .int (nI k)), (5, .int (nI p)), (7, .int (nI (j + 1)))]) rfl ?_
                                  exact ih_SL (j + 1) _ _ (fun q hq => ⟨(upd_ne _ _ _ hq).trans (ho q hq).1, (upd_ne _ _ _ hq).trans (ho q hq).2⟩) (upd_at _ _ _) (by rw [upd_at, mL_any, if_pos cw, ← he1, ← (ho j hjp).2, fl_len ea1 ((ho j hjp).2.trans (hj1.trans ec1)) (by omega) (by omega) cl, if_pos (Int32.not_le.mp cg)]) ⟨c1 + 1, by omega, by rw [upd_at, (ho j hjp).2, hj1, ec1]; exact nI_1 c1⟩ (by omega) (by omega)
                            ·
                              refine zv_goto C dX2_flow_146 206 (by decide) ?_
                              refine zv_iinc (v := (nI (j + 1))) C dX2_flow_206 209 rfl [(7, .int (nI (j + 1))), (0, .ref (s 0)), (1, .int (nI n)), (2, .ref fo), (3, .ref tl), (4, .int (nI k)), (5, .int (nI p))] 6 rfl (nI_1 j) (by decide) rfl ?_
                              refine zv_goto C dX2_flow_209 126 (by decide) ?_
                              refine zv_sub [1, 2, 3, 4, 5, 6, 0] (lv' := [(0, .ref (s 0)), (1, .int (nI n)), (2, .ref fo), (3, .ref tl), (4, .int (nI k)), (5, .int (nI p)), (7, .int (nI (j + 1)))]) rfl ?_
                              exact ih_SL (j + 1) e0 e1 ho (by rw [mW_n _ _ _ cw]; exact he0) (by rw [mL_n _ _ cw]; exact he1) hb1 (by omega) (by omega)
                      refine zv_go rfl (lv' := [(7, .int (nI 0)), (0, .ref (s 0)), (1, .int (nI n)), (2, .ref fo), (3, .ref tl), (4, .int (nI k)), (5, .int (nI p)), (6, .int (zb (!T p && RD n m0 T p n)))]) rfl rfl rfl rfl ?_
                      refine zv_sub [1, 2, 3, 4, 5, 6, 0] (lv' := [(0, .ref (s 0)), (1, .int (nI n)), (2, .ref fo), (3, .ref tl), (4, .int (nI k)), (5, .int (nI p)), (7, .int (nI 0))]) rfl ?_
                      exact SL (n + 1) 0 _ _ (fun q hq => ⟨upd_ne _ _ _ hq, rfl⟩) (upd_at _ _ _) hgp ⟨0, by omega, hgp⟩ (by omega) (by omega)
                    · -- not yet
                      refine zv_goto C dX2_flow_100 250 (by decide) ?_
                      refine zv_iinc (v := (nI (p + 1))) C dX2_flow_250 253 rfl [(5, .int (nI (p + 1))), (0, .ref (s 0)), (1, .int (nI n)), (2, .ref fo), (3, .ref tl), (4, .int (nI k)), (6, .int (zb (!T p && RD n m0 T p n))), (7, .int (nI n))] 5 rfl (nI_1 p) (by decide) rfl ?_
                      refine zv_goto C dX2_flow_253 29 (by decide) ?_
                      refine zv_sub [1, 2, 3, 4, 5, 0] (lv' := [(0, .ref (s 0)), (1, .int (nI n)), (2, .ref fo), (3, .ref tl), (4, .int (nI k)), (5, .int (nI (p + 1)))]) rfl ?_
                      have hcc := zb_eq0.mp cc
                      exact ih_PL (p + 1) t T g0 g1 g2 kc ns ht hF (fun q hq hz => by
                        by_cases z : q = p
                        · subst z
                          cases hT : T q with
                          | true => rfl
                          | false =>
                            by_cases w : n ≤ d q + k
                            · exact (hFD q hq (Or.inl w)).symm.trans hT |> fun z => by cases z
                            have hr : RD n m0 T q n = true := RD.iff.mpr (fun j hj e => hFD j hj (Or.inl (by have := hD.to hn16 hj hq e; omega)))
                            rw [hT, hr] at hcc
                            cases hcc
                        · exact hFD q hq (by omega)) (by omega) (by omega) (by omega) (by omega)
                  ·
                    have hj2 : j < n := zn_le' (by omega) (by omega) cj
                    refine zv_iload C dX2_flow_58 60 rfl 6 rfl ?_
                    refine zv_aload_n C dX2_flow_60 61 rfl 0 rfl ?_
                    refine zv_get (ci := 2) C inX2 rfl dX2_flow_61 64 rfl 5 2 rfl (by decide) lk9 rfl ?_
                    refine zv_iload C dX2_flow_64 66 rfl 7 rfl ?_
                    refine zn_aald (r := pa j) C dX2_flow_66 67 rfl 6 2 j rfl rfl rfl (by omega) (by omega) rfl ?_
                    refine zv_iconst (v := 0) C dX2_flow_67 68 rfl (by decide) ?_
                    refine zv_iald (v := (m0 j)) C dX2_flow_68 69 rfl (j + 8) 0 0 (zr_p0 (by omega)) rfl (by decide) (by omega) (by omega) rfl ?_
                    refine zv_iload C dX2_flow_69 71 rfl 5 rfl ?_
                    refine zv_icmp_ne C dX2_flow_71 74 81 rfl (by decide) (fun cw => ?_) (fun cw => ?_)
                    ·
                      refine zv_iconst (v := 1) C dX2_flow_81 82 rfl (by decide) ?_
                      refine zv_goto C dX2_flow_82 86 (by decide) ?_
                      refine zv_iand (v := (zb (!T p && RD n m0 T p (j + 1)))) C dX2_flow_86 87 rfl (by rw [RD_s, decide_eq_false cw]; simp; exact zb_and1 _) ?_
                      refine zv_istore C dX2_flow_87 89 rfl [(6, .int (zb (!T p && RD n m0 T p (j + 1)))), (0, .ref (s 0)), (1, .int (nI n)), (2, .ref fo), (3, .ref tl), (4, .int (nI k)), (5, .int (nI p)), (7, .int (nI j))] (by decide) rfl ?_
                      refine zv_iinc (v := (nI (j + 1))) C dX2_flow_89 92 rfl [(7, .int (nI (j + 1))), (6, .int (zb (!T p && RD n m0 T p (j + 1)))), (0, .ref (s 0)), (1, .int (nI n)), (2, .ref fo), (3, .ref tl), (4, .int (nI k)), (5, .int (nI p))] 7 rfl (nI_1 j) (by decide) rfl ?_
                      refine zv_goto C dX2_flow_92 52 (by decide) ?_
                      refine zv_sub [2, 3, 4, 5, 6, 7, 1, 0] (lv' := [(0, .ref (s 0)), (1, .int (nI n)), (2, .ref fo), (3, .ref tl), (4, .int (nI k)), (5, .int (nI p)), (6, .int (zb (!T p && RD n m0 T p (j + 1)))), (7, .int (nI (j + 1)))]) rfl ?_
                      exact ih_QL (j + 1) (by omega) (by omega)
                    ·
                      refine zv_aload_n C dX2_flow_74 75 rfl 3 rfl ?_
                      refine zv_iload C dX2_flow_75 77 rfl 7 rfl ?_
                      refine zv_zald (v := (zb (T j))) C dX2_flow_77 78 rfl 0 1 j rfl rfl rfl (by omega) (by omega) (ht j hj2) ?_
                      refine zv_if_eq C dX2_flow_78 81 85 rfl (by decide) (fun ct2 => ?_) (fun ct2 => ?_)
                      ·
                        refine zv_iconst (v := 0) C dX2_flow_85 86 rfl (by decide) ?_
                        refine zv_iand (v := (zb (!T p && RD n m0 T p (j + 1)))) C dX2_flow_86 87 rfl (by rw [RD_s, decide_eq_true cw, zb_eq0.mp ct2]; simp; first | exact zb_and0 _ | rfl) ?_
                        refine zv_istore C dX2_flow_87 89 rfl [(6, .int (zb (!T p && RD n m0 T p (j + 1)))), (0, .ref (s 0)), (1, .int (nI n)), (2, .ref fo), (3, .ref tl), (4, .int (nI k)), (5, .int (nI p)), (7, .int (nI j))] (by decide) rfl ?_
                        refine zv_iinc (v := (nI (j + 1))) C dX2_flow_89 92 rfl [(7, .int (nI (j + 1))), (6, .int (zb (!T p && RD n m0 T p (j + 1)))), (0, .ref (s 0)), (1, .int (nI n)), (2, .ref fo), (3, .ref tl), (4, .int (nI k)), (5, .int (nI p))] 7 rfl (nI_1 j) (by decide) rfl ?_
                        refine zv_goto C dX2_flow_92 52 (by decide) ?_
                        refine zv_sub [2, 3, 4, 5, 6, 7, 1, 0] (lv' := [(0, .ref (s 0)), (1, .int (nI n)), (2, .ref fo), (3, .ref tl), (4, .int (nI k)), (5, .int (nI p)), (6, .int (zb (!T p && RD n m0 T p (j + 1)))), (7, .int (nI (j + 1)))]) rfl ?_
                        exact ih_QL (j + 1) (by omega) (by omega)
                      ·
                        refine zv_iconst (v := 1) C dX2_flow_81 82 rfl (by decide) ?_
                        refine zv_goto C dX2_flow_82 86 (by decide) ?_
                        refine zv_iand (v := (zb (!T p && RD n m0 T p (j + 1)))) C dX2_flow_86 87 rfl (by rw [RD_s, decide_eq_true cw, zb_ne0.mp ct2]; simp; exact zb_and1 _) ?_
                        refine zv_istore C dX2_flow_87 89 rfl [(6, .int (zb (!T p && RD n m0 T p (j + 1)))), (0, .ref (s 0)), (1, .int (nI n)), (2, .ref fo), (3, .ref tl), (4, .int (nI k)), (5, .int (nI p)), (7, .int (nI j))] (by decide) rfl ?_
                        refine zv_iinc (v := (nI (j + 1))) C dX2_flow_89 92 rfl [(7, .int (nI (j + 1))), (6, .int (zb (!T p && RD n m0 T p (j + 1)))), (0, .ref (s 0)), (1, .int (nI n)), (2, .ref fo), (3, .ref tl), (4, .int (nI k)), (5, .int (nI p))] 7 rfl (nI_1 j) (by decide) rfl ?_
                        refine zv_goto C dX2_flow_92 52 (by decide) ?_
                        refine zv_sub [2, 3, 4, 5, 6, 7, 1, 0] (lv' := [(0, .ref (s 0)), (1, .int (nI n)), (2, .ref fo), (3, .ref tl), (4, .int (nI k)), (5, .int (nI p)), (6, .int (zb (!T p && RD n m0 T p (j + 1)))), (7, .int (nI (j + 1)))]) rfl ?_
                        exact ih_QL (j + 1) (by omega) (by omega)
              refine zv_if_ne C dX2_flow_39 42 46 rfl (by decide) (fun ct => ?_) (fun ct => ?_)
              ·
                refine zv_iconst (v := 0) C dX2_flow_46 47 rfl (by decide) ?_
                refine zv_istore C dX2_flow_47 49 rfl [(6, .int 0), (0, .ref (s 0)), (1, .int (nI n)), (2, .ref fo), (3, .ref tl), (4, .int (nI k)), (5, .int (nI p))] (by decide) rfl ?_
                refine zv_iconst (v := 0) C dX2_flow_49 50 rfl (by decide) ?_
                refine zv_istore C dX2_flow_50 52 rfl [(7, .int 0), (6, .int 0), (0, .ref (s 0)), (1, .int (nI n)), (2, .ref fo), (3, .ref tl), (4, .int (nI k)), (5, .int (nI p))] (by decide) rfl ?_
                refine zv_go rfl (lv' := [(7, .int (nI 0)), (6, .int (zb (!T p && RD n m0 T p 0))), (0, .ref (s 0)), (1, .int (nI n)), (2, .ref fo), (3, .ref tl), (4, .int (nI k)), (5, .int (nI p))]) (by rw [zb_ne0.mp ct]; rfl) rfl rfl rfl ?_
                refine zv_sub [2, 3, 4, 5, 6, 7, 1, 0] (lv' := [(0, .ref (s 0)), (1, .int (nI n)), (2, .ref fo), (3, .ref tl), (4, .int (nI k)), (5, .int (nI p)), (6, .int (zb (!T p && RD n m0 T p 0))), (7, .int (nI 0))]) rfl ?_
                exact QL (n + 1) 0 (by omega) (by omega)
              ·
                refine zv_iconst (v := 1) C dX2_flow_42 43 rfl (by decide) ?_
                refine zv_goto C dX2_flow_43 47 (by decide) ?_
                refine zv_istore C dX2_flow_47 49 rfl [(6, .int 1), (0, .ref (s 0)), (1, .int (nI n)), (2, .ref fo), (3, .ref tl), (4, .int (nI k)), (5, .int (nI p))] (by decide) rfl ?_
                refine zv_iconst (v := 0) C dX2_flow_49 50 rfl (by decide) ?_
                refine zv_istore C dX2_flow_50 52 rfl [(7, .int 0), (6, .int 1), (0, .ref (s 0)), (1, .int (nI n)), (2, .ref fo), (3, .ref tl), (4, .int (nI k)), (5, .int (nI p))] (by decide) rfl ?_
                refine zv_go rfl (lv' := [(7, .int (nI 0)), (6, .int (zb (!T p && RD n m0 T p 0))), (0, .ref (s 0)), (1, .int (nI n)), (2, .ref fo), (3, .ref tl), (4, .int (nI k)), (5, .int (nI p))]) (by rw [zb_eq0.mp ct]; rfl) rfl rfl rfl ?_
                refine zv_sub [2, 3, 4, 5, 6, 7, 1, 0] (lv' := [(0, .ref (s 0)), (1, .int (nI n)), (2, .ref fo), (3, .ref tl), (4, .int (nI k)), (5, .int (nI p)), (6, .int (zb (!T p && RD n m0 T p 0))), (7, .int (nI 0))]) rfl ?_
                exact QL (n + 1) 0 (by omega) (by omega)
        refine zv_iconst (v := 0) C dX2_flow_26 27 rfl (by decide) ?_
        refine zv_istore C dX2_flow_27 29 rfl [(5, .int 0), (0, .ref (s 0)), (1, .int (nI n)), (2, .ref fo), (3, .ref tl), (4, .int (nI k))] (by decide) rfl ?_
        refine zv_go rfl (lv' := [(5, .int (nI 0)), (0, .ref (s 0)), (1, .int (nI n)), (2, .ref fo), (3, .ref tl), (4, .int (nI k))]) rfl rfl rfl rfl ?_
        refine zv_sub [1, 2, 3, 4, 5, 0] (lv' := [(0, .ref (s 0)), (1, .int (nI n)), (2, .ref fo), (3, .ref tl), (4, .int (nI k)), (5, .int (nI 0))]) rfl ?_
        exact PL (n + 1) 0 t T g0 g1 g2 kc ns ht hF hFD (by omega) (by omega) (by omega) (by omega)
  refine zv_go rfl (lv' := [(4, .int (nI 0)), (3, .ref tl), (2, .ref fo), (1, .int (nI n)), (0, .ref (s 0))]) rfl rfl rfl rfl ?_
  refine zv_sub [4, 3, 2, 1, 0] (lv' := [(0, .ref (s 0)), (1, .int (nI n)), (2, .ref fo), (3, .ref tl), (4, .int (nI 0))]) rfl ?_
  exact RL (n + 1) 0 z0 (fun _ => false) z0 z0 z0 _ _ (fun i hi => rfl) (fun q hq => ⟨fun z => (by cases z), fun _ => rfl⟩) (fun q hq hz => by have := (hD q hq).1; omega) (by omega) (by show _ + 272 * (n - 0) ≤ 4400; omega) (by show _ + 4352 * (n - 0) ≤ 70000; omega) (by omega)
abbrev rmX2_names : Room := { frames := 5, cells := 4400, slots := 70000, locals := 160 }
set_option maxHeartbeats 4000000 in
set_option maxRecDepth 100000 in
theorem k_X2_names (l : Launch) (D : va_G) (cI cZ cA : ClassId) {n b : Nat} {r : Int32} (y : Int32) {m0 m1 m2 m3 m4 m5 m6 m7 : Nat → Int32} (hV : LV n b r m0 m1 m2 m3 m4 m5 m6 m7) (s pa da : Nat → Nat) : zv_NE (va_AOA .int) l yX2_names wsX2_names rmX2_names D vwCl (tyS cI cZ cA) [.ref (s 0)] ((s 0, .inr (2, [.int r, .int y, .ref (s 1), .ref (s 2)])) :: (s 1, .inl (cA, n, aq pa)) :: (s 2, .inl (cA, b, aq da)) :: (sR cI 6 pa (rP m0 m1 m2 m3 m4 m5) n ++ sR cI 2 da (rB m6 m7) b)) (fun v w => ∃ (a : Nat) (g : Nat → Int32), v = some (.ref a) ∧ w = [(a, .inl (cI, n, .inl g))] ∧ ∀ q, q < n → g q = (nmS n m0 m1 m2 m3 m5 r) q) := by
  refine zv_NE.of cX2_names 1 (some (.array .int)) (by decide) rfl (Nat.le_of_ble_eq_true rfl) ?_
  intro pP eE sS mM aA bB mT cD A C hr hlk hA hO Q hQ
  have hAq : ∀ q : Nat, sS.heap.size ≤ q → A q := C.2
  refine zv_go (pc' := 0) rfl (lv' := [(0, .ref (s 0))]) rfl rfl rfl rfl ?_
  have hn16 : n ≤ 16 := hV.n16
  have hb16 : b ≤ 16 := hV.b16
  refine zv_aload_n C dX2_names_0 1 rfl 0 rfl ?_
  refine zn_callNV (rest := []) C zn_OB (zn_OE hO) (k_X2_flow l D cI cZ cA y hV s pa da) (cwV 0 C.1.2.2.2.2 gX2_names_X2_flow rfl rfl rfl (by decide +kernel) ⟨Nat.le_of_ble_eq_true rfl, Nat.le_of_ble_eq_true rfl⟩) dX2_names_1 4 rfl (ci := 2) rfl 0 rfl rfl rfl (Nat.le_of_ble_eq_true rfl) ⟨(Nat.le_of_ble_eq_true rfl), (Nat.le_of_ble_eq_true rfl)⟩ [0, 1, 2] rfl (List.Sublist.refl _) (fun _ _ => trivial) (fun v w1 hv hw1 => ?_)
  obtain ⟨fo, g0, g1, g2, rfl, rfl, hg⟩ := hv
  refine zv_wd (ws' := ((fo, .inl (cA, 3, aq (fun i => fo + 1 + i))) :: (fo + 1, .inl (cI, n, .inl g0)) :: (fo + 2, .inl (cI, n, .inl g1)) :: (fo + 3, .inl (cI, n, .inl g2)) :: (s 0, .inr (2, [.int r, .int y, .ref (s 1), .ref (s 2)])) :: (s 1, .inl (cA, n, aq pa)) :: (s 2, .inl (cA, b, aq da)) :: (sR cI 6 pa (rP m0 m1 m2 m3 m4 m5) n ++ sR cI 2 da (rB m6 m7) b))) rfl ?_
  refine zv_go rfl rfl (st' := [.ref fo]) rfl (kc' := 4400) rfl (ns' := 70000) rfl ?_
  refine zv_iconst (v := 2) C dX2_names_4 5 rfl (by decide) ?_
  refine zn_aald (r := fo + 3) C dX2_names_5 6 rfl 0 2 2 rfl rfl (by decide) (by omega) (by omega) rfl ?_
  exact zn_aret C hr (Or.inr ⟨_, rfl⟩) hlk hA hQ dX2_names_6 _ (List.Sublist.cons _ (List.Sublist.cons _ (List.Sublist.cons _ (List.Sublist.cons_cons _ (List.nil_sublist _))))) (fun q hq => by rw [List.mem_singleton] at hq; subst hq; exact hw1 _ (List.mem_cons_of_mem _ (List.mem_cons_of_mem _ (List.mem_cons_of_mem _ List.mem_cons_self)))) ⟨fo + 3, g2, rfl, rfl, fun q hq => (hg q hq).2.2⟩
