/-! ===== the land by hand: years, rows added, a new one ===== -/
theorem r6_u0 (a b c d e f x : Int32) : r6 x b c d e f = upd (r6 a b c d e f) 0 x := funext (fun j => by
  match j with
  | 0 => rfl
  | 1 => rfl
  | 2 => rfl
  | 3 => rfl
  | 4 => rfl
  | 5 => rfl
  | j + 6 => rfl)
theorem r6_u3 (a b c d e f x : Int32) : r6 a b c x e f = upd (r6 a b c d e f) 3 x := funext (fun j => by
  match j with
  | 0 => rfl
  | 1 => rfl
  | 2 => rfl
  | 3 => rfl
  | 4 => rfl
  | 5 => rfl
  | j + 6 => rfl)
theorem r6_u5 (a b c d e f x : Int32) : r6 a b c d e x = upd (r6 a b c d e f) 5 x := funext (fun j => by
  match j with
  | 0 => rfl
  | 1 => rfl
  | 2 => rfl
  | 3 => rfl
  | 4 => rfl
  | 5 => rfl
  | j + 6 => rfl)
theorem clp (v : Int32) : (if v < 0 then 0 else if v ≤ 99 then v else 99) = clamp v := by
  unfold clamp
  by_cases h1 : v < 0
  · have h2 : v < 99 := lt_tr h1 (by decide)
    rw [if_pos h1, if_pos h2, if_neg (fun z => lt_asy z h1)]
  · rw [if_neg h1]
    by_cases h2 : v ≤ 99
    · rw [if_pos h2]
      by_cases h3 : v < 99
      · rw [if_pos h3]
        by_cases h4 : 0 < v
        · rw [if_pos h4]
        · rw [if_neg h4]
          rcases nlt h1 with z | z
          · exact absurd z h4
          · exact z.symm ▸ rfl
      · rw [if_neg h3]
        rcases nlt h3 with z | z
        · exact absurd z (Int32.not_lt.mpr h2)
        · rw [if_pos (by decide)]; exact z.symm
    · rw [if_neg h2, if_neg (fun z => h2 (Int32.le_of_lt z)), if_pos (by decide)]
theorem zn_reQ {D : va_G} {cl : List vw_C} {cA : ClassId} {a N : Nat} {f g : Nat → Option Nat} {ws : va_W} (hfg : ∀ j, j < N → f j = g j) {p : Program} {l : Launch} {e : Env} {R : Room} {s : State} {m : MethodId} {args : Array Value} {below : List Frame} {meth : Method} {c : Code} {Q : State → Prop} {nL : Nat} {A B : Nat → Prop} {tys : List (ClassId × FieldType)} {kc ns pc : Nat} {lv : List (Nat × Value)} {st : List Value} (kk : zv_V p l e R s m args below meth c Q nL D cl A B tys ((a, .inl (cA, N, .inr (.inr (.inr (.inr g))))) :: ws) kc ns pc lv st) : zv_V p l e R s m args below meth c Q nL D cl A B tys ((a, .inl (cA, N, .inr (.inr (.inr (.inr f))))) :: ws) kc ns pc lv st := by
  refine zn_wP (fun H h => zn_P.mpr (fun q hq => ?_)) (fun h => ?_) kk
  · rcases List.mem_cons.mp hq with z | z
    · subst z
      have h1 : H[a]? = some (vp_cell cA (N, .inr (.inr (.inr (.inr f))))) := zn_P.mp h _ List.mem_cons_self
      show H[a]? = some (vp_cell cA (N, .inr (.inr (.inr (.inr g)))))
      rw [h1, vp_cell_q, vp_cell_q]
      exact congrArg some (zn_arr (fun j hj => by rw [hfg j hj]))
    · exact zn_P.mp h q (List.mem_cons_of_mem _ z)
  · have h1 := zn_D.mp h
    refine zn_D.mpr ⟨?_, fun q hq => ?_⟩
    · exact List.pairwise_cons.mpr ⟨(List.pairwise_cons.mp h1.1).1, (List.pairwise_cons.mp h1.1).2⟩
    · rcases List.mem_cons.mp hq with z | z
      · subst z; exact h1.2 (a, .inl (cA, N, .inr (.inr (.inr (.inr f))))) List.mem_cons_self
      · exact h1.2 q (List.mem_cons_of_mem _ z)
abbrev rmX2_pass : Room := { frames := 0, cells := 0, slots := 0, locals := 0 }
set_option maxHeartbeats 4000000 in
set_option maxRecDepth 100000 in
theorem k_X2_pass (l : Launch) (D : va_G) (cI cZ cA : ClassId) {n b : Nat} {r : Int32} (y : Int32) {m0 m1 m2 m3 m4 m5 m6 m7 : Nat → Int32} (hn : n ≤ 16) (hz1 : ∀ i, zo (m1 i)) (s pa da : Nat → Nat) (z : Nat) (hz : z ≤ 50) : zv_M l yX2_pass wsX2_pass rmX2_pass D vwCl (tyS cI cZ cA) [.ref (s 0), .int (nI z)] ((s 0, .inr (2, [.int r, .int y, .ref (s 1), .ref (s 2)])) :: (s 1, .inl (cA, n, aq pa)) :: (s 2, .inl (cA, b, aq da)) :: (sR cI 6 pa (rP m0 m1 m2 m3 m4 m5) n ++ sR cI 2 da (rB m6 m7) b)) (fun v w => v = none ∧ w = cS cI cA s r (y + nI z) n b pa da m0 m1 m2 (swN m1 m3 m4 z) m4 m5 m6 m7) := by
  refine zv_M.of cX2_pass 8 none (by decide) rfl (Nat.le_of_ble_eq_true rfl) ?_
  intro pP eE sS mM aA bB mT cD A C hr hlk hnm Q hQ
  have inX2 : ∀ w ∈ u_ws RX2 TX2 4, w ∈ wsX2_pass := by decide +kernel
  have lk9 : Cond.fieldLink RX2 9 "RiverNamesLaw$Sim" "places" "[[I" ∈ wsX2_pass := by decide +kernel
  have lk23 : Cond.fieldLink RX2 23 "RiverNamesLaw$Sim" "year" "I" ∈ wsX2_pass := by decide +kernel
  refine zv_go (pc' := 0) rfl (lv' := [(0, .ref (s 0)), (1, .int (nI z))]) rfl rfl rfl rfl ?_
  have hn16 : n ≤ 16 := hn
  have OL : ∀ (mu_OL : Nat), ∀ (k : Nat) (e : Nat → Int32), (∀ i, i < n → e i = swN m1 m3 m4 k i) → (k ≤ z) → z - k < mu_OL → zv_V pP l eE rmX2_pass sS mM aA bB mT cD Q 8 D vwCl A A (tyS cI cZ cA) ((s 0, .inr (2, [.int r, .int (y + nI k), .ref (s 1), .ref (s 2)])) :: (s 1, .inl (cA, n, aq pa)) :: (s 2, .inl (cA, b, aq da)) :: (sR cI 6 pa (rP m0 m1 m2 e m4 m5) n ++ sR cI 2 da (rB m6 m7) b)) 0 0 2 [(0, .ref (s 0)), (1, .int (nI z)), (2, .int (nI k))] [] := by
    intro mu_OL
    induction mu_OL with
    | zero => intro k e he hk hmu_OL; exact absurd hmu_OL (Nat.not_lt_zero _)
    | succ mu_OL ih_OL =>
      intro k e he hk hmu_OL
      refine zv_iload_n C dX2_pass_2 3 rfl 2 rfl ?_
      refine zv_iload_n C dX2_pass_3 4 rfl 1 rfl ?_
      refine zv_icmp_ge C dX2_pass_4 7 100 rfl (by decide) (fun ck => ?_) (fun ck => ?_)
      ·
        have e1 : k = z := by have := zn_le (by omega) (by omega) ck; omega
        subst e1
        have hse : sR cI 6 pa (rP m0 m1 m2 e m4 m5) n = sR cI 6 pa (rP m0 m1 m2 (swN m1 m3 m4 k) m4 m5) n := sR_congr (fun j hj => ⟨rfl, by show r6 _ _ _ (e j) _ _ = r6 _ _ _ _ _ _; rw [he j hj]⟩)
        exact zv_vret C hr hlk hQ dX2_pass_100 ⟨rfl, by rw [hse]⟩
      ·
        have hk2 : k < z := zn_le' (by omega) (by omega) ck
        refine zv_aload_n C dX2_pass_7 8 rfl 0 rfl ?_
        refine zv_get (ci := 2) C inX2 rfl dX2_pass_8 11 rfl 0 2 rfl (by decide) lk9 rfl ?_
        refine zv_astore_n C dX2_pass_11 12 rfl [(3, .ref (s 1)), (0, .ref (s 0)), (1, .int (nI z)), (2, .int (nI k))] (by decide) rfl ?_
        refine zv_aload_n C dX2_pass_12 13 rfl 0 rfl ?_
        refine zv_alen (v := (nI n)) C dX2_pass_13 14 rfl 1 2 rfl rfl rfl ?_
        refine zv_istore C dX2_pass_14 16 rfl [(4, .int (nI n)), (3, .ref (s 1)), (0, .ref (s 0)), (1, .int (nI z)), (2, .int (nI k))] (by decide) rfl ?_
        refine zv_iconst (v := 0) C dX2_pass_16 17 rfl (by decide) ?_
        refine zv_istore C dX2_pass_17 19 rfl [(5, .int 0), (4, .int (nI n)), (3, .ref (s 1)), (0, .ref (s 0)), (1, .int (nI z)), (2, .int (nI k))] (by decide) rfl ?_
        have IL : ∀ (mu_IL : Nat), ∀ (j : Nat) (e : Nat → Int32), (∀ i, i < n → i < j → e i = swN m1 m3 m4 (k + 1) i) → (∀ i, i < n → j ≤ i → e i = swN m1 m3 m4 k i) → (j ≤ n) → n - j < mu_IL → zv_V pP l eE rmX2_pass sS mM aA bB mT cD Q 8 D vwCl A A (tyS cI cZ cA) ((s 0, .inr (2, [.int r, .int (y + nI k), .ref (s 1), .ref (s 2)])) :: (s 1, .inl (cA, n, aq pa)) :: (s 2, .inl (cA, b, aq da)) :: (sR cI 6 pa (rP m0 m1 m2 e m4 m5) n ++ sR cI 2 da (rB m6 m7) b)) 0 0 19 [(0, .ref (s 0)), (1, .int (nI z)), (2, .int (nI k)), (3, .ref (s 1)), (4, .int (nI n)), (5, .int (nI j))] [] := by
          intro mu_IL
          induction mu_IL with
          | zero => intro j e he1 he2 hj hmu_IL; exact absurd hmu_IL (Nat.not_lt_zero _)
          | succ mu_IL ih_IL =>
            intro j e he1 he2 hj hmu_IL
            refine zv_iload C dX2_pass_19 21 rfl 5 rfl ?_
            refine zv_iload C dX2_pass_21 23 rfl 4 rfl ?_
            refine zv_icmp_ge C dX2_pass_23 26 84 rfl (by decide) (fun cj => ?_) (fun cj => ?_)
            ·
              have e1 : n = j := by have := zn_le (by omega) (by omega) cj; omega
              subst e1
              refine zv_aload_n C dX2_pass_84 85 rfl 0 rfl ?_
              refine zv_dup C dX2_pass_85 86 rfl rfl ?_
              refine zv_get (ci := 2) C inX2 rfl dX2_pass_86 89 rfl 0 1 rfl (by decide) lk23 rfl ?_
              refine zv_iconst (v := 1) C dX2_pass_89 90 rfl (by decide) ?_
              refine zv_iadd (v := (y + nI (k + 1))) C dX2_pass_90 91 rfl (by rw [Int32.add_assoc, nI_1]) ?_
              refine zv_put (ci := 2) C inX2 rfl tyX2_ok nmX2 dX2_pass_91 94 rfl 0 1 rfl (by decide) lk23 rfl rfl rfl (Nat.le_of_ble_eq_true rfl) ((s 0, .inr (2, [.int r, .int (y + nI (k + 1)), .ref (s 1), .ref (s 2)])) :: (s 1, .inl (cA, n, aq pa)) :: (s 2, .inl (cA, b, aq da)) :: (sR cI 6 pa (rP m0 m1 m2 e m4 m5) n ++ sR cI 2 da (rB m6 m7) b)) rfl ?_
              refine zv_iinc (v := (nI (k + 1))) C dX2_pass_94 97 rfl [(2, .int (nI (k + 1))), (0, .ref (s 0)), (1, .int (nI z)), (3, .ref (s 1)), (4, .int (nI n)), (5, .int (nI n))] 2 rfl (nI_1 k) (by decide) rfl ?_
              refine zv_goto C dX2_pass_97 2 (by decide) ?_
              refine zv_sub [1, 2, 0] (lv' := [(0, .ref (s 0)), (1, .int (nI z)), (2, .int (nI (k + 1)))]) rfl ?_
              exact ih_OL (k + 1) e (fun i hi => he1 i hi hi) (by omega) (by omega)
            ·
              have hj2 : j < n := zn_le' (by omega) (by omega) cj
              refine zv_aload_n C dX2_pass_26 27 rfl 3 rfl ?_
              refine zv_iload C dX2_pass_27 29 rfl 5 rfl ?_
              refine zn_aald (r := pa j) C dX2_pass_29 30 rfl 1 2 j rfl rfl rfl (by omega) (by omega) rfl ?_
              refine zv_astore C dX2_pass_30 32 rfl [(6, .ref (pa j)), (0, .ref (s 0)), (1, .int (nI z)), (2, .int (nI k)), (3, .ref (s 1)), (4, .int (nI n)), (5, .int (nI j))] (by decide) rfl ?_
              refine zv_aload C dX2_pass_32 34 rfl 0 rfl ?_
              refine zv_iconst (v := 3) C dX2_pass_34 35 rfl (by decide) ?_
              refine zv_iald (v := (e j)) C dX2_pass_35 36 rfl (j + 3) 0 3 (zr_p0 (by omega)) rfl (by decide) (by omega) (by omega) rfl ?_
              refine zv_aload C dX2_pass_36 38 rfl 0 rfl ?_
              refine zv_iconst (v := 4) C dX2_pass_38 39 rfl (by decide) ?_
              refine zv_iald (v := (m4 j)) C dX2_pass_39 40 rfl (j + 3) 0 4 (zr_p0 (by omega)) rfl (by decide) (by omega) (by omega) rfl ?_
              refine zv_iadd (v := ((e j) + (m4 j))) C dX2_pass_40 41 rfl rfl ?_
              refine zv_istore C dX2_pass_41 43 rfl [(7, .int ((e j) + (m4 j))), (6, .ref (pa j)), (0, .ref (s 0)), (1, .int (nI z)), (2, .int (nI k)), (3, .ref (s 1)), (4, .int (nI n)), (5, .int (nI j))] (by decide) rfl ?_
              refine zv_aload C dX2_pass_43 45 rfl 1 rfl ?_
              refine zv_iconst (v := 1) C dX2_pass_45 46 rfl (by decide) ?_
              refine zv_iald (v := (m1 j)) C dX2_pass_46 47 rfl (j + 3) 0 1 (zr_p0 (by omega)) rfl (by decide) (by omega) (by omega) rfl ?_
              refine zv_iconst (v := 1) C dX2_pass_47 48 rfl (by decide) ?_
              refine zv_icmp_ne C dX2_pass_48 51 78 rfl (by decide) (fun cs => ?_) (fun cs => ?_)
              ·
                refine zv_iinc (v := (nI (j + 1))) C dX2_pass_78 81 rfl [(5, .int (nI (j + 1))), (7, .int ((e j) + (m4 j))), (6, .ref (pa j)), (0, .ref (s 0)), (1, .int (nI z)), (2, .int (nI k)), (3, .ref (s 1)), (4, .int (nI n))] 7 rfl (nI_1 j) (by decide) rfl ?_
                refine zv_goto C dX2_pass_81 19 (by decide) ?_
                refine zv_sub [3, 4, 5, 6, 7, 0] (lv' := [(0, .ref (s 0)), (1, .int (nI z)), (2, .int (nI k)), (3, .ref (s 1)), (4, .int (nI n)), (5, .int (nI (j + 1)))]) rfl ?_
                exact ih_IL (j + 1) e (fun i hi hij => by
                  by_cases w : i = j
                  · subst w
                    rw [he2 i hi (Nat.le_refl _)]
                    show _ = swl m1 (swN m1 m3 m4 k) m4 i
                    unfold swl
                    rw [if_pos ((hz1 i).resolve_right cs)]
                  · exact he1 i hi (by omega)) (fun i hi hij => he2 i hi (by omega)) (by omega) (by omega)
              ·
                have hm1 : ¬ m1 j = 0 := fun q => by rw [q] at cs; exact absurd cs (by decide)
                refine zv_aload C dX2_pass_51 53 rfl 1 rfl ?_
                refine zv_iconst (v := 3) C dX2_pass_53 54 rfl (by decide) ?_
                refine zv_iload C dX2_pass_54 56 rfl 0 rfl ?_
                refine zv_if_ge C dX2_pass_56 59 63 rfl (by decide) (fun c0 => ?_) (fun c0 => ?_)
                · -- not below 0
                  refine zv_iload C dX2_pass_63 65 rfl 0 rfl ?_
                  refine zv_bipush (v := 99) C dX2_pass_65 67 rfl (by decide) ?_
                  refine zv_icmp_le C dX2_pass_67 70 75 rfl (by decide) (fun c9 => ?_) (fun c9 => ?_)
                  ·
                    refine zv_iload C dX2_pass_75 77 rfl 0 rfl ?_
                    refine zv_iast (x' := (e j + m4 j)) C dX2_pass_77 78 rfl (j + 3) 0 3 (zr_p0 (by omega)) rfl (by decide) (by omega) (by omega) rfl ((s 0, .inr (2, [.int r, .int (y + nI k), .ref (s 1), .ref (s 2)])) :: (s 1, .inl (cA, n, aq pa)) :: (s 2, .inl (cA, b, aq da)) :: (sR cI 6 pa (rP m0 m1 m2 (upd e j (e j + m4 j)) m4 m5) n ++ sR cI 2 da (rB m6 m7) b)) (congrArg (List.cons _) (congrArg (List.cons _) (congrArg (List.cons _) (zr_set0 (G := rP m0 m1 m2 (upd e j (e j + m4 j)) m4 m5) (by omega) (by show r6 (m0 j) (m1 j) (m2 j) ((upd e j (e j + m4 j)) j) (m4 j) (m5 j) = _; rw [upd_at]; exact r6_u3 _ _ _ _ _ _ _) (fun j9 _ h9 => by show r6 (m0 j9) (m1 j9) (m2 j9) ((upd e j (e j + m4 j)) j9) (m4 j9) (m5 j9) = r6 (m0 j9) (m1 j9) (m2 j9) (e j9) (m4 j9) (m5 j9); rw [upd_ne _ _ _ h9]))))) ?_
                    refine zv_iinc (v := (nI (j + 1))) C dX2_pass_78 81 rfl [(5, .int (nI (j + 1))), (7, .int ((e j) + (m4 j))), (6, .ref (pa j)), (0, .ref (s 0)), (1, .int (nI z)), (2, .int (nI k)), (3, .ref (s 1)), (4, .int (nI n))] 7 rfl (nI_1 j) (by decide) rfl ?_
                    refine zv_goto C dX2_pass_81 19 (by decide) ?_
                    refine zv_sub [3, 4, 5, 6, 7, 0] (lv' := [(0, .ref (s 0)), (1, .int (nI z)), (2, .int (nI k)), (3, .ref (s 1)), (4, .int (nI n)), (5, .int (nI (j + 1)))]) rfl ?_
                    exact ih_IL (j + 1) (upd e j (e j + m4 j)) (fun i hi hij => by
                      by_cases w : i = j
                      · subst w
                        rw [upd_at]
                        show _ = swl m1 (swN m1 m3 m4 k) m4 i
                        unfold swl
                        rw [if_neg hm1, ← he2 i hi (Nat.le_refl _), ← clp, if_neg (Int32.not_lt.mpr c0), if_pos c9]
                      · rw [upd_ne _ _ _ w]; exact he1 i hi (by omega)) (fun i hi hij => by rw [upd_ne _ _ _ (by omega)]; exact he2 i hi (by omega)) (by omega) (by omega)
                  ·
                    refine zv_bipush (v := 99) C dX2_pass_70 72 rfl (by decide) ?_
                    refine zv_goto C dX2_pass_72 77 (by decide) ?_
                    refine zv_iast (x' := 99) C dX2_pass_77 78 rfl (j + 3) 0 3 (zr_p0 (by omega)) rfl (by decide) (by omega) (by omega) rfl ((s 0, .inr (2, [.int r, .int (y + nI k), .ref (s 1), .ref (s 2)])) :: (s 1, .inl (cA, n, aq pa)) :: (s 2, .inl (cA, b, aq da)) :: (sR cI 6 pa (rP m0 m1 m2 (upd e j 99) m4 m5) n ++ sR cI 2 da (rB m6 m7) b)) (congrArg (List.cons _) (congrArg (List.cons _) (congrArg (List.cons _) (zr_set0 (G := rP m0 m1 m2 (upd e j 99) m4 m5) (by omega) (by show r6 (m0 j) (m1 j) (m2 j) ((upd e j 99) j) (m4 j) (m5 j) = _; rw [upd_at]; exact r6_u3 _ _ _ _ _ _ _) (fun j9 _ h9 => by show r6 (m0 j9) (m1 j9) (m2 j9) ((upd e j 99) j9) (m4 j9) (m5 j9) = r6 (m0 j9) (m1 j9) (m2 j9) (e j9) (m4 j9) (m5 j9); rw [upd_ne _ _ _ h9]))))) ?_
                    refine zv_iinc (v := (nI (j + 1))) C dX2_pass_78 81 rfl [(5, .int (nI (j + 1))), (7, .int ((e j) + (m4 j))), (6, .ref (pa j)), (0, .ref (s 0)), (1, .int (nI z)), (2, .int (nI k)), (3, .ref (s 1)), (4, .int (nI n))] 7 rfl (nI_1 j) (by decide) rfl ?_
                    refine zv_goto C dX2_pass_81 19 (by decide) ?_
                    refine zv_sub [3, 4, 5, 6, 7, 0] (lv' := [(0, .ref (s 0)), (1, .int (nI z)), (2, .int (nI k)), (3, .ref (s 1)), (4, .int (nI n)), (5, .int (nI (j + 1)))]) rfl ?_
                    exact ih_IL (j + 1) (upd e j 99) (fun i hi hij => by
                      by_cases w : i = j
                      · subst w
                        rw [upd_at]
                        show _ = swl m1 (swN m1 m3 m4 k) m4 i
                        unfold swl
                        rw [if_neg hm1, ← he2 i hi (Nat.le_refl _), ← clp, if_neg (Int32.not_lt.mpr c0), if_neg c9]
                      · rw [upd_ne _ _ _ w]; exact he1 i hi (by omega)) (fun i hi hij => by rw [upd_ne _ _ _ (by omega)]; exact he2 i hi (by omega)) (by omega) (by omega)
                ·
                  refine zv_iconst (v := 0) C dX2_pass_59 60 rfl (by decide) ?_
                  refine zv_goto C dX2_pass_60 77 (by decide) ?_
                  refine zv_iast (x' := 0) C dX2_pass_77 78 rfl (j + 3) 0 3 (zr_p0 (by omega)) rfl (by decide) (by omega) (by omega) rfl ((s 0, .inr (2, [.int r, .int (y + nI k), .ref (s 1), .ref (s 2)])) :: (s 1, .inl (cA, n, aq pa)) :: (s 2, .inl (cA, b, aq da)) :: (sR cI 6 pa (rP m0 m1 m2 (upd e j 0) m4 m5) n ++ sR cI 2 da (rB m6 m7) b)) (congrArg (List.cons _) (congrArg (List.cons _) (congrArg (List.cons _) (zr_set0 (G := rP m0 m1 m2 (upd e j 0) m4 m5) (by omega) (by show r6 (m0 j) (m1 j) (m2 j) ((upd e j 0) j) (m4 j) (m5 j) = _; rw [upd_at]; exact r6_u3 _ _ _ _ _ _ _) (fun j9 _ h9 => by show r6 (m0 j9) (m1 j9) (m2 j9) ((upd e j 0) j9) (m4 j9) (m5 j9) = r6 (m0 j9) (m1 j9) (m2 j9) (e j9) (m4 j9) (m5 j9); rw [upd_ne _ _ _ h9]))))) ?_
                  refine zv_iinc (v := (nI (j + 1))) C dX2_pass_78 81 rfl [(5, .int (nI (j + 1))), (7, .int ((e j) + (m4 j))), (6, .ref (pa j)), (0, .ref (s 0)), (1, .int (nI z)), (2, .int (nI k)), (3, .ref (s 1)), (4, .int (nI n))] 7 rfl (nI_1 j) (by decide) rfl ?_
                  refine zv_goto C dX2_pass_81 19 (by decide) ?_
                  refine zv_sub [3, 4, 5, 6, 7, 0] (lv' := [(0, .ref (s 0)), (1, .int (nI z)), (2, .int (nI k)), (3, .ref (s 1)), (4, .int (nI n)), (5, .int (nI (j + 1)))]) rfl ?_
                  exact ih_IL (j + 1) (upd e j 0) (fun i hi hij => by
                    by_cases w : i = j
                    · subst w
                      rw [upd_at]
                      show _ = swl m1 (swN m1 m3 m4 k) m4 i
                      unfold swl
                      rw [if_neg hm1, ← he2 i hi (Nat.le_refl _), ← clp, if_pos (Int32.not_le.mp c0)]
                    · rw [upd_ne _ _ _ w]; exact he1 i hi (by omega)) (fun i hi hij => by rw [upd_ne _ _ _ (by omega)]; exact he2 i hi (by omega)) (by omega) (by omega)
        refine zv_go rfl (lv' := [(5, .int (nI 0)), (4, .int (nI n)), (3, .ref (s 1)), (0, .ref (s 0)), (1, .int (nI z)), (2, .int (nI k))]) rfl rfl rfl rfl ?_
        refine zv_sub [3, 4, 5, 2, 1, 0] (lv' := [(0, .ref (s 0)), (1, .int (nI z)), (2, .int (nI k)), (3, .ref (s 1)), (4, .int (nI n)), (5, .int (nI 0))]) rfl ?_
        exact IL (n + 1) 0 e (fun i hi h => absurd h (Nat.not_lt_zero i)) (fun i hi _ => he i hi) (by omega) (by omega)
  refine zv_iconst (v := 0) C dX2_pass_0 1 rfl (by decide) ?_
  refine zv_istore_n C dX2_pass_1 2 rfl [(2, .int 0), (0, .ref (s 0)), (1, .int (nI z))] (by decide) rfl ?_
  refine zv_go rfl (lv' := [(2, .int (nI 0)), (0, .ref (s 0)), (1, .int (nI z))]) rfl rfl rfl rfl ?_
  refine zv_wd (ws' := ((s 0, .inr (2, [.int r, .int (y + nI 0), .ref (s 1), .ref (s 2)])) :: (s 1, .inl (cA, n, aq pa)) :: (s 2, .inl (cA, b, aq da)) :: (sR cI 6 pa (rP m0 m1 m2 m3 m4 m5) n ++ sR cI 2 da (rB m6 m7) b))) (by rw [show y + nI 0 = y from Int32.add_zero y]) ?_
  refine zv_sub [1, 2, 0] (lv' := [(0, .ref (s 0)), (1, .int (nI z)), (2, .int (nI 0))]) rfl ?_
  exact OL (z + 1) 0 m3 (fun i hi => rfl) (by omega) (by omega)
abbrev rmX2_with : Room := { frames := 0, cells := 1, slots := 17, locals := 0 }
set_option maxHeartbeats 4000000 in
set_option maxRecDepth 100000 in
theorem k_X2_with (l : Launch) (D : va_G) (cI cZ cA : ClassId) (n kk la ra : Nat) (hn : n ≤ 16) (pa : Nat → Nat) (F : Nat → Nat → Int32) (fl : Nat → Int32) : zv_NE (va_AOA .int) l yX2_with wsX2_with rmX2_with D vwCl (tyS cI cZ cA) [.ref ra, .ref la] ((la, .inl (cI, kk, .inl fl)) :: (ra, .inl (cA, n, aq pa)) :: sR cI kk pa F n) (fun v w => ∃ a : Nat, v = some (.ref a) ∧ w = [(a, .inl (cA, n + 1, aq (fun i => if i = n then la else pa i)))]) := by
  refine zv_NE.of cX2_with 4 (some (.array (.array .int))) (by decide) rfl (Nat.le_of_ble_eq_true rfl) ?_
  intro pP eE sS mM aA bB mT cD A C hr hlk hA hO Q hQ
  have hAq : ∀ q : Nat, sS.heap.size ≤ q → A q := C.2
  have cl7 : Cond.classLink RX2 7 "[I" ∈ wsX2_with := by decide +kernel
  refine zv_go (pc' := 0) rfl (lv' := [(0, .ref ra), (1, .ref la)]) rfl rfl rfl rfl ?_
  have hn16 : n ≤ 16 := hn
  refine zv_aload_n C dX2_with_0 1 rfl 0 rfl ?_
  refine zv_alen (v := (nI n)) C dX2_with_1 2 rfl 1 2 rfl rfl rfl ?_
  refine zv_iconst (v := 1) C dX2_with_2 3 rfl (by decide) ?_
  refine zv_iadd (v := (nI (n + 1))) C dX2_with_3 4 rfl (nI_1 n) ?_
  refine zn_anew C (fun _ _ => trivial) hO cl7 dX2_with_4 7 rfl (N' := n + 1) 2 rfl (nI_nneg (by omega)) (nI_clamp (by omega)) (by omega) (by show 0 + 1 ≤ 1; omega) (by show 0 + (n + 1) ≤ 17; omega) (fun na fr_na => ?_)
  refine zv_go rfl rfl rfl (kc' := 1) rfl (ns' := 0 + (n + 1)) rfl ?_
  refine zv_wd (ws' := ((na, .inl (cA, (n + 1), .inr (.inr (.inr (.inr (fun _ => none)))))) :: (la, .inl (cI, kk, .inl fl)) :: (ra, .inl (cA, n, aq pa)) :: sR cI kk pa F n)) rfl ?_
  refine zv_astore_n C dX2_with_7 8 rfl [(2, .ref na), (0, .ref ra), (1, .ref la)] (by decide) rfl ?_
  refine zv_iconst (v := 0) C dX2_with_8 9 rfl (by decide) ?_
  refine zv_istore_n C dX2_with_9 10 rfl [(3, .int 0), (2, .ref na), (0, .ref ra), (1, .ref la)] (by decide) rfl ?_
  have WL : ∀ (mu_WL : Nat), ∀ (k : Nat) (f : Nat → Option Nat), (∀ i, i < k → f i = some (pa i)) → (k ≤ n) → n - k < mu_WL → zv_V pP l eE rmX2_with sS mM aA bB mT cD Q 4 D vwCl A (fun _ => True) (tyS cI cZ cA) ((na, .inl (cA, (n + 1), .inr (.inr (.inr (.inr f))))) :: (la, .inl (cI, kk, .inl fl)) :: (ra, .inl (cA, n, aq pa)) :: sR cI kk pa F n) 1 (0 + (n + 1)) 10 [(0, .ref ra), (1, .ref la), (2, .ref na), (3, .int (nI k))] [] := by
    intro mu_WL
    induction mu_WL with
    | zero => intro k f hf hk hmu_WL; exact absurd hmu_WL (Nat.not_lt_zero _)
    | succ mu_WL ih_WL =>
      intro k f hf hk hmu_WL
      refine zv_iload_n C dX2_with_10 11 rfl 3 rfl ?_
      refine zv_aload_n C dX2_with_11 12 rfl 0 rfl ?_
      refine zv_alen (v := (nI n)) C dX2_with_12 13 rfl 2 2 rfl rfl rfl ?_
      refine zv_icmp_ge C dX2_with_13 16 28 rfl (by decide) (fun ck => ?_) (fun ck => ?_)
      ·
        have e1 : n = k := by have := zn_le (by omega) (by omega) ck; omega
        subst e1
        refine zv_aload_n C dX2_with_28 29 rfl 2 rfl ?_
        refine zv_aload_n C dX2_with_29 30 rfl 0 rfl ?_
        refine zv_alen (v := (nI n)) C dX2_with_30 31 rfl 2 2 rfl rfl rfl ?_
        refine zv_aload_n C dX2_with_31 32 rfl 1 rfl ?_
        refine zn_aast C hO dX2_with_32 33 rfl 0 2 1 0 n rfl (hAq na fr_na) rfl rfl rfl rfl (by omega) (by omega) ((na, .inl (cA, (n + 1), .inr (.inr (.inr (.inr (fun z => if z = n then some la else f z)))))) :: (la, .inl (cI, kk, .inl fl)) :: (ra, .inl (cA, n, aq pa)) :: sR cI kk pa F n) rfl ?_
        refine zv_aload_n C dX2_with_33 34 rfl 2 rfl ?_
        refine zv_widen (k' := 1) (n' := 17) (by omega) (by omega) ?_
        refine zn_reQ (g := fun i => some (if i = n then la else pa i)) (fun j hj => ?_) ?_
        · by_cases w : j = n
          · simp [w]
          · simp only [w, if_false]; exact hf j (by omega)
        exact zn_aret C hr (Or.inr ⟨_, rfl⟩) hlk hA hQ dX2_with_34 _ (List.Sublist.cons_cons _ (List.nil_sublist _)) (fun q hq => by rw [List.mem_singleton] at hq; subst hq; exact fr_na) ⟨na, rfl, rfl⟩
      ·
        have hk2 : k < n := zn_le' (by omega) (by omega) ck
        refine zv_aload_n C dX2_with_16 17 rfl 2 rfl ?_
        refine zv_iload_n C dX2_with_17 18 rfl 3 rfl ?_
        refine zv_aload_n C dX2_with_18 19 rfl 0 rfl ?_
        refine zv_iload_n C dX2_with_19 20 rfl 3 rfl ?_
        refine zn_aald (r := pa k) C dX2_with_20 21 rfl 2 2 k rfl rfl rfl (by omega) (by omega) rfl ?_
        refine zn_aast C hO dX2_with_21 22 rfl 0 2 (k + 3) 0 k rfl (hAq na fr_na) rfl (sR_at hk2) rfl rfl (by omega) (by omega) ((na, .inl (cA, (n + 1), .inr (.inr (.inr (.inr (fun z => if z = k then some (pa k) else f z)))))) :: (la, .inl (cI, kk, .inl fl)) :: (ra, .inl (cA, n, aq pa)) :: sR cI kk pa F n) rfl ?_
        refine zv_iinc (v := (nI (k + 1))) C dX2_with_22 25 rfl [(3, .int (nI (k + 1))), (0, .ref ra), (1, .ref la), (2, .ref na)] 3 rfl (nI_1 k) (by decide) rfl ?_
        refine zv_goto C dX2_with_25 10 (by decide) ?_
        refine zv_sub [1, 2, 3, 0] (lv' := [(0, .ref ra), (1, .ref la), (2, .ref na), (3, .int (nI (k + 1)))]) rfl ?_
        exact ih_WL (k + 1) _ (fun i hi => by
          by_cases w : i = k
          · simp [w]
          · simp only [w, if_false]; exact hf i (by omega)) (by omega) (by omega)
  refine zv_go rfl (lv' := [(3, .int (nI 0)), (2, .ref na), (0, .ref ra), (1, .ref la)]) rfl rfl rfl rfl ?_
  refine zv_sub [2, 3, 1, 0] (lv' := [(0, .ref ra), (1, .ref la), (2, .ref na), (3, .int (nI 0))]) rfl ?_
  exact WL (n + 1) 0 _ (fun i hi => absurd hi (Nat.not_lt_zero i)) (by omega) (by omega)
abbrev dfX2 : List Value := [.int 0, .int 0, .null, .null]
theorem dfX2_ok : ∀ j, j < 4 → defaultValue (tyX2 j) = vp_V dfX2 j := by decide +kernel
abbrev rmX2_init : Room := { frames := 1, cells := 2, slots := 0, locals := 40 }
set_option maxHeartbeats 4000000 in
set_option maxRecDepth 100000 in
theorem k_X2_init (l : Launch) (D : va_G) (cI cZ cA : ClassId) (q0 : Nat) : zv_ME (va_AOA .int) l yX2_init wsX2_init rmX2_init D vwCl (tyS cI cZ cA) [.ref q0] [(q0, .inr (2, [.int 0, .int 0, .null, .null]))] (fun v w => ∃ s : Nat → Nat, s 0 = q0 ∧ v = none ∧ w = cS cI cA s 0 0 0 0 (fun _ => 0) (fun _ => 0) z0 z0 z0 z0 z0 z0 z0 z0) := by
  refine zv_ME.of cX2_init 1 none (by decide) rfl (Nat.le_of_ble_eq_true rfl) ?_
  intro pP eE sS mM aA bB mT cD A C hr hlk hnm hAw hO Q hQ
  have lo : Cond.methodLink RX2 1 Lib.objectInit ∈ wsX2_init := by decide +kernel
  have io : Cond.instanceMethod Lib.objectInit ∈ wsX2_init := by decide +kernel
  have co : Cond.code Lib.objectInit ⟨#[0xb1]⟩ 1 none ∈ wsX2_init := by decide +kernel
  have cl7 : Cond.classLink RX2 7 "[I" ∈ wsX2_init := by decide +kernel
  have inX2 : ∀ w ∈ u_ws RX2 TX2 4, w ∈ wsX2_init := by decide +kernel
  have lk9 : Cond.fieldLink RX2 9 "RiverNamesLaw$Sim" "places" "[[I" ∈ wsX2_init := by decide +kernel
  have lk15 : Cond.fieldLink RX2 15 "RiverNamesLaw$Sim" "bridges" "[[I" ∈ wsX2_init := by decide +kernel
  refine zv_go (pc' := 0) rfl (lv' := [(0, .ref q0)]) rfl rfl rfl rfl ?_
  refine zv_aload_n C dX2_init_0 1 rfl 0 rfl ?_
  refine zv_oinit C dX2_init_1 4 rfl lo io co (Nat.le_of_ble_eq_true rfl) (by decide) ?_
  refine zv_aload_n C dX2_init_4 5 rfl 0 rfl ?_
  refine zv_iconst (v := 0) C dX2_init_5 6 rfl (by decide) ?_
  refine zn_anew C C.2 hO cl7 dX2_init_6 9 rfl (N' := 0) 2 rfl (by decide) (by decide) (by decide) (by decide) (by decide) (fun qp fr_qp => ?_)
  refine zv_go rfl rfl (st' := [.ref qp, .ref q0]) rfl (kc' := 1) rfl (ns' := 0) rfl ?_
  refine zv_wd (ws' := [(qp, .inl (cA, 0, .inr (.inr (.inr (.inr (fun _ => none)))))), (q0, .inr (2, [.int 0, .int 0, .null, .null]))]) rfl ?_
  refine zv_put (ci := 2) C inX2 rfl tyX2_ok nmX2 dX2_init_9 12 rfl 1 2 rfl (by decide) lk9 rfl rfl rfl (Nat.le_of_ble_eq_true rfl) [(qp, .inl (cA, 0, .inr (.inr (.inr (.inr (fun _ => none)))))), (q0, .inr (2, [.int 0, .int 0, .ref qp, .null]))] rfl ?_
  refine zv_aload_n C dX2_init_12 13 rfl 0 rfl ?_
  refine zv_iconst (v := 0) C dX2_init_13 14 rfl (by decide) ?_
  refine zn_anew C C.2 hO cl7 dX2_init_14 17 rfl (N' := 0) 2 rfl (by decide) (by decide) (by decide) (by decide) (by decide) (fun qb fr_qb => ?_)
  refine zv_go rfl rfl (st' := [.ref qb, .ref q0]) rfl (kc' := 2) rfl (ns' := 0) rfl ?_
  refine zv_wd (ws' := [(qb, .inl (cA, 0, .inr (.inr (.inr (.inr (fun _ => none)))))), (qp, .inl (cA, 0, .inr (.inr (.inr (.inr (fun _ => none)))))), (q0, .inr (2, [.int 0, .int 0, .ref qp, .null]))]) rfl ?_
  refine zv_put (ci := 2) C inX2 rfl tyX2_ok nmX2 dX2_init_17 20 rfl 2 3 rfl (by decide) lk15 rfl rfl rfl (Nat.le_of_ble_eq_true rfl) [(qb, .inl (cA, 0, .inr (.inr (.inr (.inr (fun _ => none)))))), (qp, .inl (cA, 0, .inr (.inr (.inr (.inr (fun _ => none)))))), (q0, .inr (2, [.int 0, .int 0, .ref qp, .ref qb]))] rfl ?_
  refine zn_reQ (g := fun i => some ((fun _ => 0 : Nat → Nat) i)) (fun j hj => absurd hj (Nat.not_lt_zero j)) ?_
  refine zn_perm (List.Perm.swap _ _ _) ?_
  refine zn_reQ (g := fun i => some ((fun _ => 0 : Nat → Nat) i)) (fun j hj => absurd hj (Nat.not_lt_zero j)) ?_
  refine zn_perm (ws' := [(q0, .inr (2, [.int 0, .int 0, .ref qp, .ref qb])), (qp, .inl (cA, 0, aq (fun _ => 0))), (qb, .inl (cA, 0, aq (fun _ => 0)))]) (((List.Perm.swap _ _ _).cons _).trans (List.Perm.swap _ _ _)) ?_
  exact zv_vret C hr hlk hQ dX2_init_20 ⟨ad3 q0 qp qb, rfl, rfl, rfl⟩
abbrev rmL_names : Room := { frames := 3, cells := 1, slots := 16, locals := 80 }
set_option maxHeartbeats 4000000 in
set_option maxRecDepth 100000 in
theorem k_L_names (l : Launch) (D : va_G) (cI cZ cA : ClassId) {a n b : Nat} {r y : Int32} {m0 m1 m2 m3 m4 m5 m6 m7 : Nat → Int32} {w : va_W} (hR : zR cI cZ a n b r y m0 m1 m2 m3 m4 m5 m6 m7 w) : zv_NE (fun _ => True) l yL_names wsL_names rmL_names D vwCl (tyS cI cZ cA) [.ref a] (w) (fun v w => ∃ (na : Nat) (g : Nat → Int32), v = some (.ref na) ∧ w = [(na, .inl (cI, n, .inl g))] ∧ ∀ i, i < n → g i = nmS n m0 m1 m2 m3 m5 r i) := by
  refine zv_NE.of cL_names 3 (some (.array .int)) (by decide) rfl (Nat.le_of_ble_eq_true rfl) ?_
  intro pP eE sS mM aA bB mT cD A C hr hlk hA hO Q hQ
  have hAq : ∀ q : Nat, sS.heap.size ≤ q → A q := C.2
  have arint : Cond.arrayClass .int ∈ wsL_names := by decide +kernel
  refine zv_go (pc' := 0) rfl (lv' := [(0, .ref a)]) rfl rfl rfl rfl ?_
  have hn16 : n ≤ 16 := hR.lv.n16
  obtain ⟨fs, hrc⟩ := hR.recv
  refine zv_aload_n C dL_names_0 1 rfl 0 rfl ?_
  refine zn_callRV (rest := []) C zn_TB zn_TE (zn_ofR (w_places l D hR)) (cwV 0 C.1.2.2.2.2 gL_names_X1_places rfl rfl rfl (by decide +kernel) ⟨Nat.le_of_ble_eq_true rfl, Nat.le_of_ble_eq_true rfl⟩) dL_names_1 4 rfl (ci := 1) rfl 0 hrc rfl rfl (Nat.le_of_ble_eq_true rfl) ⟨(Nat.le_of_ble_eq_true rfl), (Nat.le_of_ble_eq_true rfl)⟩ [0, 1] rfl (List.Sublist.refl _) (fun v hv => ?_)
  subst hv
  refine zv_go rfl rfl (st' := [.int (nI n)]) rfl (kc' := 0) rfl (ns' := 0) rfl ?_
  refine zn_newa (atype := .int) C (fun _ _ => trivial) arint rfl dL_names_4 6 rfl (N' := n) (a0 := (n, .inl z0)) (fun cA => rfl) 0 rfl (fun h => h) (nI_nneg (by omega)) (nI_clamp (by omega)) (by show n * 4 ≤ _; omega) (by show 0 + 1 ≤ 1; omega) (by show 0 + n ≤ 16; omega) (fun na fr_na => ?_)
  refine zv_go rfl rfl (st' := [.ref na]) rfl (kc' := 1) rfl (ns' := (0 + n)) rfl ?_
  have fA_na := hAq na fr_na
  refine zv_astore_n C dL_names_6 7 rfl [(1, .ref na), (0, .ref a)] (by decide) rfl ?_
  refine zv_iconst (v := 0) C dL_names_7 8 rfl (by decide) ?_
  refine zv_istore_n C dL_names_8 9 rfl [(2, .int 0), (1, .ref na), (0, .ref a)] (by decide) rfl ?_
  have NL : ∀ (mu_NL : Nat), ∀ (k : Nat) (g : Nat → Int32), (∀ i, i < k → g i = nmS n m0 m1 m2 m3 m5 r i) → (k ≤ n) → n - k < mu_NL → zv_V pP l eE rmL_names sS mM aA bB mT cD Q 3 D vwCl A (fun _ => True) (tyS cI cZ cA) ((na, .inl (cI, n, .inl g)) :: w) 1 (0 + n) 9 [(0, .ref a), (1, .ref na), (2, .int (nI k))] [] := by
    intro mu_NL
    induction mu_NL with
    | zero => intro k g hg hk hmu_NL; exact absurd hmu_NL (Nat.not_lt_zero _)
    | succ mu_NL ih_NL =>
      intro k g hg hk hmu_NL
      refine zv_iload_n C dL_names_9 10 rfl 2 rfl ?_
      refine zv_aload_n C dL_names_10 11 rfl 1 rfl ?_
      refine zv_alen (v := (nI n)) C dL_names_11 12 rfl 0 0 rfl rfl rfl ?_
      refine zv_icmp_ge C dL_names_12 15 29 rfl (by decide) (fun ck => ?_) (fun ck => ?_)
      ·
        have e1 : n = k := by have := zn_le (by omega) (by omega) ck; omega
        subst e1
        refine zv_aload_n C dL_names_29 30 rfl 1 rfl ?_
        refine zv_widen (k' := 1) (n' := 16) (by omega) (by omega) ?_
        exact zn_aret C hr (Or.inr ⟨_, rfl⟩) hlk hA hQ dL_names_30 _ (List.Sublist.cons_cons _ (List.nil_sublist _)) (fun q hq => by rw [List.mem_singleton] at hq; subst hq; exact fr_na) ⟨na, g, rfl, rfl, hg⟩
      ·
        have hk2 : k < n := zn_le' (by omega) (by omega) ck
        refine zv_aload_n C dL_names_15 16 rfl 1 rfl ?_
        refine zv_iload_n C dL_names_16 17 rfl 2 rfl ?_
        refine zv_aload_n C dL_names_17 18 rfl 0 rfl ?_
        refine zv_iload_n C dL_names_18 19 rfl 2 rfl ?_
        refine zn_callRV (rest := [.int (nI k), .ref na]) C zn_TB zn_TE (zn_ofR (w_nameAt l D hR k hk2)) (cwV 1 C.1.2.2.2.2 gL_names_X1_nameAt rfl rfl rfl (by decide +kernel) ⟨Nat.le_of_ble_eq_true rfl, Nat.le_of_ble_eq_true rfl⟩) dL_names_19 22 rfl (ci := 1) rfl 0 hrc rfl rfl (Nat.le_of_ble_eq_true rfl) ⟨(by show 1 + 0 ≤ 1; omega), (by show 0 + n + 0 ≤ 16; omega)⟩ [0, 1] rfl (List.Sublist.cons _ (List.Sublist.refl _)) (fun v hv => ?_)
        subst hv
        refine zv_go rfl rfl (st' := [.int (nmS n m0 m1 m2 m3 m5 r k), .int (nI k), .ref na]) rfl (kc' := 1) rfl (ns' := (0 + n)) rfl ?_
        refine zn_iast (x' := (nmS n m0 m1 m2 m3 m5 r k)) C dL_names_22 23 rfl 0 0 k rfl fA_na rfl rfl (by omega) (by omega) rfl ((na, .inl (cI, n, .inl (upd g k (nmS n m0 m1 m2 m3 m5 r k)))) :: w) rfl ?_
        refine zv_iinc (v := (nI (k + 1))) C dL_names_23 26 rfl [(2, .int (nI (k + 1))), (0, .ref a), (1, .ref na)] 2 rfl (nI_1 k) (by decide) rfl ?_
        refine zv_goto C dL_names_26 9 (by decide) ?_
        refine zv_sub [1, 2, 0] (lv' := [(0, .ref a), (1, .ref na), (2, .int (nI (k + 1)))]) rfl ?_
        exact ih_NL (k + 1) _ (fun i hi => by
          by_cases w : i = k
          · subst w; exact upd_at _ _ _
          · rw [upd_ne _ _ _ w]; exact hg i (by omega)) (by omega) (by omega)
  refine zv_go rfl (lv' := [(2, .int (nI 0)), (1, .ref na), (0, .ref a)]) rfl rfl rfl rfl ?_
  refine zv_sub [2, 1, 0] (lv' := [(0, .ref a), (1, .ref na), (2, .int (nI 0))]) rfl ?_
  exact NL (n + 1) 0 z0 (fun i hi => absurd hi (Nat.not_lt_zero i)) (by omega) (by omega)
