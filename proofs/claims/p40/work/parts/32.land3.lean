theorem zk_lt {k : Nat} (hk : k ≤ 16) (h : nI k - 1 < 0) : k = 0 := by
  cases k with
  | zero => rfl
  | succ k => rw [nI_pred] at h; exact absurd h (nI_nneg (by omega))
theorem zk_ge {k : Nat} (h : ¬ nI k - 1 < 0) : 0 < k := by
  cases k with
  | zero => exact absurd (by decide) h
  | succ k => exact Nat.succ_pos k
theorem zk_dec (x : Int32) : x + Int32.ofInt (-1) = x - 1 := by
  rw [Int32.sub_eq_add_neg]; rfl
abbrev rmX0_settle : Room := { frames := 2, cells := 0, slots := 0, locals := 48 }
set_option maxHeartbeats 4000000 in
set_option maxRecDepth 100000 in
theorem k_X0_settle (l : Launch) (D : va_G) (cI cZ : ClassId) (h : Nat → Nat) (n : Nat) (r : Int32) (f0 f1 f2 f3 f4 f5 f6 f7 f8 f9 f10 f11 f12 f13 : Nat → Int32) (d : Nat → Nat) (hn : n ≤ 16) (hD : Dep n f0 f1 d) : zv_M l yX0_settle wsX0_settle rmX0_settle D vwCl (tyL cI cZ) [.ref (h 0)] (cL cI cZ h (nI n) r f0 f1 f2 f3 f4 f5 f6 f7 f8 f9 f10 f11 f12 f13) (fun v w => v = none ∧ ∃ (g7 g8 g9 g10 g11 g12 g13 : Nat → Int32), w = (cL cI cZ h (nI n) r f0 f1 f2 f3 f4 f5 f6 g7 g8 g9 g10 g11 g12 g13) ∧ Stl n f0 f3 f4 f6 r g7 g8 g9 g10 g11 g12 g13) := by
  refine zv_M.of cX0_settle 3 none (by decide) rfl (Nat.le_of_ble_eq_true rfl) ?_
  intro pP eE sS mM aA bB mT cD A C hr hlk hnm Q hQ
  have inX0 : ∀ w ∈ u_ws RX0 TX0 16, w ∈ wsX0_settle := by decide +kernel
  have lk9 : Cond.fieldLink RX0 9 "RiverNames$Land" "count" "I" ∈ wsX0_settle := by decide +kernel
  have lk22 : Cond.fieldLink RX0 22 "RiverNames$Land" "stepsToSea" "[I" ∈ wsX0_settle := by decide +kernel
  have lk18 : Cond.fieldLink RX0 18 "RiverNames$Land" "ways" "[I" ∈ wsX0_settle := by decide +kernel
  have L28 : ∀ (mu_L28 : Nat), ∀ (k : Nat) (g7 g8 g9 g10 g11 g12 g13 : Nat → Int32), (k ≤ n) → (SI n f0 f3 f4 f6 r d k 0 g7 g8 g9 g10 g11 g12 g13) → k < mu_L28 → zv_V pP l eE rmX0_settle sS mM aA bB mT cD Q 3 D vwCl A A (tyL cI cZ) (cL cI cZ h (nI n) r f0 f1 f2 f3 f4 f5 f6 g7 g8 g9 g10 g11 g12 g13) 0 0 28 [(0, .ref (h 0)), (1, .int (nI k - 1))] [] := by
    intro mu_L28
    induction mu_L28 with
    | zero => intro k g7 g8 g9 g10 g11 g12 g13 hk hS hmu_L28; exact absurd hmu_L28 (Nat.not_lt_zero _)
    | succ mu_L28 ih_L28 =>
      intro k g7 g8 g9 g10 g11 g12 g13 hk hS hmu_L28
      have L34 : ∀ (mu_L34 : Nat), ∀ (kk j : Nat) (g7 g8 g9 g10 g11 g12 g13 : Nat → Int32), (kk + 1 ≤ n) → (kk < mu_L28) → (j ≤ n) → (SI n f0 f3 f4 f6 r d (kk + 1) j g7 g8 g9 g10 g11 g12 g13) → n - j < mu_L34 → zv_V pP l eE rmX0_settle sS mM aA bB mT cD Q 3 D vwCl A A (tyL cI cZ) (cL cI cZ h (nI n) r f0 f1 f2 f3 f4 f5 f6 g7 g8 g9 g10 g11 g12 g13) 0 0 34 [(0, .ref (h 0)), (1, .int (nI kk)), (2, .int (nI j))] [] := by
        intro mu_L34
        induction mu_L34 with
        | zero => intro kk j g7 g8 g9 g10 g11 g12 g13 hkn hkm hj hS hmu_L34; exact absurd hmu_L34 (Nat.not_lt_zero _)
        | succ mu_L34 ih_L34 =>
          intro kk j g7 g8 g9 g10 g11 g12 g13 hkn hkm hj hS hmu_L34
          refine zv_iload_n C dX0_settle_34 35 rfl 2 rfl ?_
          refine zv_aload_n C dX0_settle_35 36 rfl 0 rfl ?_
          refine zv_get (ci := 0) C inX0 rfl dX0_settle_36 39 rfl 0 0 rfl (by decide) lk9 rfl ?_
          refine zv_icmp_ge C dX0_settle_39 42 69 rfl (by decide) (fun c1 => ?_) (fun c1 => ?_)
          · replace c1 := zn_le (a := n) (b := j) (by omega) (by omega) c1
            refine zv_iinc (v := (nI kk - 1)) C dX0_settle_69 72 rfl [(1, .int (nI kk - 1)), (0, .ref (h 0)), (2, .int (nI j))] 1 rfl (zk_dec _) (by decide) rfl ?_
            refine zv_goto C dX0_settle_72 28 (by decide) ?_
            refine zv_sub [1, 0] (lv' := [(0, .ref (h 0)), (1, .int (nI kk - 1))]) rfl ?_
            exact ih_L28 kk g7 g8 g9 g10 g11 g12 g13 (by omega) (SI.next (by have hjn : j = n := (by omega); subst hjn; exact hS)) (by omega)
          · replace c1 := zn_le' (a := n) (b := j) (by omega) (by omega) c1
            refine zv_aload_n C dX0_settle_42 43 rfl 0 rfl ?_
            refine zv_get (ci := 0) C inX0 rfl dX0_settle_43 46 rfl 0 3 rfl (by decide) lk22 rfl ?_
            refine zv_iload_n C dX0_settle_46 47 rfl 2 rfl ?_
            refine zv_iald (v := (f1 j)) C dX0_settle_47 48 rfl 2 0 j rfl rfl rfl (by omega) (by decide) rfl ?_
            refine zv_iload_n C dX0_settle_48 49 rfl 1 rfl ?_
            refine zv_icmp_ne C dX0_settle_49 52 63 rfl (by decide) (fun c2 => ?_) (fun c2 => ?_)
            · refine zv_iinc (v := (nI (j + 1))) C dX0_settle_63 66 rfl [(2, .int (nI (j + 1))), (0, .ref (h 0)), (1, .int (nI kk))] 2 rfl (nI_1 j) (by decide) rfl ?_
              refine zv_goto C dX0_settle_66 34 (by decide) ?_
              refine zv_sub [1, 2, 0] (lv' := [(0, .ref (h 0)), (1, .int (nI kk)), (2, .int (nI (j + 1)))]) rfl ?_
              exact ih_L34 kk (j + 1) g7 g8 g9 g10 g11 g12 g13 hkn hkm (by omega) (SI.skip hD hn (by omega) (fun z => c2 (by rw [(hD j (by omega)).2.1, show d j = kk by omega])) hS) (by omega)
            · have hdj : d j = kk := zn_eq (by have := (hD j (by omega)).1; omega) (by omega) ((hD j (by omega)).2.1.symm.trans c2)
              refine zv_aload_n C dX0_settle_52 53 rfl 0 rfl ?_
              refine zv_iload_n C dX0_settle_53 54 rfl 2 rfl ?_
              refine zv_aload_n C dX0_settle_54 55 rfl 0 rfl ?_
              refine zv_get (ci := 0) C inX0 rfl dX0_settle_55 58 rfl 0 2 rfl (by decide) lk18 rfl ?_
              refine zv_iload_n C dX0_settle_58 59 rfl 2 rfl ?_
              refine zv_iald (v := (f0 j)) C dX0_settle_59 60 rfl 1 0 j rfl rfl rfl (by omega) (by decide) rfl ?_
              refine zv_callV (rest := []) (wr := []) C (k_X0_flowOn l D cI cZ h n r f0 f1 f2 f3 f4 f5 f6 g7 g8 g9 g10 g11 g12 g13 j (f0 j) (by omega) (by omega) (hD.ne hn (by omega))) (cwV 2 C.1.2.2.2.2 gX0_settle_X0_flowOn rfl rfl rfl (by decide +kernel) ⟨Nat.le_of_ble_eq_true rfl, Nat.le_of_ble_eq_true rfl⟩) dX0_settle_60 63 rfl (ci := 0) 0 rfl rfl rfl rfl (Nat.le_of_ble_eq_true rfl) ⟨Nat.le_of_ble_eq_true rfl, Nat.le_of_ble_eq_true rfl⟩ [0, 1] rfl [0, 1, 2, 3, 4, 5, 6, 7, 8, 9, 10, 11, 12, 13, 14] rfl (by decide) [] rfl (by decide) (by decide +kernel) (fun v w hv => ?_)
              obtain ⟨rfl, u7_7, u8_7, u9_7, u10_7, u11_7, u12_7, u13_7, rfl, hu7⟩ := hv
              refine zv_go rfl rfl (st' := []) rfl (kc' := 0) rfl (ns' := 0) rfl ?_
              refine zv_wd (ws' := (cL cI cZ h (nI n) r f0 f1 f2 f3 f4 f5 f6 u7_7 u8_7 u9_7 u10_7 u11_7 u12_7 u13_7)) rfl ?_
              refine zv_iinc (v := (nI (j + 1))) C dX0_settle_63 66 rfl [(2, .int (nI (j + 1))), (0, .ref (h 0)), (1, .int (nI kk))] 2 rfl (nI_1 j) (by decide) rfl ?_
              refine zv_goto C dX0_settle_66 34 (by decide) ?_
              refine zv_sub [1, 2, 0] (lv' := [(0, .ref (h 0)), (1, .int (nI kk)), (2, .int (nI (j + 1)))]) rfl ?_
              exact ih_L34 kk (j + 1) u7_7 u8_7 u9_7 u10_7 u11_7 u12_7 u13_7 hkn hkm (by omega) (by
      rcases hu7 with ⟨hf, hu⟩ | ⟨q, hq, hq2, ho, he⟩
      · exact SI.sea hD hn (by omega) (hD.vw.isP (by omega) (by omega) hf) hS hu
      · exact SI.flow hD hn (by omega) (by omega : d j + 1 = kk + 1) hq hq2 hS ho he) (by omega)
      refine zv_iload_n C dX0_settle_28 29 rfl 1 rfl ?_
      refine zv_if_lt C dX0_settle_29 32 75 rfl (by decide) (fun c3 => ?_) (fun c3 => ?_)
      · obtain rfl : k = 0 := zk_lt (by omega) c3
        exact zv_vret C hr hlk hQ dX0_settle_75 ⟨rfl, g7, g8, g9, g10, g11, g12, g13, rfl, hS.last⟩
      · obtain ⟨k', rfl⟩ : ∃ k', k = k' + 1 := ⟨k - 1, by have := zk_ge c3; omega⟩
        refine zv_go rfl (lv' := [(0, .ref (h 0)), (1, .int (nI k'))]) (by rw [nI_pred]) rfl rfl rfl ?_
        refine zv_iconst (v := 0) C dX0_settle_32 33 rfl (by decide) ?_
        refine zv_istore_n C dX0_settle_33 34 rfl [(2, .int 0), (0, .ref (h 0)), (1, .int (nI k'))] (by decide) rfl ?_
        refine zv_sub [1, 2, 0] (lv' := [(0, .ref (h 0)), (1, .int (nI k')), (2, .int 0)]) rfl ?_
        exact L34 _ k' 0 g7 g8 g9 g10 g11 g12 g13 (by omega) (by omega) (Nat.zero_le n) hS (Nat.lt_succ_self _)
  have L2 : ∀ (mu_L2 : Nat), ∀ (j : Nat) (g7 g8 g9 g10 g11 g12 g13 : Nat → Int32), (j ≤ n) → (∀ i, i < j → tat g7 g8 g9 g10 g11 g12 g13 i = rise7 (f4 i) (f6 i) r (f3 i) (nI i)) → n - j < mu_L2 → zv_V pP l eE rmX0_settle sS mM aA bB mT cD Q 3 D vwCl A A (tyL cI cZ) (cL cI cZ h (nI n) r f0 f1 f2 f3 f4 f5 f6 g7 g8 g9 g10 g11 g12 g13) 0 0 2 [(0, .ref (h 0)), (1, .int (nI j))] [] := by
    intro mu_L2
    induction mu_L2 with
    | zero => intro j g7 g8 g9 g10 g11 g12 g13 hj hI hmu_L2; exact absurd hmu_L2 (Nat.not_lt_zero _)
    | succ mu_L2 ih_L2 =>
      intro j g7 g8 g9 g10 g11 g12 g13 hj hI hmu_L2
      refine zv_iload_n C dX0_settle_2 3 rfl 1 rfl ?_
      refine zv_aload_n C dX0_settle_3 4 rfl 0 rfl ?_
      refine zv_get (ci := 0) C inX0 rfl dX0_settle_4 7 rfl 0 0 rfl (by decide) lk9 rfl ?_
      refine zv_icmp_ge C dX0_settle_7 10 21 rfl (by decide) (fun c4 => ?_) (fun c4 => ?_)
      · replace c4 := zn_le (a := n) (b := j) (by omega) (by omega) c4
        refine zv_aload_n C dX0_settle_21 22 rfl 0 rfl ?_
        refine zv_get (ci := 0) C inX0 rfl dX0_settle_22 25 rfl 0 0 rfl (by decide) lk9 rfl ?_
        refine zv_iconst (v := 1) C dX0_settle_25 26 rfl (by decide) ?_
        refine zv_isub (v := (nI n - 1)) C dX0_settle_26 27 rfl rfl ?_
        refine zv_istore_n C dX0_settle_27 28 rfl [(1, .int (nI n - 1)), (0, .ref (h 0))] (by decide) rfl ?_
        refine zv_sub [1, 0] (lv' := [(0, .ref (h 0)), (1, .int (nI n - 1))]) rfl ?_
        exact L28 _ n g7 g8 g9 g10 g11 g12 g13 (Nat.le_refl n) (SI.first hD hn (fun p hp => hI p (by omega))) (Nat.lt_succ_self _)
      · replace c4 := zn_le' (a := n) (b := j) (by omega) (by omega) c4
        refine zv_aload_n C dX0_settle_10 11 rfl 0 rfl ?_
        refine zv_iload_n C dX0_settle_11 12 rfl 1 rfl ?_
        refine zv_callV (rest := []) (wr := []) C (k_X0_rise l D cI cZ h n r f0 f1 f2 f3 f4 f5 f6 g7 g8 g9 g10 g11 g12 g13 j (by omega)) (cwV 1 C.1.2.2.2.2 gX0_settle_X0_rise rfl rfl rfl (by decide +kernel) ⟨Nat.le_of_ble_eq_true rfl, Nat.le_of_ble_eq_true rfl⟩) dX0_settle_12 15 rfl (ci := 0) 0 rfl rfl rfl rfl (Nat.le_of_ble_eq_true rfl) ⟨Nat.le_of_ble_eq_true rfl, Nat.le_of_ble_eq_true rfl⟩ [0, 1] rfl [0, 1, 2, 3, 4, 5, 6, 7, 8, 9, 10, 11, 12, 13, 14] rfl (by decide) [] rfl (by decide) (by decide +kernel) (fun v w hv => ?_)
        obtain ⟨rfl, u7_8, u8_8, u9_8, u10_8, u11_8, u12_8, u13_8, rfl, hu8⟩ := hv
        refine zv_go rfl rfl (st' := []) rfl (kc' := 0) rfl (ns' := 0) rfl ?_
        refine zv_wd (ws' := (cL cI cZ h (nI n) r f0 f1 f2 f3 f4 f5 f6 u7_8 u8_8 u9_8 u10_8 u11_8 u12_8 u13_8)) rfl ?_
        refine zv_iinc (v := (nI (j + 1))) C dX0_settle_15 18 rfl [(1, .int (nI (j + 1))), (0, .ref (h 0))] 1 rfl (nI_1 j) (by decide) rfl ?_
        refine zv_goto C dX0_settle_18 2 (by decide) ?_
        refine zv_sub [1, 0] (lv' := [(0, .ref (h 0)), (1, .int (nI (j + 1)))]) rfl ?_
        exact ih_L2 (j + 1) u7_8 u8_8 u9_8 u10_8 u11_8 u12_8 u13_8 (by omega) (fun i hi => by
      by_cases hij : i = j
      · subst hij; exact hu8.2
      · exact (hu8.1 i hij).trans (hI i (by omega))) (by omega)
  refine zv_go (pc' := 0) rfl (lv' := [(0, .ref (h 0))]) rfl rfl rfl rfl ?_
  refine zv_iconst (v := 0) C dX0_settle_0 1 rfl (by decide) ?_
  refine zv_istore_n C dX0_settle_1 2 rfl [(1, .int 0), (0, .ref (h 0))] (by decide) rfl ?_
  refine zv_sub [1, 0] (lv' := [(0, .ref (h 0)), (1, .int 0)]) rfl ?_
  exact L2 _ 0 f7 f8 f9 f10 f11 f12 f13 (Nat.zero_le n) (fun i hi => absurd hi (Nat.not_lt_zero i)) (Nat.lt_succ_self _)
abbrev rmX0_addBare : Room := { frames := 3, cells := 0, slots := 0, locals := 70 }
set_option maxHeartbeats 4000000 in
set_option maxRecDepth 100000 in
theorem k_X0_addBare (l : Launch) (D : va_G) (cI cZ : ClassId) (h : Nat → Nat) (n : Nat) (r : Int32) (f0 f1 f2 f3 f4 f5 f6 f7 f8 f9 f10 f11 f12 f13 : Nat → Int32) (d : Nat → Nat) (hn : n < 16) (hD : Dep (n + 1) (upd f0 n (-1)) f1 d) : zv_M l yX0_addBare wsX0_addBare rmX0_addBare D vwCl (tyL cI cZ) [.ref (h 0)] (cL cI cZ h (nI n) r f0 f1 f2 f3 f4 f5 f6 f7 f8 f9 f10 f11 f12 f13) (fun v w => v = some (.int (nI n)) ∧ ∃ (g7 g8 g9 g10 g11 g12 g13 : Nat → Int32), w = (cL cI cZ h (nI (n + 1)) r (upd f0 n (-1)) f1 f2 f3 f4 f5 f6 g7 g8 g9 g10 g11 g12 g13) ∧ Stl (n + 1) (upd f0 n (-1)) f3 f4 f6 r g7 g8 g9 g10 g11 g12 g13) := by
  refine zv_M.of cX0_addBare 2 (some .int) (by decide) rfl (Nat.le_of_ble_eq_true rfl) ?_
  intro pP eE sS mM aA bB mT cD A C hr hlk hnm Q hQ
  have inX0 : ∀ w ∈ u_ws RX0 TX0 16, w ∈ wsX0_addBare := by decide +kernel
  have lk9 : Cond.fieldLink RX0 9 "RiverNames$Land" "count" "I" ∈ wsX0_addBare := by decide +kernel
  have lk18 : Cond.fieldLink RX0 18 "RiverNames$Land" "ways" "[I" ∈ wsX0_addBare := by decide +kernel
  refine zv_go (pc' := 0) rfl (lv' := [(0, .ref (h 0))]) rfl rfl rfl rfl ?_
  refine zv_aload_n C dX0_addBare_0 1 rfl 0 rfl ?_
  refine zv_get (ci := 0) C inX0 rfl dX0_addBare_1 4 rfl 0 0 rfl (by decide) lk9 rfl ?_
  refine zv_istore_n C dX0_addBare_4 5 rfl [(1, .int (nI n)), (0, .ref (h 0))] (by decide) rfl ?_
  refine zv_aload_n C dX0_addBare_5 6 rfl 1 rfl ?_
  refine zv_dup C dX0_addBare_6 7 rfl rfl ?_
  refine zv_get (ci := 0) C inX0 rfl dX0_addBare_7 10 rfl 0 0 rfl (by decide) lk9 rfl ?_
  refine zv_iconst (v := 1) C dX0_addBare_10 11 rfl (by decide) ?_
  refine zv_iadd (v := (nI (n + 1))) C dX0_addBare_11 12 rfl (nI_1 n) ?_
  refine zv_put (ci := 0) C inX0 rfl tyX0_ok nmX0 dX0_addBare_12 15 rfl 0 0 rfl (by decide) lk9 rfl rfl rfl (Nat.le_of_ble_eq_true rfl) (cL cI cZ h (nI (n + 1)) r f0 f1 f2 f3 f4 f5 f6 f7 f8 f9 f10 f11 f12 f13) rfl ?_
  refine zv_aload_n C dX0_addBare_15 16 rfl 1 rfl ?_
  refine zv_get (ci := 0) C inX0 rfl dX0_addBare_16 19 rfl 0 2 rfl (by decide) lk18 rfl ?_
  refine zv_iload_n C dX0_addBare_19 20 rfl 0 rfl ?_
  refine zv_iconst (v := (-1 : Int32)) C dX0_addBare_20 21 rfl (by decide) ?_
  refine zv_iast (x' := (-1 : Int32)) C dX0_addBare_21 22 rfl 1 0 n rfl rfl rfl (by omega) (by decide) rfl (cL cI cZ h (nI (n + 1)) r (upd f0 n (-1 : Int32)) f1 f2 f3 f4 f5 f6 f7 f8 f9 f10 f11 f12 f13) rfl ?_
  refine zv_aload_n C dX0_addBare_22 23 rfl 1 rfl ?_
  refine zv_callV (rest := []) (wr := []) C (k_X0_settle l D cI cZ h (n + 1) r (upd f0 n (-1 : Int32)) f1 f2 f3 f4 f5 f6 f7 f8 f9 f10 f11 f12 f13 d (by omega) (by assumption)) (cwV 0 C.1.2.2.2.2 gX0_addBare_X0_settle rfl rfl rfl (by decide +kernel) ⟨Nat.le_of_ble_eq_true rfl, Nat.le_of_ble_eq_true rfl⟩) dX0_addBare_23 26 rfl (ci := 0) 0 rfl rfl rfl rfl (Nat.le_of_ble_eq_true rfl) ⟨Nat.le_of_ble_eq_true rfl, Nat.le_of_ble_eq_true rfl⟩ [0, 1] rfl [0, 1, 2, 3, 4, 5, 6, 7, 8, 9, 10, 11, 12, 13, 14] rfl (by decide) [] rfl (by decide) (by decide +kernel) (fun v w hv => ?_)
  obtain ⟨rfl, u7_9, u8_9, u9_9, u10_9, u11_9, u12_9, u13_9, rfl, hu9⟩ := hv
  refine zv_go rfl rfl (st' := []) rfl (kc' := 0) rfl (ns' := 0) rfl ?_
  refine zv_wd (ws' := (cL cI cZ h (nI (n + 1)) r (upd f0 n (-1 : Int32)) f1 f2 f3 f4 f5 f6 u7_9 u8_9 u9_9 u10_9 u11_9 u12_9 u13_9)) rfl ?_
  refine zv_iload_n C dX0_addBare_26 27 rfl 0 rfl ?_
  exact zv_iret C hr hlk hQ dX0_addBare_27 ⟨rfl, u7_9, u8_9, u9_9, u10_9, u11_9, u12_9, u13_9, rfl, hu9⟩
abbrev rmX0_addSprung : Room := { frames := 3, cells := 0, slots := 0, locals := 70 }
set_option maxHeartbeats 4000000 in
set_option maxRecDepth 100000 in
theorem k_X0_addSprung (l : Launch) (D : va_G) (cI cZ : ClassId) (h : Nat → Nat) (n : Nat) (r : Int32) (f0 f1 f2 f3 f4 f5 f6 f7 f8 f9 f10 f11 f12 f13 : Nat → Int32) (nm wa sw : Int32) (d : Nat → Nat) (hn : n < 16) (hD : Dep (n + 1) (upd f0 n (-1)) f1 d) : zv_M l yX0_addSprung wsX0_addSprung rmX0_addSprung D vwCl (tyL cI cZ) [.ref (h 0), .int nm, .int wa, .int sw] (cL cI cZ h (nI n) r f0 f1 f2 f3 f4 f5 f6 f7 f8 f9 f10 f11 f12 f13) (fun v w => v = some (.int (nI n)) ∧ ∃ (g7 g8 g9 g10 g11 g12 g13 : Nat → Int32), w = (cL cI cZ h (nI (n + 1)) r (upd f0 n (-1)) f1 (upd f2 n 1) (upd f3 n nm) (upd f4 n wa) (upd f5 n sw) f6 g7 g8 g9 g10 g11 g12 g13) ∧ Stl (n + 1) (upd f0 n (-1)) (upd f3 n nm) (upd f4 n wa) f6 r g7 g8 g9 g10 g11 g12 g13) := by
  refine zv_M.of cX0_addSprung 5 (some .int) (by decide) rfl (Nat.le_of_ble_eq_true rfl) ?_
  intro pP eE sS mM aA bB mT cD A C hr hlk hnm Q hQ
  have inX0 : ∀ w ∈ u_ws RX0 TX0 16, w ∈ wsX0_addSprung := by decide +kernel
  have lk9 : Cond.fieldLink RX0 9 "RiverNames$Land" "count" "I" ∈ wsX0_addSprung := by decide +kernel
  have lk18 : Cond.fieldLink RX0 18 "RiverNames$Land" "ways" "[I" ∈ wsX0_addSprung := by decide +kernel
  have lk25 : Cond.fieldLink RX0 25 "RiverNames$Land" "sprung" "[Z" ∈ wsX0_addSprung := by decide +kernel
  have lk29 : Cond.fieldLink RX0 29 "RiverNames$Land" "springNames" "[I" ∈ wsX0_addSprung := by decide +kernel
  have lk32 : Cond.fieldLink RX0 32 "RiverNames$Land" "springWater" "[I" ∈ wsX0_addSprung := by decide +kernel
  have lk35 : Cond.fieldLink RX0 35 "RiverNames$Land" "swells" "[I" ∈ wsX0_addSprung := by decide +kernel
  refine zv_go (pc' := 0) rfl (lv' := [(0, .ref (h 0)), (1, .int nm), (2, .int wa), (3, .int sw)]) rfl rfl rfl rfl ?_
  refine zv_aload_n C dX0_addSprung_0 1 rfl 0 rfl ?_
  refine zv_get (ci := 0) C inX0 rfl dX0_addSprung_1 4 rfl 0 0 rfl (by decide) lk9 rfl ?_
  refine zv_istore C dX0_addSprung_4 6 rfl [(4, .int (nI n)), (0, .ref (h 0)), (1, .int nm), (2, .int wa), (3, .int sw)] (by decide) rfl ?_
  refine zv_aload_n C dX0_addSprung_6 7 rfl 1 rfl ?_
  refine zv_dup C dX0_addSprung_7 8 rfl rfl ?_
  refine zv_get (ci := 0) C inX0 rfl dX0_addSprung_8 11 rfl 0 0 rfl (by decide) lk9 rfl ?_
  refine zv_iconst (v := 1) C dX0_addSprung_11 12 rfl (by decide) ?_
  refine zv_iadd (v := (nI (n + 1))) C dX0_addSprung_12 13 rfl (nI_1 n) ?_
  refine zv_put (ci := 0) C inX0 rfl tyX0_ok nmX0 dX0_addSprung_13 16 rfl 0 0 rfl (by decide) lk9 rfl rfl rfl (Nat.le_of_ble_eq_true rfl) (cL cI cZ h (nI (n + 1)) r f0 f1 f2 f3 f4 f5 f6 f7 f8 f9 f10 f11 f12 f13) rfl ?_
  refine zv_aload_n C dX0_addSprung_16 17 rfl 1 rfl ?_
  refine zv_get (ci := 0) C inX0 rfl dX0_addSprung_17 20 rfl 0 2 rfl (by decide) lk18 rfl ?_
  refine zv_iload C dX0_addSprung_20 22 rfl 0 rfl ?_
  refine zv_iconst (v := (-1 : Int32)) C dX0_addSprung_22 23 rfl (by decide) ?_
  refine zv_iast (x' := (-1 : Int32)) C dX0_addSprung_23 24 rfl 1 0 n rfl rfl rfl (by omega) (by decide) rfl (cL cI cZ h (nI (n + 1)) r (upd f0 n (-1 : Int32)) f1 f2 f3 f4 f5 f6 f7 f8 f9 f10 f11 f12 f13) rfl ?_
  refine zv_aload_n C dX0_addSprung_24 25 rfl 1 rfl ?_
  refine zv_get (ci := 0) C inX0 rfl dX0_addSprung_25 28 rfl 0 4 rfl (by decide) lk25 rfl ?_
  refine zv_iload C dX0_addSprung_28 30 rfl 0 rfl ?_
  refine zv_iconst (v := 1) C dX0_addSprung_30 31 rfl (by decide) ?_
  refine zv_zast (x' := 1) C dX0_addSprung_31 32 rfl 3 1 n rfl rfl rfl (by omega) (by decide) (by decide) (cL cI cZ h (nI (n + 1)) r (upd f0 n (-1 : Int32)) f1 (upd f2 n 1) f3 f4 f5 f6 f7 f8 f9 f10 f11 f12 f13) rfl ?_
  refine zv_aload_n C dX0_addSprung_32 33 rfl 1 rfl ?_
  refine zv_get (ci := 0) C inX0 rfl dX0_addSprung_33 36 rfl 0 5 rfl (by decide) lk29 rfl ?_
  refine zv_iload C dX0_addSprung_36 38 rfl 0 rfl ?_
  refine zv_iload_n C dX0_addSprung_38 39 rfl 2 rfl ?_
  refine zv_iast (x' := nm) C dX0_addSprung_39 40 rfl 4 0 n rfl rfl rfl (by omega) (by decide) rfl (cL cI cZ h (nI (n + 1)) r (upd f0 n (-1 : Int32)) f1 (upd f2 n 1) (upd f3 n nm) f4 f5 f6 f7 f8 f9 f10 f11 f12 f13) rfl ?_
  refine zv_aload_n C dX0_addSprung_40 41 rfl 1 rfl ?_
  refine zv_get (ci := 0) C inX0 rfl dX0_addSprung_41 44 rfl 0 6 rfl (by decide) lk32 rfl ?_
  refine zv_iload C dX0_addSprung_44 46 rfl 0 rfl ?_
  refine zv_iload_n C dX0_addSprung_46 47 rfl 3 rfl ?_
  refine zv_iast (x' := wa) C dX0_addSprung_47 48 rfl 5 0 n rfl rfl rfl (by omega) (by decide) rfl (cL cI cZ h (nI (n + 1)) r (upd f0 n (-1 : Int32)) f1 (upd f2 n 1) (upd f3 n nm) (upd f4 n wa) f5 f6 f7 f8 f9 f10 f11 f12 f13) rfl ?_
  refine zv_aload_n C dX0_addSprung_48 49 rfl 1 rfl ?_
  refine zv_get (ci := 0) C inX0 rfl dX0_addSprung_49 52 rfl 0 7 rfl (by decide) lk35 rfl ?_
  refine zv_iload C dX0_addSprung_52 54 rfl 0 rfl ?_
  refine zv_iload_n C dX0_addSprung_54 55 rfl 4 rfl ?_
  refine zv_iast (x' := sw) C dX0_addSprung_55 56 rfl 6 0 n rfl rfl rfl (by omega) (by decide) rfl (cL cI cZ h (nI (n + 1)) r (upd f0 n (-1 : Int32)) f1 (upd f2 n 1) (upd f3 n nm) (upd f4 n wa) (upd f5 n sw) f6 f7 f8 f9 f10 f11 f12 f13) rfl ?_
  refine zv_aload_n C dX0_addSprung_56 57 rfl 1 rfl ?_
  refine zv_callV (rest := []) (wr := []) C (k_X0_settle l D cI cZ h (n + 1) r (upd f0 n (-1 : Int32)) f1 (upd f2 n 1) (upd f3 n nm) (upd f4 n wa) (upd f5 n sw) f6 f7 f8 f9 f10 f11 f12 f13 d (by omega) (by assumption)) (cwV 0 C.1.2.2.2.2 gX0_addSprung_X0_settle rfl rfl rfl (by decide +kernel) ⟨Nat.le_of_ble_eq_true rfl, Nat.le_of_ble_eq_true rfl⟩) dX0_addSprung_57 60 rfl (ci := 0) 0 rfl rfl rfl rfl (Nat.le_of_ble_eq_true rfl) ⟨Nat.le_of_ble_eq_true rfl, Nat.le_of_ble_eq_true rfl⟩ [0, 1] rfl [0, 1, 2, 3, 4, 5, 6, 7, 8, 9, 10, 11, 12, 13, 14] rfl (by decide) [] rfl (by decide) (by decide +kernel) (fun v w hv => ?_)
  obtain ⟨rfl, u7_10, u8_10, u9_10, u10_10, u11_10, u12_10, u13_10, rfl, hu10⟩ := hv
  refine zv_go rfl rfl (st' := []) rfl (kc' := 0) rfl (ns' := 0) rfl ?_
  refine zv_wd (ws' := (cL cI cZ h (nI (n + 1)) r (upd f0 n (-1 : Int32)) f1 (upd f2 n 1) (upd f3 n nm) (upd f4 n wa) (upd f5 n sw) f6 u7_10 u8_10 u9_10 u10_10 u11_10 u12_10 u13_10)) rfl ?_
  refine zv_iload C dX0_addSprung_60 62 rfl 0 rfl ?_
  exact zv_iret C hr hlk hQ dX0_addSprung_62 ⟨rfl, u7_10, u8_10, u9_10, u10_10, u11_10, u12_10, u13_10, rfl, hu10⟩
def tg (x : Int32) : Int32 := if x = 0 then 1 else 0
theorem tg_0 {x : Int32} (h : x = 0) : tg x = 1 := if_pos h
theorem tg_1 {x : Int32} (h : ¬ x = 0) : tg x = 0 := if_neg h
abbrev rmX0_toggleDelta : Room := { frames := 3, cells := 0, slots := 0, locals := 70 }
set_option maxHeartbeats 4000000 in
set_option maxRecDepth 100000 in
theorem k_X0_toggleDelta (l : Launch) (D : va_G) (cI cZ : ClassId) (h : Nat → Nat) (n : Nat) (r : Int32) (f0 f1 f2 f3 f4 f5 f6 f7 f8 f9 f10 f11 f12 f13 : Nat → Int32) (p : Nat) (hp : p < 16) (d : Nat → Nat) (hn : n ≤ 16) (hD : Dep n f0 f1 d) : zv_M l yX0_toggleDelta wsX0_toggleDelta rmX0_toggleDelta D vwCl (tyL cI cZ) [.ref (h 0), .int (nI p)] (cL cI cZ h (nI n) r f0 f1 f2 f3 f4 f5 f6 f7 f8 f9 f10 f11 f12 f13) (fun v w => v = none ∧ ∃ (g7 g8 g9 g10 g11 g12 g13 : Nat → Int32), w = (cL cI cZ h (nI n) r f0 f1 f2 f3 f4 f5 (upd f6 p (tg (f6 p))) g7 g8 g9 g10 g11 g12 g13) ∧ Stl n f0 f3 f4 (upd f6 p (tg (f6 p))) r g7 g8 g9 g10 g11 g12 g13) := by
  refine zv_M.of cX0_toggleDelta 2 none (by decide) rfl (Nat.le_of_ble_eq_true rfl) ?_
  intro pP eE sS mM aA bB mT cD A C hr hlk hnm Q hQ
  have inX0 : ∀ w ∈ u_ws RX0 TX0 16, w ∈ wsX0_toggleDelta := by decide +kernel
  have lk38 : Cond.fieldLink RX0 38 "RiverNames$Land" "deltas" "[Z" ∈ wsX0_toggleDelta := by decide +kernel
  refine zv_go (pc' := 0) rfl (lv' := [(0, .ref (h 0)), (1, .int (nI p))]) rfl rfl rfl rfl ?_
  refine zv_aload_n C dX0_toggleDelta_0 1 rfl 0 rfl ?_
  refine zv_get (ci := 0) C inX0 rfl dX0_toggleDelta_1 4 rfl 0 8 rfl (by decide) lk38 rfl ?_
  refine zv_iload_n C dX0_toggleDelta_4 5 rfl 1 rfl ?_
  refine zv_aload_n C dX0_toggleDelta_5 6 rfl 0 rfl ?_
  refine zv_get (ci := 0) C inX0 rfl dX0_toggleDelta_6 9 rfl 0 8 rfl (by decide) lk38 rfl ?_
  refine zv_iload_n C dX0_toggleDelta_9 10 rfl 1 rfl ?_
  refine zv_zald (v := (f6 p)) C dX0_toggleDelta_10 11 rfl 7 1 p rfl rfl rfl (by omega) (by decide) rfl ?_
  refine zv_if_ne C dX0_toggleDelta_11 14 18 rfl (by decide) (fun c1 => ?_) (fun c1 => ?_)
  · refine zv_iconst (v := 0) C dX0_toggleDelta_18 19 rfl (by decide) ?_
    refine zv_zast (x' := (tg (f6 p))) C dX0_toggleDelta_19 20 rfl 7 1 p rfl rfl rfl (by omega) (by decide) (by rw [tg_1 c1]; decide) (cL cI cZ h (nI n) r f0 f1 f2 f3 f4 f5 (upd f6 p (tg (f6 p))) f7 f8 f9 f10 f11 f12 f13) rfl ?_
    refine zv_aload_n C dX0_toggleDelta_20 21 rfl 0 rfl ?_
    refine zv_callV (rest := []) (wr := []) C (k_X0_settle l D cI cZ h n r f0 f1 f2 f3 f4 f5 (upd f6 p (tg (f6 p))) f7 f8 f9 f10 f11 f12 f13 d (by omega) (by assumption)) (cwV 0 C.1.2.2.2.2 gX0_toggleDelta_X0_settle rfl rfl rfl (by decide +kernel) ⟨Nat.le_of_ble_eq_true rfl, Nat.le_of_ble_eq_true rfl⟩) dX0_toggleDelta_21 24 rfl (ci := 0) 0 rfl rfl rfl rfl (Nat.le_of_ble_eq_true rfl) ⟨Nat.le_of_ble_eq_true rfl, Nat.le_of_ble_eq_true rfl⟩ [0, 1] rfl [0, 1, 2, 3, 4, 5, 6, 7, 8, 9, 10, 11, 12, 13, 14] rfl (by decide) [] rfl (by decide) (by decide +kernel) (fun v w hv => ?_)
    obtain ⟨rfl, u7_11, u8_11, u9_11, u10_11, u11_11, u12_11, u13_11, rfl, hu11⟩ := hv
    refine zv_go rfl rfl (st' := []) rfl (kc' := 0) rfl (ns' := 0) rfl ?_
    refine zv_wd (ws' := (cL cI cZ h (nI n) r f0 f1 f2 f3 f4 f5 (upd f6 p (tg (f6 p))) u7_11 u8_11 u9_11 u10_11 u11_11 u12_11 u13_11)) rfl ?_
    exact zv_vret C hr hlk hQ dX0_toggleDelta_24 ⟨rfl, u7_11, u8_11, u9_11, u10_11, u11_11, u12_11, u13_11, rfl, hu11⟩
  · refine zv_iconst (v := 1) C dX0_toggleDelta_14 15 rfl (by decide) ?_
    refine zv_goto C dX0_toggleDelta_15 19 (by decide) ?_
    refine zv_zast (x' := (tg (f6 p))) C dX0_toggleDelta_19 20 rfl 7 1 p rfl rfl rfl (by omega) (by decide) (by rw [tg_0 c1]; decide) (cL cI cZ h (nI n) r f0 f1 f2 f3 f4 f5 (upd f6 p (tg (f6 p))) f7 f8 f9 f10 f11 f12 f13) rfl ?_
    refine zv_aload_n C dX0_toggleDelta_20 21 rfl 0 rfl ?_
    refine zv_callV (rest := []) (wr := []) C (k_X0_settle l D cI cZ h n r f0 f1 f2 f3 f4 f5 (upd f6 p (tg (f6 p))) f7 f8 f9 f10 f11 f12 f13 d (by omega) (by assumption)) (cwV 0 C.1.2.2.2.2 gX0_toggleDelta_X0_settle rfl rfl rfl (by decide +kernel) ⟨Nat.le_of_ble_eq_true rfl, Nat.le_of_ble_eq_true rfl⟩) dX0_toggleDelta_21 24 rfl (ci := 0) 0 rfl rfl rfl rfl (Nat.le_of_ble_eq_true rfl) ⟨Nat.le_of_ble_eq_true rfl, Nat.le_of_ble_eq_true rfl⟩ [0, 1] rfl [0, 1, 2, 3, 4, 5, 6, 7, 8, 9, 10, 11, 12, 13, 14] rfl (by decide) [] rfl (by decide) (by decide +kernel) (fun v w hv => ?_)
    obtain ⟨rfl, u7_12, u8_12, u9_12, u10_12, u11_12, u12_12, u13_12, rfl, hu12⟩ := hv
    refine zv_go rfl rfl (st' := []) rfl (kc' := 0) rfl (ns' := 0) rfl ?_
    refine zv_wd (ws' := (cL cI cZ h (nI n) r f0 f1 f2 f3 f4 f5 (upd f6 p (tg (f6 p))) u7_12 u8_12 u9_12 u10_12 u11_12 u12_12 u13_12)) rfl ?_
    exact zv_vret C hr hlk hQ dX0_toggleDelta_24 ⟨rfl, u7_12, u8_12, u9_12, u10_12, u11_12, u12_12, u13_12, rfl, hu12⟩
abbrev rmX0_useRule : Room := { frames := 3, cells := 0, slots := 0, locals := 70 }
set_option maxHeartbeats 4000000 in
set_option maxRecDepth 100000 in
theorem k_X0_useRule (l : Launch) (D : va_G) (cI cZ : ClassId) (h : Nat → Nat) (n : Nat) (r : Int32) (f0 f1 f2 f3 f4 f5 f6 f7 f8 f9 f10 f11 f12 f13 : Nat → Int32) (ru : Int32) (d : Nat → Nat) (hn : n ≤ 16) (hD : Dep n f0 f1 d) : zv_M l yX0_useRule wsX0_useRule rmX0_useRule D vwCl (tyL cI cZ) [.ref (h 0), .int ru] (cL cI cZ h (nI n) r f0 f1 f2 f3 f4 f5 f6 f7 f8 f9 f10 f11 f12 f13) (fun v w => v = none ∧ ∃ (g7 g8 g9 g10 g11 g12 g13 : Nat → Int32), w = (cL cI cZ h (nI n) ru f0 f1 f2 f3 f4 f5 f6 g7 g8 g9 g10 g11 g12 g13) ∧ Stl n f0 f3 f4 f6 ru g7 g8 g9 g10 g11 g12 g13) := by
  refine zv_M.of cX0_useRule 2 none (by decide) rfl (Nat.le_of_ble_eq_true rfl) ?_
  intro pP eE sS mM aA bB mT cD A C hr hlk hnm Q hQ
  have inX0 : ∀ w ∈ u_ws RX0 TX0 16, w ∈ wsX0_useRule := by decide +kernel
  have lk15 : Cond.fieldLink RX0 15 "RiverNames$Land" "rule" "I" ∈ wsX0_useRule := by decide +kernel
  refine zv_go (pc' := 0) rfl (lv' := [(0, .ref (h 0)), (1, .int ru)]) rfl rfl rfl rfl ?_
  refine zv_aload_n C dX0_useRule_0 1 rfl 0 rfl ?_
  refine zv_iload_n C dX0_useRule_1 2 rfl 1 rfl ?_
  refine zv_put (ci := 0) C inX0 rfl tyX0_ok nmX0 dX0_useRule_2 5 rfl 0 1 rfl (by decide) lk15 rfl rfl rfl (Nat.le_of_ble_eq_true rfl) (cL cI cZ h (nI n) ru f0 f1 f2 f3 f4 f5 f6 f7 f8 f9 f10 f11 f12 f13) rfl ?_
  refine zv_aload_n C dX0_useRule_5 6 rfl 0 rfl ?_
  refine zv_callV (rest := []) (wr := []) C (k_X0_settle l D cI cZ h n ru f0 f1 f2 f3 f4 f5 f6 f7 f8 f9 f10 f11 f12 f13 d (by omega) (by assumption)) (cwV 0 C.1.2.2.2.2 gX0_useRule_X0_settle rfl rfl rfl (by decide +kernel) ⟨Nat.le_of_ble_eq_true rfl, Nat.le_of_ble_eq_true rfl⟩) dX0_useRule_6 9 rfl (ci := 0) 0 rfl rfl rfl rfl (Nat.le_of_ble_eq_true rfl) ⟨Nat.le_of_ble_eq_true rfl, Nat.le_of_ble_eq_true rfl⟩ [0, 1] rfl [0, 1, 2, 3, 4, 5, 6, 7, 8, 9, 10, 11, 12, 13, 14] rfl (by decide) [] rfl (by decide) (by decide +kernel) (fun v w hv => ?_)
  obtain ⟨rfl, u7_13, u8_13, u9_13, u10_13, u11_13, u12_13, u13_13, rfl, hu13⟩ := hv
  refine zv_go rfl rfl (st' := []) rfl (kc' := 0) rfl (ns' := 0) rfl ?_
  refine zv_wd (ws' := (cL cI cZ h (nI n) ru f0 f1 f2 f3 f4 f5 f6 u7_13 u8_13 u9_13 u10_13 u11_13 u12_13 u13_13)) rfl ?_
  exact zv_vret C hr hlk hQ dX0_useRule_9 ⟨rfl, u7_13, u8_13, u9_13, u10_13, u11_13, u12_13, u13_13, rfl, hu13⟩
abbrev rmX0_dryUp : Room := { frames := 3, cells := 0, slots := 0, locals := 70 }
set_option maxHeartbeats 4000000 in
set_option maxRecDepth 100000 in
theorem k_X0_dryUp (l : Launch) (D : va_G) (cI cZ : ClassId) (h : Nat → Nat) (n : Nat) (r : Int32) (f0 f1 f2 f3 f4 f5 f6 f7 f8 f9 f10 f11 f12 f13 : Nat → Int32) (p : Nat) (hp : p < 16) (d : Nat → Nat) (hn : n ≤ 16) (hD : Dep n f0 f1 d) : zv_M l yX0_dryUp wsX0_dryUp rmX0_dryUp D vwCl (tyL cI cZ) [.ref (h 0), .int (nI p)] (cL cI cZ h (nI n) r f0 f1 f2 f3 f4 f5 f6 f7 f8 f9 f10 f11 f12 f13) (fun v w => v = none ∧ ∃ (g7 g8 g9 g10 g11 g12 g13 : Nat → Int32), w = (cL cI cZ h (nI n) r f0 f1 f2 f3 (upd f4 p 0) f5 f6 g7 g8 g9 g10 g11 g12 g13) ∧ Stl n f0 f3 (upd f4 p 0) f6 r g7 g8 g9 g10 g11 g12 g13) := by
  refine zv_M.of cX0_dryUp 2 none (by decide) rfl (Nat.le_of_ble_eq_true rfl) ?_
  intro pP eE sS mM aA bB mT cD A C hr hlk hnm Q hQ
  have inX0 : ∀ w ∈ u_ws RX0 TX0 16, w ∈ wsX0_dryUp := by decide +kernel
  have lk32 : Cond.fieldLink RX0 32 "RiverNames$Land" "springWater" "[I" ∈ wsX0_dryUp := by decide +kernel
  refine zv_go (pc' := 0) rfl (lv' := [(0, .ref (h 0)), (1, .int (nI p))]) rfl rfl rfl rfl ?_
  refine zv_aload_n C dX0_dryUp_0 1 rfl 0 rfl ?_
  refine zv_get (ci := 0) C inX0 rfl dX0_dryUp_1 4 rfl 0 6 rfl (by decide) lk32 rfl ?_
  refine zv_iload_n C dX0_dryUp_4 5 rfl 1 rfl ?_
  refine zv_iconst (v := 0) C dX0_dryUp_5 6 rfl (by decide) ?_
  refine zv_iast (x' := 0) C dX0_dryUp_6 7 rfl 5 0 p rfl rfl rfl (by omega) (by decide) rfl (cL cI cZ h (nI n) r f0 f1 f2 f3 (upd f4 p 0) f5 f6 f7 f8 f9 f10 f11 f12 f13) rfl ?_
  refine zv_aload_n C dX0_dryUp_7 8 rfl 0 rfl ?_
  refine zv_callV (rest := []) (wr := []) C (k_X0_settle l D cI cZ h n r f0 f1 f2 f3 (upd f4 p 0) f5 f6 f7 f8 f9 f10 f11 f12 f13 d (by omega) (by assumption)) (cwV 0 C.1.2.2.2.2 gX0_dryUp_X0_settle rfl rfl rfl (by decide +kernel) ⟨Nat.le_of_ble_eq_true rfl, Nat.le_of_ble_eq_true rfl⟩) dX0_dryUp_8 11 rfl (ci := 0) 0 rfl rfl rfl rfl (Nat.le_of_ble_eq_true rfl) ⟨Nat.le_of_ble_eq_true rfl, Nat.le_of_ble_eq_true rfl⟩ [0, 1] rfl [0, 1, 2, 3, 4, 5, 6, 7, 8, 9, 10, 11, 12, 13, 14] rfl (by decide) [] rfl (by decide) (by decide +kernel) (fun v w hv => ?_)
  obtain ⟨rfl, u7_14, u8_14, u9_14, u10_14, u11_14, u12_14, u13_14, rfl, hu14⟩ := hv
  refine zv_go rfl rfl (st' := []) rfl (kc' := 0) rfl (ns' := 0) rfl ?_
  refine zv_wd (ws' := (cL cI cZ h (nI n) r f0 f1 f2 f3 (upd f4 p 0) f5 f6 u7_14 u8_14 u9_14 u10_14 u11_14 u12_14 u13_14)) rfl ?_
  exact zv_vret C hr hlk hQ dX0_dryUp_11 ⟨rfl, u7_14, u8_14, u9_14, u10_14, u11_14, u12_14, u13_14, rfl, hu14⟩
def clamp (v : Int32) : Int32 := if 0 < (if v < 99 then v else 99) then (if v < 99 then v else 99) else 0
abbrev rmX0_swellFor : Room := { frames := 3, cells := 0, slots := 0, locals := 70 }
set_option maxHeartbeats 4000000 in
set_option maxRecDepth 100000 in
theorem k_X0_swellFor (l : Launch) (D : va_G) (cI cZ : ClassId) (h : Nat → Nat) (n : Nat) (r : Int32) (f0 f1 f2 f3 f4 f5 f6 f7 f8 f9 f10 f11 f12 f13 : Nat → Int32) (y : Int32) (d : Nat → Nat) (hn : n ≤ 16) (hD : Dep n f0 f1 d) : zv_M l yX0_swellFor wsX0_swellFor rmX0_swellFor D vwCl (tyL cI cZ) [.ref (h 0), .int y] (cL cI cZ h (nI n) r f0 f1 f2 f3 f4 f5 f6 f7 f8 f9 f10 f11 f12 f13) (fun v w => v = none ∧ ∃ (e4 g7 g8 g9 g10 g11 g12 g13 : Nat → Int32), w = (cL cI cZ h (nI n) r f0 f1 f2 f3 e4 f5 f6 g7 g8 g9 g10 g11 g12 g13) ∧ (∀ i, i < n → e4 i = clamp (f4 i + y * f5 i)) ∧ (∀ i, n ≤ i → e4 i = f4 i) ∧ Stl n f0 f3 e4 f6 r g7 g8 g9 g10 g11 g12 g13) := by
  refine zv_M.of cX0_swellFor 4 none (by decide) rfl (Nat.le_of_ble_eq_true rfl) ?_
  intro pP eE sS mM aA bB mT cD A C hr hlk hnm Q hQ
  have inX0 : ∀ w ∈ u_ws RX0 TX0 16, w ∈ wsX0_swellFor := by decide +kernel
  have lk9 : Cond.fieldLink RX0 9 "RiverNames$Land" "count" "I" ∈ wsX0_swellFor := by decide +kernel
  have lk32 : Cond.fieldLink RX0 32 "RiverNames$Land" "springWater" "[I" ∈ wsX0_swellFor := by decide +kernel
  have lk35 : Cond.fieldLink RX0 35 "RiverNames$Land" "swells" "[I" ∈ wsX0_swellFor := by decide +kernel
  have mminlink : Cond.methodLink RX0 69 Lib.Math.min.name ∈ wsX0_swellFor := by decide +kernel
  have mminstat : Cond.static Lib.Math.min.name ∈ wsX0_swellFor := by decide +kernel
  have mmincode : Cond.code Lib.Math.min.name Lib.Math.min.code 2 (some .int) ∈ wsX0_swellFor := by decide +kernel
  have mini : Cond.initialized "java/lang/Math" ∈ wsX0_swellFor := by decide +kernel
  have mmaxlink : Cond.methodLink RX0 75 Lib.Math.max.name ∈ wsX0_swellFor := by decide +kernel
  have mmaxstat : Cond.static Lib.Math.max.name ∈ wsX0_swellFor := by decide +kernel
  have mmaxcode : Cond.code Lib.Math.max.name Lib.Math.max.code 2 (some .int) ∈ wsX0_swellFor := by decide +kernel
  have L2 : ∀ (mu_L2 : Nat), ∀ (j : Nat) (e4 : Nat → Int32), (j ≤ n) → (∀ i, i < j → e4 i = clamp (f4 i + y * f5 i)) → (∀ i, j ≤ i → e4 i = f4 i) → n - j < mu_L2 → zv_V pP l eE rmX0_swellFor sS mM aA bB mT cD Q 4 D vwCl A A (tyL cI cZ) (cL cI cZ h (nI n) r f0 f1 f2 f3 e4 f5 f6 f7 f8 f9 f10 f11 f12 f13) 0 0 2 [(0, .ref (h 0)), (1, .int y), (2, .int (nI j))] [] := by
    intro mu_L2
    induction mu_L2 with
    | zero => intro j e4 hj ha hb hmu_L2; exact absurd hmu_L2 (Nat.not_lt_zero _)
    | succ mu_L2 ih_L2 =>
      intro j e4 hj ha hb hmu_L2
      refine zv_iload_n C dX0_swellFor_2 3 rfl 2 rfl ?_
      refine zv_aload_n C dX0_swellFor_3 4 rfl 0 rfl ?_
      refine zv_get (ci := 0) C inX0 rfl dX0_swellFor_4 7 rfl 0 0 rfl (by decide) lk9 rfl ?_
      refine zv_icmp_ge C dX0_swellFor_7 10 48 rfl (by decide) (fun c1 => ?_) (fun c1 => ?_)
      · replace c1 := zn_le (a := n) (b := j) (by omega) (by omega) c1
        refine zv_aload_n C dX0_swellFor_48 49 rfl 0 rfl ?_
        refine zv_callV (rest := []) (wr := []) C (k_X0_settle l D cI cZ h n r f0 f1 f2 f3 e4 f5 f6 f7 f8 f9 f10 f11 f12 f13 d (by omega) (by assumption)) (cwV 0 C.1.2.2.2.2 gX0_swellFor_X0_settle rfl rfl rfl (by decide +kernel) ⟨Nat.le_of_ble_eq_true rfl, Nat.le_of_ble_eq_true rfl⟩) dX0_swellFor_49 52 rfl (ci := 0) 0 rfl rfl rfl rfl (Nat.le_of_ble_eq_true rfl) ⟨Nat.le_of_ble_eq_true rfl, Nat.le_of_ble_eq_true rfl⟩ [0, 1] rfl [0, 1, 2, 3, 4, 5, 6, 7, 8, 9, 10, 11, 12, 13, 14] rfl (by decide) [] rfl (by decide) (by decide +kernel) (fun v w hv => ?_)
        obtain ⟨rfl, u7_15, u8_15, u9_15, u10_15, u11_15, u12_15, u13_15, rfl, hu15⟩ := hv
        refine zv_go rfl rfl (st' := []) rfl (kc' := 0) rfl (ns' := 0) rfl ?_
        refine zv_wd (ws' := (cL cI cZ h (nI n) r f0 f1 f2 f3 e4 f5 f6 u7_15 u8_15 u9_15 u10_15 u11_15 u12_15 u13_15)) rfl ?_
        exact zv_vret C hr hlk hQ dX0_swellFor_52 (by
      have hjn : j = n := (by omega)
      subst hjn
      exact ⟨rfl, e4, u7_15, u8_15, u9_15, u10_15, u11_15, u12_15, u13_15, rfl, ha, hb, hu15⟩)
      · replace c1 := zn_le' (a := n) (b := j) (by omega) (by omega) c1
        refine zv_aload_n C dX0_swellFor_10 11 rfl 0 rfl ?_
        refine zv_get (ci := 0) C inX0 rfl dX0_swellFor_11 14 rfl 0 6 rfl (by decide) lk32 rfl ?_
        refine zv_iload_n C dX0_swellFor_14 15 rfl 2 rfl ?_
        refine zv_iald (v := (e4 j)) C dX0_swellFor_15 16 rfl 5 0 j rfl rfl rfl (by omega) (by decide) rfl ?_
        refine zv_iload_n C dX0_swellFor_16 17 rfl 1 rfl ?_
        refine zv_aload_n C dX0_swellFor_17 18 rfl 0 rfl ?_
        refine zv_get (ci := 0) C inX0 rfl dX0_swellFor_18 21 rfl 0 7 rfl (by decide) lk35 rfl ?_
        refine zv_iload_n C dX0_swellFor_21 22 rfl 2 rfl ?_
        refine zv_iald (v := (f5 j)) C dX0_swellFor_22 23 rfl 6 0 j rfl rfl rfl (by omega) (by decide) rfl ?_
        refine zv_imul (v := (y * (f5 j))) C dX0_swellFor_23 24 rfl rfl ?_
        refine zv_iadd (v := ((e4 j) + (y * (f5 j)))) C dX0_swellFor_24 25 rfl rfl ?_
        refine zv_istore_n C dX0_swellFor_25 26 rfl [(3, .int ((e4 j) + (y * (f5 j)))), (0, .ref (h 0)), (1, .int y), (2, .int (nI j))] (by decide) rfl ?_
        refine zv_aload_n C dX0_swellFor_26 27 rfl 1 rfl ?_
        refine zv_get (ci := 0) C inX0 rfl dX0_swellFor_27 30 rfl 0 6 rfl (by decide) lk32 rfl ?_
        refine zv_iload_n C dX0_swellFor_30 31 rfl 3 rfl ?_
        refine zv_iconst (v := 0) C dX0_swellFor_31 32 rfl (by decide) ?_
        refine zv_bipush (v := 99) C dX0_swellFor_32 34 rfl (by decide) ?_
        refine zv_iload_n C dX0_swellFor_34 35 rfl 0 rfl ?_
        refine zv_mmin C dX0_swellFor_35 38 rfl mminlink mminstat mini mmincode (Nat.le_of_ble_eq_true rfl) (Nat.le_of_ble_eq_true rfl) (Nat.le_of_ble_eq_true rfl) (Nat.le_of_ble_eq_true rfl) ?_
        refine zv_mmax C dX0_swellFor_38 41 rfl mmaxlink mmaxstat mini mmaxcode (Nat.le_of_ble_eq_true rfl) (Nat.le_of_ble_eq_true rfl) (Nat.le_of_ble_eq_true rfl) (Nat.le_of_ble_eq_true rfl) ?_
        refine zv_iast (x' := (if 0 < (if ((e4 j) + (y * (f5 j))) < 99 then ((e4 j) + (y * (f5 j))) else 99) then (if ((e4 j) + (y * (f5 j))) < 99 then ((e4 j) + (y * (f5 j))) else 99) else 0)) C dX0_swellFor_41 42 rfl 5 0 j rfl rfl rfl (by omega) (by decide) rfl (cL cI cZ h (nI n) r f0 f1 f2 f3 (upd e4 j (if 0 < (if ((e4 j) + (y * (f5 j))) < 99 then ((e4 j) + (y * (f5 j))) else 99) then (if ((e4 j) + (y * (f5 j))) < 99 then ((e4 j) + (y * (f5 j))) else 99) else 0)) f5 f6 f7 f8 f9 f10 f11 f12 f13) rfl ?_
        refine zv_iinc (v := (nI (j + 1))) C dX0_swellFor_42 45 rfl [(2, .int (nI (j + 1))), (3, .int ((e4 j) + (y * (f5 j)))), (0, .ref (h 0)), (1, .int y)] 3 rfl (nI_1 j) (by decide) rfl ?_
        refine zv_goto C dX0_swellFor_45 2 (by decide) ?_
        refine zv_sub [2, 3, 0] (lv' := [(0, .ref (h 0)), (1, .int y), (2, .int (nI (j + 1)))]) rfl ?_
        exact ih_L2 (j + 1) (upd e4 j (if 0 < (if ((e4 j) + (y * (f5 j))) < 99 then ((e4 j) + (y * (f5 j))) else 99) then (if ((e4 j) + (y * (f5 j))) < 99 then ((e4 j) + (y * (f5 j))) else 99) else 0)) (by omega) (fun i hi => by
      by_cases hij : i = j
      · subst hij; rw [upd_at, hb i (Nat.le_refl i)]; rfl
      · rw [upd_ne _ _ _ hij]; exact ha i (by omega)) (fun i hi => by rw [upd_ne _ _ _ (by omega)]; exact hb i (by omega)) (by omega)
  refine zv_go (pc' := 0) rfl (lv' := [(0, .ref (h 0)), (1, .int y)]) rfl rfl rfl rfl ?_
  refine zv_iconst (v := 0) C dX0_swellFor_0 1 rfl (by decide) ?_
  refine zv_istore_n C dX0_swellFor_1 2 rfl [(2, .int 0), (0, .ref (h 0)), (1, .int y)] (by decide) rfl ?_
  refine zv_sub [1, 2, 0] (lv' := [(0, .ref (h 0)), (1, .int y), (2, .int 0)]) rfl ?_
  exact L2 _ 0 f4 (Nat.zero_le n) (fun i hi => absurd hi (Nat.not_lt_zero i)) (fun i _ => rfl) (Nat.lt_succ_self _)
abbrev rmX0_leadOn : Room := { frames := 3, cells := 0, slots := 0, locals := 70 }
set_option maxHeartbeats 4000000 in
set_option maxRecDepth 100000 in
theorem k_X0_leadOn (l : Launch) (D : va_G) (cI cZ : ClassId) (h : Nat → Nat) (n : Nat) (r : Int32) (f0 f1 f2 f3 f4 f5 f6 f7 f8 f9 f10 f11 f12 f13 : Nat → Int32) (p to : Nat) (d : Nat → Nat) (hn : n ≤ 16) (hp : p < n) (hto : to < n) (hw : Vw n (upd f0 p (nI to))) (hDx : ∀ e1 : Nat → Int32, (∀ i, i < n → e1 i = nI (cs (upd f0 p (nI to)) 16 ((upd f0 p (nI to)) i))) → Dep n (upd f0 p (nI to)) e1 d) : zv_M l yX0_leadOn wsX0_leadOn rmX0_leadOn D vwCl (tyL cI cZ) [.ref (h 0), .int (nI p), .int (nI to)] (cL cI cZ h (nI n) r f0 f1 f2 f3 f4 f5 f6 f7 f8 f9 f10 f11 f12 f13) (fun v w => v = none ∧ ∃ (e1 g7 g8 g9 g10 g11 g12 g13 : Nat → Int32), w = (cL cI cZ h (nI n) r (upd f0 p (nI to)) e1 f2 f3 f4 f5 f6 g7 g8 g9 g10 g11 g12 g13) ∧ (∀ i, i < n → e1 i = nI (cs (upd f0 p (nI to)) 16 ((upd f0 p (nI to)) i))) ∧ (∀ i, n ≤ i → e1 i = f1 i) ∧ Stl n (upd f0 p (nI to)) f3 f4 f6 r g7 g8 g9 g10 g11 g12 g13) := by
  refine zv_M.of cX0_leadOn 4 none (by decide) rfl (Nat.le_of_ble_eq_true rfl) ?_
  intro pP eE sS mM aA bB mT cD A C hr hlk hnm Q hQ
  have inX0 : ∀ w ∈ u_ws RX0 TX0 16, w ∈ wsX0_leadOn := by decide +kernel
  have lk9 : Cond.fieldLink RX0 9 "RiverNames$Land" "count" "I" ∈ wsX0_leadOn := by decide +kernel
  have lk22 : Cond.fieldLink RX0 22 "RiverNames$Land" "stepsToSea" "[I" ∈ wsX0_leadOn := by decide +kernel
  have lk18 : Cond.fieldLink RX0 18 "RiverNames$Land" "ways" "[I" ∈ wsX0_leadOn := by decide +kernel
  have L9 : ∀ (mu_L9 : Nat), ∀ (j : Nat) (e1 : Nat → Int32), (j ≤ n) → (∀ i, i < j → e1 i = nI (cs (upd f0 p (nI to)) 16 ((upd f0 p (nI to)) i))) → (∀ i, j ≤ i → e1 i = f1 i) → n - j < mu_L9 → zv_V pP l eE rmX0_leadOn sS mM aA bB mT cD Q 4 D vwCl A A (tyL cI cZ) (cL cI cZ h (nI n) r (upd f0 p (nI to)) e1 f2 f3 f4 f5 f6 f7 f8 f9 f10 f11 f12 f13) 0 0 9 [(0, .ref (h 0)), (1, .int (nI p)), (2, .int (nI to)), (3, .int (nI j))] [] := by
    intro mu_L9
    induction mu_L9 with
    | zero => intro j e1 hj ha hb hmu_L9; exact absurd hmu_L9 (Nat.not_lt_zero _)
    | succ mu_L9 ih_L9 =>
      intro j e1 hj ha hb hmu_L9
      refine zv_iload_n C dX0_leadOn_9 10 rfl 3 rfl ?_
      refine zv_aload_n C dX0_leadOn_10 11 rfl 0 rfl ?_
      refine zv_get (ci := 0) C inX0 rfl dX0_leadOn_11 14 rfl 0 0 rfl (by decide) lk9 rfl ?_
      refine zv_icmp_ge C dX0_leadOn_14 17 34 rfl (by decide) (fun c1 => ?_) (fun c1 => ?_)
      · replace c1 := zn_le (a := n) (b := j) (by omega) (by omega) c1
        have hjn : j = n := (by omega)
        have hD : Dep n (upd f0 p (nI to)) e1 d := hDx e1 (fun i hi => ha i (by omega))
        refine zv_aload_n C dX0_leadOn_34 35 rfl 0 rfl ?_
        refine zv_callV (rest := []) (wr := []) C (k_X0_settle l D cI cZ h n r (upd f0 p (nI to)) e1 f2 f3 f4 f5 f6 f7 f8 f9 f10 f11 f12 f13 d (by omega) (by assumption)) (cwV 0 C.1.2.2.2.2 gX0_leadOn_X0_settle rfl rfl rfl (by decide +kernel) ⟨Nat.le_of_ble_eq_true rfl, Nat.le_of_ble_eq_true rfl⟩) dX0_leadOn_35 38 rfl (ci := 0) 0 rfl rfl rfl rfl (Nat.le_of_ble_eq_true rfl) ⟨Nat.le_of_ble_eq_true rfl, Nat.le_of_ble_eq_true rfl⟩ [0, 1] rfl [0, 1, 2, 3, 4, 5, 6, 7, 8, 9, 10, 11, 12, 13, 14] rfl (by decide) [] rfl (by decide) (by decide +kernel) (fun v w hv => ?_)
        obtain ⟨rfl, u7_16, u8_16, u9_16, u10_16, u11_16, u12_16, u13_16, rfl, hu16⟩ := hv
        refine zv_go rfl rfl (st' := []) rfl (kc' := 0) rfl (ns' := 0) rfl ?_
        refine zv_wd (ws' := (cL cI cZ h (nI n) r (upd f0 p (nI to)) e1 f2 f3 f4 f5 f6 u7_16 u8_16 u9_16 u10_16 u11_16 u12_16 u13_16)) rfl ?_
        exact zv_vret C hr hlk hQ dX0_leadOn_38 ⟨rfl, e1, u7_16, u8_16, u9_16, u10_16, u11_16, u12_16, u13_16, rfl, (fun i hi => ha i (by omega)), (fun i hi => hb i (by omega)), hu16⟩
      · replace c1 := zn_le' (a := n) (b := j) (by omega) (by omega) c1
        refine zv_aload_n C dX0_leadOn_17 18 rfl 0 rfl ?_
        refine zv_get (ci := 0) C inX0 rfl dX0_leadOn_18 21 rfl 0 3 rfl (by decide) lk22 rfl ?_
        refine zv_iload_n C dX0_leadOn_21 22 rfl 3 rfl ?_
        refine zv_aload_n C dX0_leadOn_22 23 rfl 0 rfl ?_
        refine zv_iload_n C dX0_leadOn_23 24 rfl 3 rfl ?_
        refine zv_callVR (rest := [.int (nI j), .ref (h 2)]) C (k_X0_countSteps l D cI cZ h n r (upd f0 p (nI to)) e1 f2 f3 f4 f5 f6 f7 f8 f9 f10 f11 f12 f13 j (by assumption) (by assumption) (by assumption)) (cwV 1 C.1.2.2.2.2 gX0_leadOn_X0_countSteps rfl rfl rfl (by decide +kernel) ⟨Nat.le_of_ble_eq_true rfl, Nat.le_of_ble_eq_true rfl⟩) dX0_leadOn_24 27 rfl (ci := 0) 0 rfl rfl rfl rfl (Nat.le_of_ble_eq_true rfl) ⟨Nat.le_of_ble_eq_true rfl, Nat.le_of_ble_eq_true rfl⟩ [0, 1] rfl [0, 1, 2, 3, 4, 5, 6, 7, 8, 9, 10, 11, 12, 13, 14] rfl (by decide) (fun v hv => ?_)
        subst hv
        refine zv_go rfl rfl (st' := [.int (nI (cs (upd f0 p (nI to)) 16 ((upd f0 p (nI to)) j))), .int (nI j), .ref (h 2)]) rfl (kc' := 0) rfl (ns' := 0) rfl ?_
        refine zv_iast (x' := (nI (cs (upd f0 p (nI to)) 16 ((upd f0 p (nI to)) j)))) C dX0_leadOn_27 28 rfl 2 0 j rfl rfl rfl (by omega) (by decide) rfl (cL cI cZ h (nI n) r (upd f0 p (nI to)) (upd e1 j (nI (cs (upd f0 p (nI to)) 16 ((upd f0 p (nI to)) j)))) f2 f3 f4 f5 f6 f7 f8 f9 f10 f11 f12 f13) rfl ?_
        refine zv_iinc (v := (nI (j + 1))) C dX0_leadOn_28 31 rfl [(3, .int (nI (j + 1))), (0, .ref (h 0)), (1, .int (nI p)), (2, .int (nI to))] 3 rfl (nI_1 j) (by decide) rfl ?_
        refine zv_goto C dX0_leadOn_31 9 (by decide) ?_
        refine zv_sub [1, 2, 3, 0] (lv' := [(0, .ref (h 0)), (1, .int (nI p)), (2, .int (nI to)), (3, .int (nI (j + 1)))]) rfl ?_
        exact ih_L9 (j + 1) (upd e1 j (nI (cs (upd f0 p (nI to)) 16 ((upd f0 p (nI to)) j)))) (by omega) (fun i hi => by
      by_cases hij : i = j
      · subst hij; rw [upd_at]
      · rw [upd_ne _ _ _ hij]; exact ha i (by omega)) (fun i hi => by rw [upd_ne _ _ _ (by omega)]; exact hb i (by omega)) (by omega)
  refine zv_go (pc' := 0) rfl (lv' := [(0, .ref (h 0)), (1, .int (nI p)), (2, .int (nI to))]) rfl rfl rfl rfl ?_
  refine zv_aload_n C dX0_leadOn_0 1 rfl 0 rfl ?_
  refine zv_get (ci := 0) C inX0 rfl dX0_leadOn_1 4 rfl 0 2 rfl (by decide) lk18 rfl ?_
  refine zv_iload_n C dX0_leadOn_4 5 rfl 1 rfl ?_
  refine zv_iload_n C dX0_leadOn_5 6 rfl 2 rfl ?_
  refine zv_iast (x' := (nI to)) C dX0_leadOn_6 7 rfl 1 0 p rfl rfl rfl (by omega) (by decide) rfl (cL cI cZ h (nI n) r (upd f0 p (nI to)) f1 f2 f3 f4 f5 f6 f7 f8 f9 f10 f11 f12 f13) rfl ?_
  refine zv_iconst (v := 0) C dX0_leadOn_7 8 rfl (by decide) ?_
  refine zv_istore_n C dX0_leadOn_8 9 rfl [(3, .int 0), (0, .ref (h 0)), (1, .int (nI p)), (2, .int (nI to))] (by decide) rfl ?_
  refine zv_sub [1, 2, 3, 0] (lv' := [(0, .ref (h 0)), (1, .int (nI p)), (2, .int (nI to)), (3, .int 0)]) rfl ?_
  exact L9 _ 0 f1 (Nat.zero_le n) (fun i hi => absurd hi (Nat.not_lt_zero i)) (fun i _ => rfl) (Nat.lt_succ_self _)
abbrev rmX0_takeOver : Room := { frames := 0, cells := 0, slots := 0, locals := 0 }
set_option maxHeartbeats 4000000 in
set_option maxRecDepth 100000 in
theorem k_X0_takeOver (l : Launch) (D : va_G) (cI cZ : ClassId) (h k : Nat → Nat) (n : Nat) (r : Int32) (f0 f1 f2 f3 f4 f5 f6 f7 f8 f9 f10 f11 f12 f13 : Nat → Int32) (n1 : Nat) (r1 : Int32) (g0 g1 g2 g3 g4 g5 g6 g7 g8 g9 g10 g11 g12 g13 : Nat → Int32) (hn : n1 ≤ 16) (hz2 : ∀ i, zo (g2 i)) (hz6 : ∀ i, zo (g6 i)) : zv_M l yX0_takeOver wsX0_takeOver rmX0_takeOver D vwCl (tyL cI cZ) [.ref (h 0), .ref (k 0)] ((cL cI cZ h (nI n) r f0 f1 f2 f3 f4 f5 f6 f7 f8 f9 f10 f11 f12 f13) ++ (cL cI cZ k (nI n1) r1 g0 g1 g2 g3 g4 g5 g6 g7 g8 g9 g10 g11 g12 g13)) (fun v w => v = none ∧ ∃ (e0 e1 e2 e3 e4 e5 e6 : Nat → Int32), w = ((cL cI cZ h (nI n1) r1 e0 e1 e2 e3 e4 e5 e6 f7 f8 f9 f10 f11 f12 f13) ++ (cL cI cZ k (nI n1) r1 g0 g1 g2 g3 g4 g5 g6 g7 g8 g9 g10 g11 g12 g13)) ∧ ∀ i, i < n1 → (e0 i = g0 i ∧ e1 i = g1 i ∧ e2 i = g2 i ∧ e3 i = g3 i ∧ e4 i = g4 i ∧ e5 i = g5 i ∧ e6 i = g6 i)) := by
  refine zv_M.of cX0_takeOver 3 none (by decide) rfl (Nat.le_of_ble_eq_true rfl) ?_
  intro pP eE sS mM aA bB mT cD A C hr hlk hnm Q hQ
  have inX0 : ∀ w ∈ u_ws RX0 TX0 16, w ∈ wsX0_takeOver := by decide +kernel
  have lk9 : Cond.fieldLink RX0 9 "RiverNames$Land" "count" "I" ∈ wsX0_takeOver := by decide +kernel
  have lk18 : Cond.fieldLink RX0 18 "RiverNames$Land" "ways" "[I" ∈ wsX0_takeOver := by decide +kernel
  have lk22 : Cond.fieldLink RX0 22 "RiverNames$Land" "stepsToSea" "[I" ∈ wsX0_takeOver := by decide +kernel
  have lk25 : Cond.fieldLink RX0 25 "RiverNames$Land" "sprung" "[Z" ∈ wsX0_takeOver := by decide +kernel
  have lk29 : Cond.fieldLink RX0 29 "RiverNames$Land" "springNames" "[I" ∈ wsX0_takeOver := by decide +kernel
  have lk32 : Cond.fieldLink RX0 32 "RiverNames$Land" "springWater" "[I" ∈ wsX0_takeOver := by decide +kernel
  have lk35 : Cond.fieldLink RX0 35 "RiverNames$Land" "swells" "[I" ∈ wsX0_takeOver := by decide +kernel
  have lk38 : Cond.fieldLink RX0 38 "RiverNames$Land" "deltas" "[Z" ∈ wsX0_takeOver := by decide +kernel
  have lk15 : Cond.fieldLink RX0 15 "RiverNames$Land" "rule" "I" ∈ wsX0_takeOver := by decide +kernel
  have L18 : ∀ (mu_L18 : Nat), ∀ (j : Nat) (e0 e1 e2 e3 e4 e5 e6 : Nat → Int32), (j ≤ n1) → (∀ i, i < j → (e0 i = g0 i ∧ e1 i = g1 i ∧ e2 i = g2 i ∧ e3 i = g3 i ∧ e4 i = g4 i ∧ e5 i = g5 i ∧ e6 i = g6 i)) → n1 - j < mu_L18 → zv_V pP l eE rmX0_takeOver sS mM aA bB mT cD Q 3 D vwCl A A (tyL cI cZ) ((cL cI cZ h (nI n1) r1 e0 e1 e2 e3 e4 e5 e6 f7 f8 f9 f10 f11 f12 f13) ++ (cL cI cZ k (nI n1) r1 g0 g1 g2 g3 g4 g5 g6 g7 g8 g9 g10 g11 g12 g13)) 0 0 18 [(0, .ref (h 0)), (1, .ref (k 0)), (2, .int (nI j))] [] := by
    intro mu_L18
    induction mu_L18 with
    | zero => intro j e0 e1 e2 e3 e4 e5 e6 hj ha hmu_L18; exact absurd hmu_L18 (Nat.not_lt_zero _)
    | succ mu_L18 ih_L18 =>
      intro j e0 e1 e2 e3 e4 e5 e6 hj ha hmu_L18
      refine zv_iload_n C dX0_takeOver_18 19 rfl 2 rfl ?_
      refine zv_aload_n C dX0_takeOver_19 20 rfl 0 rfl ?_
      refine zv_get (ci := 0) C inX0 rfl dX0_takeOver_20 23 rfl 0 0 rfl (by decide) lk9 rfl ?_
      refine zv_icmp_ge C dX0_takeOver_23 26 116 rfl (by decide) (fun c1 => ?_) (fun c1 => ?_)
      · replace c1 := zn_le (a := n1) (b := j) (by omega) (by omega) c1
        exact zv_vret C hr hlk hQ dX0_takeOver_116 ⟨rfl, e0, e1, e2, e3, e4, e5, e6, rfl, fun i hi => ha i (by omega)⟩
      · replace c1 := zn_le' (a := n1) (b := j) (by omega) (by omega) c1
        refine zv_aload_n C dX0_takeOver_26 27 rfl 0 rfl ?_
        refine zv_get (ci := 0) C inX0 rfl dX0_takeOver_27 30 rfl 0 2 rfl (by decide) lk18 rfl ?_
        refine zv_iload_n C dX0_takeOver_30 31 rfl 2 rfl ?_
        refine zv_aload_n C dX0_takeOver_31 32 rfl 1 rfl ?_
        refine zv_get (ci := 0) C inX0 rfl dX0_takeOver_32 35 rfl 15 2 rfl (by decide) lk18 rfl ?_
        refine zv_iload_n C dX0_takeOver_35 36 rfl 2 rfl ?_
        refine zv_iald (v := (g0 j)) C dX0_takeOver_36 37 rfl 16 0 j rfl rfl rfl (by omega) (by decide) rfl ?_
        refine zv_iast (x' := (g0 j)) C dX0_takeOver_37 38 rfl 1 0 j rfl rfl rfl (by omega) (by decide) rfl ((cL cI cZ h (nI n1) r1 (upd e0 j (g0 j)) e1 e2 e3 e4 e5 e6 f7 f8 f9 f10 f11 f12 f13) ++ (cL cI cZ k (nI n1) r1 g0 g1 g2 g3 g4 g5 g6 g7 g8 g9 g10 g11 g12 g13)) rfl ?_
        refine zv_aload_n C dX0_takeOver_38 39 rfl 0 rfl ?_
        refine zv_get (ci := 0) C inX0 rfl dX0_takeOver_39 42 rfl 0 3 rfl (by decide) lk22 rfl ?_
        refine zv_iload_n C dX0_takeOver_42 43 rfl 2 rfl ?_
        refine zv_aload_n C dX0_takeOver_43 44 rfl 1 rfl ?_
        refine zv_get (ci := 0) C inX0 rfl dX0_takeOver_44 47 rfl 15 3 rfl (by decide) lk22 rfl ?_
        refine zv_iload_n C dX0_takeOver_47 48 rfl 2 rfl ?_
        refine zv_iald (v := (g1 j)) C dX0_takeOver_48 49 rfl 17 0 j rfl rfl rfl (by omega) (by decide) rfl ?_
        refine zv_iast (x' := (g1 j)) C dX0_takeOver_49 50 rfl 2 0 j rfl rfl rfl (by omega) (by decide) rfl ((cL cI cZ h (nI n1) r1 (upd e0 j (g0 j)) (upd e1 j (g1 j)) e2 e3 e4 e5 e6 f7 f8 f9 f10 f11 f12 f13) ++ (cL cI cZ k (nI n1) r1 g0 g1 g2 g3 g4 g5 g6 g7 g8 g9 g10 g11 g12 g13)) rfl ?_
        refine zv_aload_n C dX0_takeOver_50 51 rfl 0 rfl ?_
        refine zv_get (ci := 0) C inX0 rfl dX0_takeOver_51 54 rfl 0 4 rfl (by decide) lk25 rfl ?_
        refine zv_iload_n C dX0_takeOver_54 55 rfl 2 rfl ?_
        refine zv_aload_n C dX0_takeOver_55 56 rfl 1 rfl ?_
        refine zv_get (ci := 0) C inX0 rfl dX0_takeOver_56 59 rfl 15 4 rfl (by decide) lk25 rfl ?_
        refine zv_iload_n C dX0_takeOver_59 60 rfl 2 rfl ?_
        refine zv_zald (v := (g2 j)) C dX0_takeOver_60 61 rfl 18 1 j rfl rfl rfl (by omega) (by decide) rfl ?_
        refine zv_zast (x' := (g2 j)) C dX0_takeOver_61 62 rfl 3 1 j rfl rfl rfl (by omega) (by decide) (zo_nar (hz2 j)) ((cL cI cZ h (nI n1) r1 (upd e0 j (g0 j)) (upd e1 j (g1 j)) (upd e2 j (g2 j)) e3 e4 e5 e6 f7 f8 f9 f10 f11 f12 f13) ++ (cL cI cZ k (nI n1) r1 g0 g1 g2 g3 g4 g5 g6 g7 g8 g9 g10 g11 g12 g13)) rfl ?_
        refine zv_aload_n C dX0_takeOver_62 63 rfl 0 rfl ?_
        refine zv_get (ci := 0) C inX0 rfl dX0_takeOver_63 66 rfl 0 5 rfl (by decide) lk29 rfl ?_
        refine zv_iload_n C dX0_takeOver_66 67 rfl 2 rfl ?_
        refine zv_aload_n C dX0_takeOver_67 68 rfl 1 rfl ?_
        refine zv_get (ci := 0) C inX0 rfl dX0_takeOver_68 71 rfl 15 5 rfl (by decide) lk29 rfl ?_
        refine zv_iload_n C dX0_takeOver_71 72 rfl 2 rfl ?_
        refine zv_iald (v := (g3 j)) C dX0_takeOver_72 73 rfl 19 0 j rfl rfl rfl (by omega) (by decide) rfl ?_
        refine zv_iast (x' := (g3 j)) C dX0_takeOver_73 74 rfl 4 0 j rfl rfl rfl (by omega) (by decide) rfl ((cL cI cZ h (nI n1) r1 (upd e0 j (g0 j)) (upd e1 j (g1 j)) (upd e2 j (g2 j)) (upd e3 j (g3 j)) e4 e5 e6 f7 f8 f9 f10 f11 f12 f13) ++ (cL cI cZ k (nI n1) r1 g0 g1 g2 g3 g4 g5 g6 g7 g8 g9 g10 g11 g12 g13)) rfl ?_
        refine zv_aload_n C dX0_takeOver_74 75 rfl 0 rfl ?_
        refine zv_get (ci := 0) C inX0 rfl dX0_takeOver_75 78 rfl 0 6 rfl (by decide) lk32 rfl ?_
        refine zv_iload_n C dX0_takeOver_78 79 rfl 2 rfl ?_
        refine zv_aload_n C dX0_takeOver_79 80 rfl 1 rfl ?_
        refine zv_get (ci := 0) C inX0 rfl dX0_takeOver_80 83 rfl 15 6 rfl (by decide) lk32 rfl ?_
        refine zv_iload_n C dX0_takeOver_83 84 rfl 2 rfl ?_
        refine zv_iald (v := (g4 j)) C dX0_takeOver_84 85 rfl 20 0 j rfl rfl rfl (by omega) (by decide) rfl ?_
        refine zv_iast (x' := (g4 j)) C dX0_takeOver_85 86 rfl 5 0 j rfl rfl rfl (by omega) (by decide) rfl ((cL cI cZ h (nI n1) r1 (upd e0 j (g0 j)) (upd e1 j (g1 j)) (upd e2 j (g2 j)) (upd e3 j (g3 j)) (upd e4 j (g4 j)) e5 e6 f7 f8 f9 f10 f11 f12 f13) ++ (cL cI cZ k (nI n1) r1 g0 g1 g2 g3 g4 g5 g6 g7 g8 g9 g10 g11 g12 g13)) rfl ?_
        refine zv_aload_n C dX0_takeOver_86 87 rfl 0 rfl ?_
        refine zv_get (ci := 0) C inX0 rfl dX0_takeOver_87 90 rfl 0 7 rfl (by decide) lk35 rfl ?_
        refine zv_iload_n C dX0_takeOver_90 91 rfl 2 rfl ?_
        refine zv_aload_n C dX0_takeOver_91 92 rfl 1 rfl ?_
        refine zv_get (ci := 0) C inX0 rfl dX0_takeOver_92 95 rfl 15 7 rfl (by decide) lk35 rfl ?_
        refine zv_iload_n C dX0_takeOver_95 96 rfl 2 rfl ?_
        refine zv_iald (v := (g5 j)) C dX0_takeOver_96 97 rfl 21 0 j rfl rfl rfl (by omega) (by decide) rfl ?_
        refine zv_iast (x' := (g5 j)) C dX0_takeOver_97 98 rfl 6 0 j rfl rfl rfl (by omega) (by decide) rfl ((cL cI cZ h (nI n1) r1 (upd e0 j (g0 j)) (upd e1 j (g1 j)) (upd e2 j (g2 j)) (upd e3 j (g3 j)) (upd e4 j (g4 j)) (upd e5 j (g5 j)) e6 f7 f8 f9 f10 f11 f12 f13) ++ (cL cI cZ k (nI n1) r1 g0 g1 g2 g3 g4 g5 g6 g7 g8 g9 g10 g11 g12 g13)) rfl ?_
        refine zv_aload_n C dX0_takeOver_98 99 rfl 0 rfl ?_
        refine zv_get (ci := 0) C inX0 rfl dX0_takeOver_99 102 rfl 0 8 rfl (by decide) lk38 rfl ?_
        refine zv_iload_n C dX0_takeOver_102 103 rfl 2 rfl ?_
        refine zv_aload_n C dX0_takeOver_103 104 rfl 1 rfl ?_
        refine zv_get (ci := 0) C inX0 rfl dX0_takeOver_104 107 rfl 15 8 rfl (by decide) lk38 rfl ?_
        refine zv_iload_n C dX0_takeOver_107 108 rfl 2 rfl ?_
        refine zv_zald (v := (g6 j)) C dX0_takeOver_108 109 rfl 22 1 j rfl rfl rfl (by omega) (by decide) rfl ?_
        refine zv_zast (x' := (g6 j)) C dX0_takeOver_109 110 rfl 7 1 j rfl rfl rfl (by omega) (by decide) (zo_nar (hz6 j)) ((cL cI cZ h (nI n1) r1 (upd e0 j (g0 j)) (upd e1 j (g1 j)) (upd e2 j (g2 j)) (upd e3 j (g3 j)) (upd e4 j (g4 j)) (upd e5 j (g5 j)) (upd e6 j (g6 j)) f7 f8 f9 f10 f11 f12 f13) ++ (cL cI cZ k (nI n1) r1 g0 g1 g2 g3 g4 g5 g6 g7 g8 g9 g10 g11 g12 g13)) rfl ?_
        refine zv_iinc (v := (nI (j + 1))) C dX0_takeOver_110 113 rfl [(2, .int (nI (j + 1))), (0, .ref (h 0)), (1, .ref (k 0))] 2 rfl (nI_1 j) (by decide) rfl ?_
        refine zv_goto C dX0_takeOver_113 18 (by decide) ?_
        refine zv_sub [1, 2, 0] (lv' := [(0, .ref (h 0)), (1, .ref (k 0)), (2, .int (nI (j + 1)))]) rfl ?_
        exact ih_L18 (j + 1) (upd e0 j (g0 j)) (upd e1 j (g1 j)) (upd e2 j (g2 j)) (upd e3 j (g3 j)) (upd e4 j (g4 j)) (upd e5 j (g5 j)) (upd e6 j (g6 j)) (by omega) (fun i hi => by
      by_cases hij : i = j
      · subst hij; exact ⟨upd_at _ _ _, upd_at _ _ _, upd_at _ _ _, upd_at _ _ _, upd_at _ _ _, upd_at _ _ _, upd_at _ _ _⟩
      · simp only [upd_ne _ _ _ hij]; exact ha i (by omega)) (by omega)
  refine zv_go (pc' := 0) rfl (lv' := [(0, .ref (h 0)), (1, .ref (k 0))]) rfl rfl rfl rfl ?_
  refine zv_aload_n C dX0_takeOver_0 1 rfl 0 rfl ?_
  refine zv_aload_n C dX0_takeOver_1 2 rfl 1 rfl ?_
  refine zv_get (ci := 0) C inX0 rfl dX0_takeOver_2 5 rfl 15 0 rfl (by decide) lk9 rfl ?_
  refine zv_put (ci := 0) C inX0 rfl tyX0_ok nmX0 dX0_takeOver_5 8 rfl 0 0 rfl (by decide) lk9 rfl rfl rfl (Nat.le_of_ble_eq_true rfl) ((cL cI cZ h (nI n1) r f0 f1 f2 f3 f4 f5 f6 f7 f8 f9 f10 f11 f12 f13) ++ (cL cI cZ k (nI n1) r1 g0 g1 g2 g3 g4 g5 g6 g7 g8 g9 g10 g11 g12 g13)) rfl ?_
  refine zv_aload_n C dX0_takeOver_8 9 rfl 0 rfl ?_
  refine zv_aload_n C dX0_takeOver_9 10 rfl 1 rfl ?_
  refine zv_get (ci := 0) C inX0 rfl dX0_takeOver_10 13 rfl 15 1 rfl (by decide) lk15 rfl ?_
  refine zv_put (ci := 0) C inX0 rfl tyX0_ok nmX0 dX0_takeOver_13 16 rfl 0 1 rfl (by decide) lk15 rfl rfl rfl (Nat.le_of_ble_eq_true rfl) ((cL cI cZ h (nI n1) r1 f0 f1 f2 f3 f4 f5 f6 f7 f8 f9 f10 f11 f12 f13) ++ (cL cI cZ k (nI n1) r1 g0 g1 g2 g3 g4 g5 g6 g7 g8 g9 g10 g11 g12 g13)) rfl ?_
  refine zv_iconst (v := 0) C dX0_takeOver_16 17 rfl (by decide) ?_
  refine zv_istore_n C dX0_takeOver_17 18 rfl [(2, .int 0), (0, .ref (h 0)), (1, .ref (k 0))] (by decide) rfl ?_
  refine zv_sub [1, 2, 0] (lv' := [(0, .ref (h 0)), (1, .ref (k 0)), (2, .int 0)]) rfl ?_
  exact L18 _ 0 f0 f1 f2 f3 f4 f5 f6 (Nat.zero_le n1) (fun i hi => absurd hi (Nat.not_lt_zero i)) (Nat.lt_succ_self _)
