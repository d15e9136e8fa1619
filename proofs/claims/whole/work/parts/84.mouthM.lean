abbrev rmX2_meanMouth : Room := { frames := 4, cells := 0, slots := 0, locals := 90 }
set_option maxHeartbeats 4000000 in
set_option maxRecDepth 100000 in
theorem k_X2_meanMouth (l : Launch) (D : va_G) (cI cZ : ClassId) (h : Nat → Nat) (t : Int32) (n : Nat) (r y : Int32) (b : Nat) (f0 f1 f2 f3 f4 f5 f6 f7 f8 f9 f10 f11 f12 f13 : Nat → Int32) (s : Nat → Int32) (d : Nat → Nat) (hn : n ≤ 16) (hD : Dep n f0 s d) : zv_M l yX2_meanMouth wsX2_meanMouth rmX2_meanMouth D vwCl (tyL cI cZ) [.ref (h 0)] (cM cI cZ h t (nI n) r y (nI b) f0 f1 f2 f3 f4 f5 f6 f7 f8 f9 f10 f11 f12 f13) (fun v w => ∃ (g8 g9 g10 g11 : Nat → Int32), v = some (.double (mmV f0 (sol n f0 f1 f2 f3 f5 r).1 n)) ∧ w = (cM cI cZ h 0 (nI n) r y (nI b) f0 f1 f2 f3 f4 f5 f6 f7 g8 g9 g10 g11 f12 f13)) := by
  refine zv_M.of cX2_meanMouth 4 (some .double) (by decide) rfl (Nat.le_of_ble_eq_true rfl) ?_
  intro pP eE sS mM aA bB mT cD A C hr hlk hnm Q hQ
  have inX2 : ∀ w ∈ u_ws RX2 TX2 19, w ∈ wsX2_meanMouth := by decide +kernel
  have lk57 : Cond.fieldLink RX2 57 "RiverNamesModel" "places" "I" ∈ wsX2_meanMouth := by decide +kernel
  have lk9 : Cond.fieldLink RX2 9 "RiverNamesModel" "to" "[I" ∈ wsX2_meanMouth := by decide +kernel
  have lk38 : Cond.fieldLink RX2 38 "RiverNamesModel" "water" "[I" ∈ wsX2_meanMouth := by decide +kernel
  have lk53 : Cond.fieldLink RX2 53 "RiverNamesModel" "thrown" "I" ∈ wsX2_meanMouth := by decide +kernel
  have L15 : ∀ (mu_L15 : Nat), ∀ (j c : Nat) (sw : Int32) (g8 g9 g10 g11 : Nat → Int32), (j ≤ n) → (c ≤ j) → (∀ p, p < n → MA n f0 f1 f2 f3 f5 r g9 g10 g11 p) → (mmS f0 g9 j = (c, sw)) → n - j < mu_L15 → zv_V pP l eE rmX2_meanMouth sS mM aA bB mT cD Q 4 D vwCl A A (tyL cI cZ) (cM cI cZ h 0 (nI n) r y (nI b) f0 f1 f2 f3 f4 f5 f6 f7 g8 g9 g10 g11 f12 f13) 0 0 15 [(0, .ref (h 0)), (1, .int sw), (2, .int (nI c)), (3, .int (nI j))] [] := by
    intro mu_L15
    induction mu_L15 with
    | zero => intro j c sw g8 g9 g10 g11 hj hcj hM hm hmu_L15; exact absurd hmu_L15 (Nat.not_lt_zero _)
    | succ mu_L15 ih_L15 =>
      intro j c sw g8 g9 g10 g11 hj hcj hM hm hmu_L15
      refine zv_iload_n C dX2_meanMouth_15 16 rfl 3 rfl ?_
      refine zv_aload_n C dX2_meanMouth_16 17 rfl 0 rfl ?_
      refine zv_get (ci := 2) C inX2 rfl dX2_meanMouth_17 20 rfl 0 1 rfl (by decide) lk57 rfl ?_
      refine zv_icmp_ge C dX2_meanMouth_20 23 54 rfl (by decide) (fun c1 => ?_) (fun c1 => ?_)
      · replace c1 := zn_le (a := n) (b := j) (by omega) (by omega) c1
        refine zv_iload_n C dX2_meanMouth_54 55 rfl 2 rfl ?_
        refine zv_if_ne C dX2_meanMouth_55 58 62 rfl (by decide) (fun c2 => ?_) (fun c2 => ?_)
        · replace c2 : ¬ c = 0 := zn_eq' (a := c) (b := 0) (by omega) (by omega) c2
          refine zv_iload_n C dX2_meanMouth_62 63 rfl 1 rfl ?_
          refine zv_i2d C dX2_meanMouth_63 64 rfl ?_
          refine zv_iload_n C dX2_meanMouth_64 65 rfl 2 rfl ?_
          refine zv_i2d C dX2_meanMouth_65 66 rfl ?_
          refine zv_ddiv C dX2_meanMouth_66 67 rfl (fq_div _ c (by omega) (by assumption)) ?_
          exact zv_dret C hr hlk hQ dX2_meanMouth_67 ⟨g8, g9, g10, g11, (by have hjn : j = n := (by omega); subst hjn; exact congrArg (fun z => some (Value.double z)) ((mmV_q hm (by assumption)).trans (mmV_congr (fun i hi => ⟨rfl, (MA.sol hD hn hM i hi).1⟩)))), rfl⟩
        · replace c2 : c = 0 := zn_eq (a := c) (b := 0) (by omega) (by omega) c2
          refine zv_dconst0 C dX2_meanMouth_58 59 rfl ?_
          refine zv_goto C dX2_meanMouth_59 67 (by decide) ?_
          exact zv_dret C hr hlk hQ dX2_meanMouth_67 ⟨g8, g9, g10, g11, (by have hjn : j = n := (by omega); subst hjn; exact congrArg (fun z => some (Value.double z)) ((mmV_0 hm (by assumption)).trans (mmV_congr (fun i hi => ⟨rfl, (MA.sol hD hn hM i hi).1⟩)))), rfl⟩
      · replace c1 := zn_le' (a := n) (b := j) (by omega) (by omega) c1
        refine zv_aload_n C dX2_meanMouth_23 24 rfl 0 rfl ?_
        refine zv_get (ci := 2) C inX2 rfl dX2_meanMouth_24 27 rfl 0 4 rfl (by decide) lk9 rfl ?_
        refine zv_iload_n C dX2_meanMouth_27 28 rfl 3 rfl ?_
        refine zv_iald (v := (f0 j)) C dX2_meanMouth_28 29 rfl 1 0 j rfl rfl rfl (by omega) (by decide) rfl ?_
        refine zv_iconst (v := (-1 : Int32)) C dX2_meanMouth_29 30 rfl (by decide) ?_
        refine zv_icmp_eq C dX2_meanMouth_30 33 36 rfl (by decide) (fun c3 => ?_) (fun c3 => ?_)
        · refine zv_iinc (v := (nI (c + 1))) C dX2_meanMouth_36 39 rfl [(2, .int (nI (c + 1))), (0, .ref (h 0)), (1, .int sw), (3, .int (nI j))] 2 rfl (nI_1 c) (by decide) rfl ?_
          refine zv_iload_n C dX2_meanMouth_39 40 rfl 2 rfl ?_
          refine zv_aload_n C dX2_meanMouth_40 41 rfl 1 rfl ?_
          refine zv_get (ci := 2) C inX2 rfl dX2_meanMouth_41 44 rfl 0 14 rfl (by decide) lk38 rfl ?_
          refine zv_iload_n C dX2_meanMouth_44 45 rfl 3 rfl ?_
          refine zv_iald (v := (g9 j)) C dX2_meanMouth_45 46 rfl 10 0 j rfl rfl rfl (by omega) (by decide) rfl ?_
          refine zv_iadd (v := (sw + (g9 j))) C dX2_meanMouth_46 47 rfl rfl ?_
          refine zv_istore_n C dX2_meanMouth_47 48 rfl [(1, .int (sw + (g9 j))), (2, .int (nI (c + 1))), (0, .ref (h 0)), (3, .int (nI j))] (by decide) rfl ?_
          refine zv_iinc (v := (nI (j + 1))) C dX2_meanMouth_48 51 rfl [(3, .int (nI (j + 1))), (1, .int (sw + (g9 j))), (2, .int (nI (c + 1))), (0, .ref (h 0))] 3 rfl (nI_1 j) (by decide) rfl ?_
          refine zv_goto C dX2_meanMouth_51 15 (by decide) ?_
          refine zv_sub [3, 1, 2, 0] (lv' := [(0, .ref (h 0)), (1, .int (sw + (g9 j))), (2, .int (nI (c + 1))), (3, .int (nI (j + 1)))]) rfl ?_
          exact ih_L15 (j + 1) (c + 1) (sw + g9 j) g8 g9 g10 g11 (by omega) (by omega) hM (mmS_y f0 g9 hm c3) (by omega)
        · refine zv_goto C dX2_meanMouth_33 48 (by decide) ?_
          refine zv_iinc (v := (nI (j + 1))) C dX2_meanMouth_48 51 rfl [(3, .int (nI (j + 1))), (0, .ref (h 0)), (1, .int sw), (2, .int (nI c))] 3 rfl (nI_1 j) (by decide) rfl ?_
          refine zv_goto C dX2_meanMouth_51 15 (by decide) ?_
          refine zv_sub [1, 2, 3, 0] (lv' := [(0, .ref (h 0)), (1, .int sw), (2, .int (nI c)), (3, .int (nI (j + 1)))]) rfl ?_
          exact ih_L15 (j + 1) c sw g8 g9 g10 g11 (by omega) (by omega) hM (mmS_n f0 g9 hm c3) (by omega)
  refine zv_go (pc' := 0) rfl (lv' := [(0, .ref (h 0))]) rfl rfl rfl rfl ?_
  refine zv_aload_n C dX2_meanMouth_0 1 rfl 0 rfl ?_
  refine zv_iconst (v := 0) C dX2_meanMouth_1 2 rfl (by decide) ?_
  refine zv_put (ci := 2) C inX2 rfl tyX2_ok nmX2 dX2_meanMouth_2 5 rfl 0 0 rfl (by decide) lk53 rfl rfl rfl (Nat.le_of_ble_eq_true rfl) (cM cI cZ h 0 (nI n) r y (nI b) f0 f1 f2 f3 f4 f5 f6 f7 f8 f9 f10 f11 f12 f13) rfl ?_
  refine zv_aload_n C dX2_meanMouth_5 6 rfl 0 rfl ?_
  refine zv_callV (rest := []) (wr := []) C (k_X2_reckon l D cI cZ h 0 n r y b f0 f1 f2 f3 f4 f5 f6 f7 f8 f9 f10 f11 f12 f13 s d (by omega) (by assumption)) (cwV 0 C.1.2.2.2.2 gX2_meanMouth_X2_reckon rfl rfl rfl (by decide +kernel) ⟨Nat.le_of_ble_eq_true rfl, Nat.le_of_ble_eq_true rfl⟩) dX2_meanMouth_6 9 rfl (ci := 2) 0 rfl rfl rfl rfl (Nat.le_of_ble_eq_true rfl) ⟨Nat.le_of_ble_eq_true rfl, Nat.le_of_ble_eq_true rfl⟩ [0, 1] rfl [0, 1, 2, 3, 4, 5, 6, 7, 8, 9, 10, 11, 12, 13, 14] rfl (by decide) [] rfl (by decide) (by decide +kernel) (fun v w hv => ?_)
  obtain ⟨u8_107, u9_107, u10_107, u11_107, rfl, rfl, huM107⟩ := hv
  refine zv_go rfl rfl (st' := []) rfl (kc' := 0) rfl (ns' := 0) rfl ?_
  refine zv_wd (ws' := (cM cI cZ h 0 (nI n) r y (nI b) f0 f1 f2 f3 f4 f5 f6 f7 u8_107 u9_107 u10_107 u11_107 f12 f13)) rfl ?_
  refine zv_iconst (v := 0) C dX2_meanMouth_9 10 rfl (by decide) ?_
  refine zv_istore_n C dX2_meanMouth_10 11 rfl [(1, .int 0), (0, .ref (h 0))] (by decide) rfl ?_
  refine zv_iconst (v := 0) C dX2_meanMouth_11 12 rfl (by decide) ?_
  refine zv_istore_n C dX2_meanMouth_12 13 rfl [(2, .int 0), (1, .int 0), (0, .ref (h 0))] (by decide) rfl ?_
  refine zv_iconst (v := 0) C dX2_meanMouth_13 14 rfl (by decide) ?_
  refine zv_istore_n C dX2_meanMouth_14 15 rfl [(3, .int 0), (2, .int 0), (1, .int 0), (0, .ref (h 0))] (by decide) rfl ?_
  refine zv_sub [3, 2, 1, 0] (lv' := [(0, .ref (h 0)), (1, .int 0), (2, .int 0), (3, .int 0)]) rfl ?_
  exact L15 _ 0 0 0 u8_107 u9_107 u10_107 u11_107 (Nat.zero_le _) (Nat.le_refl 0) huM107 rfl (Nat.lt_succ_self _)
