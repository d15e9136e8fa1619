abbrev rmX1_meanMouth : Room := { frames := 1, cells := 0, slots := 0, locals := 21 }
set_option maxHeartbeats 4000000 in
set_option maxRecDepth 100000 in
theorem k_X1_meanMouth (l : Launch) (D : va_G) (cI cZ : ClassId) (q h k : Nat → Nat) (b : Nat) (y : Int32) (n : Nat) (r : Int32) (f0 f1 f2 f3 f4 f5 f6 f7 f8 f9 f10 f11 f12 f13 : Nat → Int32) (n1 : Nat) (r1 : Int32) (g0 g1 g2 g3 g4 g5 g6 g7 g8 g9 g10 g11 g12 g13 : Nat → Int32) (bp bn : Nat → Int32) (hn : n ≤ 16) : zv_R l yX1_meanMouth wsX1_meanMouth rmX1_meanMouth D vwCl (tyL cI cZ) [.ref (q 0)] (cR cI cZ q h k (nI b) y (nI n) r f0 f1 f2 f3 f4 f5 f6 f7 f8 f9 f10 f11 f12 f13 (nI n1) r1 g0 g1 g2 g3 g4 g5 g6 g7 g8 g9 g10 g11 g12 g13 bp bn) (fun v => v = some (.double (mmV f0 f7 n))) := by
  refine zv_R.of cX1_meanMouth 4 (some .double) (by decide) rfl (Nat.le_of_ble_eq_true rfl) ?_
  intro pP eE sS mM aA bB mT cD A C hr hlk hA Q hQ
  have inX1 : ∀ w ∈ u_ws RX1 TX1 6, w ∈ wsX1_meanMouth := by decide +kernel
  have lk10 : Cond.fieldLink RX1 10 "RiverNames" "land" "LRiverNames$Land;" ∈ wsX1_meanMouth := by decide +kernel
  have L6 : ∀ (mu_L6 : Nat), ∀ (j c : Nat) (sw : Int32), (j ≤ n) → (c ≤ j) → (mmS f0 f7 j = (c, sw)) → n - j < mu_L6 → zv_V pP l eE rmX1_meanMouth sS mM aA bB mT cD Q 4 D vwCl A (fun _ => True) (tyL cI cZ) (cR cI cZ q h k (nI b) y (nI n) r f0 f1 f2 f3 f4 f5 f6 f7 f8 f9 f10 f11 f12 f13 (nI n1) r1 g0 g1 g2 g3 g4 g5 g6 g7 g8 g9 g10 g11 g12 g13 bp bn) 0 0 6 [(0, .ref (q 0)), (1, .int (nI c)), (2, .int sw), (3, .int (nI j))] [] := by
    intro mu_L6
    induction mu_L6 with
    | zero => intro j c sw hj hcj hm hmu_L6; exact absurd hmu_L6 (Nat.not_lt_zero _)
    | succ mu_L6 ih_L6 =>
      intro j c sw hj hcj hm hmu_L6
      refine zv_iload_n C dX1_meanMouth_6 7 rfl 3 rfl ?_
      refine zv_aload_n C dX1_meanMouth_7 8 rfl 0 rfl ?_
      refine zv_get (ci := 1) C inX1 rfl dX1_meanMouth_8 11 rfl 0 0 rfl (by decide) lk10 rfl ?_
      refine zv_callVR (rest := [.int (nI j)]) C (k_X0_size l D cI cZ h n r f0 f1 f2 f3 f4 f5 f6 f7 f8 f9 f10 f11 f12 f13) (cwV 0 C.1.2.2.2.2 gX1_meanMouth_X0_size rfl rfl rfl (by decide +kernel) ⟨Nat.le_of_ble_eq_true rfl, Nat.le_of_ble_eq_true rfl⟩) dX1_meanMouth_11 14 rfl (ci := 0) 0 rfl rfl rfl rfl (Nat.le_of_ble_eq_true rfl) ⟨Nat.le_of_ble_eq_true rfl, Nat.le_of_ble_eq_true rfl⟩ [0, 1] rfl [1, 2, 3, 4, 5, 6, 7, 8, 9, 10, 11, 12, 13, 14, 15] rfl (by decide) (fun v hv => ?_)
      subst hv
      refine zv_go rfl rfl (st' := [.int (nI n), .int (nI j)]) rfl (kc' := 0) rfl (ns' := 0) rfl ?_
      refine zv_icmp_ge C dX1_meanMouth_14 17 49 rfl (by decide) (fun c1 => ?_) (fun c1 => ?_)
      · replace c1 := zn_le (a := n) (b := j) (by omega) (by omega) c1
        refine zv_iload_n C dX1_meanMouth_49 50 rfl 1 rfl ?_
        refine zv_if_ne C dX1_meanMouth_50 53 57 rfl (by decide) (fun c2 => ?_) (fun c2 => ?_)
        · replace c2 : ¬ c = 0 := zn_eq' (a := c) (b := 0) (by omega) (by omega) c2
          refine zv_iload_n C dX1_meanMouth_57 58 rfl 2 rfl ?_
          refine zv_i2d C dX1_meanMouth_58 59 rfl ?_
          refine zv_iload_n C dX1_meanMouth_59 60 rfl 1 rfl ?_
          refine zv_i2d C dX1_meanMouth_60 61 rfl ?_
          refine zv_ddiv C dX1_meanMouth_61 62 rfl (fq_div _ c (by omega) (by assumption)) ?_
          exact zv_dretR C hr hlk hA hQ dX1_meanMouth_62 (by have hjn : j = n := (by omega); subst hjn; exact congrArg (fun z => some (Value.double z)) (mmV_q hm (by assumption)))
        · replace c2 : c = 0 := zn_eq (a := c) (b := 0) (by omega) (by omega) c2
          refine zv_dconst0 C dX1_meanMouth_53 54 rfl ?_
          refine zv_goto C dX1_meanMouth_54 62 (by decide) ?_
          exact zv_dretR C hr hlk hA hQ dX1_meanMouth_62 (by have hjn : j = n := (by omega); subst hjn; exact congrArg (fun z => some (Value.double z)) (mmV_0 hm (by assumption)))
      · replace c1 := zn_le' (a := n) (b := j) (by omega) (by omega) c1
        refine zv_aload_n C dX1_meanMouth_17 18 rfl 0 rfl ?_
        refine zv_get (ci := 1) C inX1 rfl dX1_meanMouth_18 21 rfl 0 0 rfl (by decide) lk10 rfl ?_
        refine zv_iload_n C dX1_meanMouth_21 22 rfl 3 rfl ?_
        refine zv_callVR (rest := []) C (k_X0_next l D cI cZ h n r f0 f1 f2 f3 f4 f5 f6 f7 f8 f9 f10 f11 f12 f13 j (by omega)) (cwV 1 C.1.2.2.2.2 gX1_meanMouth_X0_next rfl rfl rfl (by decide +kernel) ⟨Nat.le_of_ble_eq_true rfl, Nat.le_of_ble_eq_true rfl⟩) dX1_meanMouth_22 25 rfl (ci := 0) 0 rfl rfl rfl rfl (Nat.le_of_ble_eq_true rfl) ⟨Nat.le_of_ble_eq_true rfl, Nat.le_of_ble_eq_true rfl⟩ [0, 1] rfl [1, 2, 3, 4, 5, 6, 7, 8, 9, 10, 11, 12, 13, 14, 15] rfl (by decide) (fun v hv => ?_)
        subst hv
        refine zv_go rfl rfl (st' := [.int (f0 j)]) rfl (kc' := 0) rfl (ns' := 0) rfl ?_
        refine zv_iconst (v := (-1 : Int32)) C dX1_meanMouth_25 26 rfl (by decide) ?_
        refine zv_icmp_ne C dX1_meanMouth_26 29 43 rfl (by decide) (fun c3 => ?_) (fun c3 => ?_)
        · refine zv_iinc (v := (nI (j + 1))) C dX1_meanMouth_43 46 rfl [(3, .int (nI (j + 1))), (0, .ref (q 0)), (1, .int (nI c)), (2, .int sw)] 3 rfl (nI_1 j) (by decide) rfl ?_
          refine zv_goto C dX1_meanMouth_46 6 (by decide) ?_
          refine zv_sub [1, 2, 3, 0] (lv' := [(0, .ref (q 0)), (1, .int (nI c)), (2, .int sw), (3, .int (nI (j + 1)))]) rfl ?_
          exact ih_L6 (j + 1) c sw (by omega) (by omega) (mmS_n f0 f7 hm c3) (by omega)
        · refine zv_iinc (v := (nI (c + 1))) C dX1_meanMouth_29 32 rfl [(1, .int (nI (c + 1))), (0, .ref (q 0)), (2, .int sw), (3, .int (nI j))] 1 rfl (nI_1 c) (by decide) rfl ?_
          refine zv_iload_n C dX1_meanMouth_32 33 rfl 2 rfl ?_
          refine zv_aload_n C dX1_meanMouth_33 34 rfl 1 rfl ?_
          refine zv_get (ci := 1) C inX1 rfl dX1_meanMouth_34 37 rfl 0 0 rfl (by decide) lk10 rfl ?_
          refine zv_iload_n C dX1_meanMouth_37 38 rfl 3 rfl ?_
          refine zv_callVR (rest := [.int sw]) C (k_X0_waterOf l D cI cZ h n r f0 f1 f2 f3 f4 f5 f6 f7 f8 f9 f10 f11 f12 f13 j (by omega)) (cwV 1 C.1.2.2.2.2 gX1_meanMouth_X0_waterOf rfl rfl rfl (by decide +kernel) ⟨Nat.le_of_ble_eq_true rfl, Nat.le_of_ble_eq_true rfl⟩) dX1_meanMouth_38 41 rfl (ci := 0) 0 rfl rfl rfl rfl (Nat.le_of_ble_eq_true rfl) ⟨Nat.le_of_ble_eq_true rfl, Nat.le_of_ble_eq_true rfl⟩ [0, 1] rfl [1, 2, 3, 4, 5, 6, 7, 8, 9, 10, 11, 12, 13, 14, 15] rfl (by decide) (fun v hv => ?_)
          subst hv
          refine zv_go rfl rfl (st' := [.int (f7 j), .int sw]) rfl (kc' := 0) rfl (ns' := 0) rfl ?_
          refine zv_iadd (v := (sw + (f7 j))) C dX1_meanMouth_41 42 rfl rfl ?_
          refine zv_istore_n C dX1_meanMouth_42 43 rfl [(2, .int (sw + (f7 j))), (1, .int (nI (c + 1))), (0, .ref (q 0)), (3, .int (nI j))] (by decide) rfl ?_
          refine zv_iinc (v := (nI (j + 1))) C dX1_meanMouth_43 46 rfl [(3, .int (nI (j + 1))), (2, .int (sw + (f7 j))), (1, .int (nI (c + 1))), (0, .ref (q 0))] 3 rfl (nI_1 j) (by decide) rfl ?_
          refine zv_goto C dX1_meanMouth_46 6 (by decide) ?_
          refine zv_sub [3, 2, 1, 0] (lv' := [(0, .ref (q 0)), (1, .int (nI (c + 1))), (2, .int (sw + (f7 j))), (3, .int (nI (j + 1)))]) rfl ?_
          exact ih_L6 (j + 1) (c + 1) (sw + f7 j) (by omega) (by omega) (mmS_y f0 f7 hm c3) (by omega)
  refine zv_go (pc' := 0) rfl (lv' := [(0, .ref (q 0))]) rfl rfl rfl rfl ?_
  refine zv_iconst (v := 0) C dX1_meanMouth_0 1 rfl (by decide) ?_
  refine zv_istore_n C dX1_meanMouth_1 2 rfl [(1, .int 0), (0, .ref (q 0))] (by decide) rfl ?_
  refine zv_iconst (v := 0) C dX1_meanMouth_2 3 rfl (by decide) ?_
  refine zv_istore_n C dX1_meanMouth_3 4 rfl [(2, .int 0), (1, .int 0), (0, .ref (q 0))] (by decide) rfl ?_
  refine zv_iconst (v := 0) C dX1_meanMouth_4 5 rfl (by decide) ?_
  refine zv_istore_n C dX1_meanMouth_5 6 rfl [(3, .int 0), (2, .int 0), (1, .int 0), (0, .ref (q 0))] (by decide) rfl ?_
  refine zv_sub [3, 2, 1, 0] (lv' := [(0, .ref (q 0)), (1, .int 0), (2, .int 0), (3, .int 0)]) rfl ?_
  exact L6 _ 0 0 0 (Nat.zero_le _) (Nat.le_refl 0) rfl (Nat.lt_succ_self _)
