abbrev dfX0 : List Value := [.int 0, .int 0, .null, .null, .null, .null, .null, .null, .null, .null, .null, .null, .null, .null, .null, .null]
theorem dfX0_ok : ∀ j, j < 16 → defaultValue (tyX0 j) = vp_V dfX0 j := by decide +kernel
abbrev dfX1 : List Value := [.null, .null, .null, .null, .int 0, .int 0]
theorem dfX1_ok : ∀ j, j < 6 → defaultValue (tyX1 j) = vp_V dfX1 j := by decide +kernel
abbrev rmX0_init : Room := { frames := 1, cells := 14, slots := 224, locals := 40 }
abbrev rmX1_init : Room := { frames := 2, cells := 32, slots := 512, locals := 80 }
set_option maxHeartbeats 4000000 in
set_option maxRecDepth 100000 in
theorem k_X0_init (l : Launch) (D : va_G) (cI cZ : ClassId) (q0 : Nat) : zv_M l yX0_init wsX0_init rmX0_init D vwCl (tyL cI cZ) [.ref q0] [(q0, .inr (0, dfX0))] (fun v w => ∃ h : Nat → Nat, h 0 = q0 ∧ v = none ∧ w = cL cI cZ h 0 0 z0 z0 z0 z0 z0 z0 z0 z0 z0 z0 z0 z0 z0 z0) := by
  refine zv_M.of cX0_init 1 none (by decide) rfl (Nat.le_of_ble_eq_true rfl) ?_
  intro pP eE sS mM aA bB mT cD A C hr hlk hnm Q hQ
  have lo : Cond.methodLink RX0 3 Lib.objectInit ∈ wsX0_init := by decide +kernel
  have io : Cond.instanceMethod Lib.objectInit ∈ wsX0_init := by decide +kernel
  have co : Cond.code Lib.objectInit ⟨#[0xb1]⟩ 1 none ∈ wsX0_init := by decide +kernel
  have inuX0 : ∀ w ∈ u_ws RX0 TX0 16, w ∈ wsX0_init := by decide +kernel
  have lk9 : Cond.fieldLink RX0 9 "RiverNames$Land" "count" "I" ∈ wsX0_init := by decide +kernel
  have lk15 : Cond.fieldLink RX0 15 "RiverNames$Land" "rule" "I" ∈ wsX0_init := by decide +kernel
  have arI : Cond.arrayClass .int ∈ wsX0_init := by decide +kernel
  have lk18 : Cond.fieldLink RX0 18 "RiverNames$Land" "ways" "[I" ∈ wsX0_init := by decide +kernel
  have lk22 : Cond.fieldLink RX0 22 "RiverNames$Land" "stepsToSea" "[I" ∈ wsX0_init := by decide +kernel
  have arZ : Cond.arrayClass .boolean ∈ wsX0_init := by decide +kernel
  have lk25 : Cond.fieldLink RX0 25 "RiverNames$Land" "sprung" "[Z" ∈ wsX0_init := by decide +kernel
  have lk29 : Cond.fieldLink RX0 29 "RiverNames$Land" "springNames" "[I" ∈ wsX0_init := by decide +kernel
  have lk32 : Cond.fieldLink RX0 32 "RiverNames$Land" "springWater" "[I" ∈ wsX0_init := by decide +kernel
  have lk35 : Cond.fieldLink RX0 35 "RiverNames$Land" "swells" "[I" ∈ wsX0_init := by decide +kernel
  have lk38 : Cond.fieldLink RX0 38 "RiverNames$Land" "deltas" "[Z" ∈ wsX0_init := by decide +kernel
  have lk41 : Cond.fieldLink RX0 41 "RiverNames$Land" "water" "[I" ∈ wsX0_init := by decide +kernel
  have lk44 : Cond.fieldLink RX0 44 "RiverNames$Land" "lengths" "[I" ∈ wsX0_init := by decide +kernel
  have lk47 : Cond.fieldLink RX0 47 "RiverNames$Land" "names" "[I" ∈ wsX0_init := by decide +kernel
  have lk50 : Cond.fieldLink RX0 50 "RiverNames$Land" "arguers" "[I" ∈ wsX0_init := by decide +kernel
  have lk53 : Cond.fieldLink RX0 53 "RiverNames$Land" "disputed" "[Z" ∈ wsX0_init := by decide +kernel
  have lk56 : Cond.fieldLink RX0 56 "RiverNames$Land" "winners" "[I" ∈ wsX0_init := by decide +kernel
  have lk59 : Cond.fieldLink RX0 59 "RiverNames$Land" "strengths" "[I" ∈ wsX0_init := by decide +kernel
  refine zv_go (pc' := 0) rfl (lv' := [(0, .ref q0)]) rfl rfl rfl rfl ?_
  refine zv_aload_n C dX0_init_0 1 rfl 0 rfl ?_
  refine zv_oinit C dX0_init_1 4 rfl lo io co (Nat.le_of_ble_eq_true rfl) (by decide) ?_
  refine zv_aload_n C dX0_init_4 5 rfl 0 rfl ?_
  refine zv_iconst (v := 0) C dX0_init_5 6 rfl (by decide) ?_
  refine zv_put (ci := 0) C inuX0 rfl tyX0_ok nmX0 dX0_init_6 9 rfl 0 0 rfl (by decide) lk9 rfl rfl rfl (Nat.le_of_ble_eq_true rfl) ([(q0, .inr (0, [.int 0, .int 0, .null, .null, .null, .null, .null, .null, .null, .null, .null, .null, .null, .null, .null, .null]))] : va_W) rfl ?_
  refine zv_aload_n C dX0_init_9 10 rfl 0 rfl ?_
  refine zv_iconst (v := 0) C dX0_init_10 11 rfl (by decide) ?_
  refine zv_put (ci := 0) C inuX0 rfl tyX0_ok nmX0 dX0_init_11 14 rfl 0 1 rfl (by decide) lk15 rfl rfl rfl (Nat.le_of_ble_eq_true rfl) ([(q0, .inr (0, [.int 0, .int 0, .null, .null, .null, .null, .null, .null, .null, .null, .null, .null, .null, .null, .null, .null]))] : va_W) rfl ?_
  refine zv_aload_n C dX0_init_14 15 rfl 0 rfl ?_
  refine zv_bipush (v := 16) C dX0_init_15 17 rfl (by decide) ?_
  refine zv_newa (atype := .int) C arI rfl dX0_init_17 19 rfl (N' := 16) (a0 := (16, .inl z0)) (fun cA => rfl) 0 rfl ra_int (by decide) (by decide) (by decide) (by decide) (by decide) (fun q1 => ?_)
  show zv_V _ _ _ _ _ _ _ _ _ _ _ _ _ _ _ _ _ ([(q0, .inr (0, [.int 0, .int 0, .null, .null, .null, .null, .null, .null, .null, .null, .null, .null, .null, .null, .null, .null])), (q1, .inl (cI, 16, .inl z0))] : va_W) 1 16 19 _ _
  refine zv_putF (ci := 0) C inuX0 rfl tyX0_ok nmX0 hnm dX0_init_19 22 rfl 0 2 rfl (by decide) lk18 rfl rfl rfl rfl (Nat.le_of_ble_eq_true rfl) ([(q0, .inr (0, [.int 0, .int 0, .ref q1, .null, .null, .null, .null, .null, .null, .null, .null, .null, .null, .null, .null, .null])), (q1, .inl (cI, 16, .inl z0))] : va_W) rfl ?_
  refine zv_aload_n C dX0_init_22 23 rfl 0 rfl ?_
  refine zv_bipush (v := 16) C dX0_init_23 25 rfl (by decide) ?_
  refine zv_newa (atype := .int) C arI rfl dX0_init_25 27 rfl (N' := 16) (a0 := (16, .inl z0)) (fun cA => rfl) 0 rfl ra_int (by decide) (by decide) (by decide) (by decide) (by decide) (fun q2 => ?_)
  show zv_V _ _ _ _ _ _ _ _ _ _ _ _ _ _ _ _ _ ([(q0, .inr (0, [.int 0, .int 0, .ref q1, .null, .null, .null, .null, .null, .null, .null, .null, .null, .null, .null, .null, .null])), (q1, .inl (cI, 16, .inl z0)), (q2, .inl (cI, 16, .inl z0))] : va_W) 2 32 27 _ _
  refine zv_putF (ci := 0) C inuX0 rfl tyX0_ok nmX0 hnm dX0_init_27 30 rfl 0 3 rfl (by decide) lk22 rfl rfl rfl rfl (Nat.le_of_ble_eq_true rfl) ([(q0, .inr (0, [.int 0, .int 0, .ref q1, .ref q2, .null, .null, .null, .null, .null, .null, .null, .null, .null, .null, .null, .null])), (q1, .inl (cI, 16, .inl z0)), (q2, .inl (cI, 16, .inl z0))] : va_W) rfl ?_
  refine zv_aload_n C dX0_init_30 31 rfl 0 rfl ?_
  refine zv_bipush (v := 16) C dX0_init_31 33 rfl (by decide) ?_
  refine zv_newa (atype := .boolean) C arZ rfl dX0_init_33 35 rfl (N' := 16) (a0 := (16, .inl z0)) (fun cA => rfl) 1 rfl ra_boolean (by decide) (by decide) (by decide) (by decide) (by decide) (fun q3 => ?_)
  show zv_V _ _ _ _ _ _ _ _ _ _ _ _ _ _ _ _ _ ([(q0, .inr (0, [.int 0, .int 0, .ref q1, .ref q2, .null, .null, .null, .null, .null, .null, .null, .null, .null, .null, .null, .null])), (q1, .inl (cI, 16, .inl z0)), (q2, .inl (cI, 16, .inl z0)), (q3, .inl (cZ, 16, .inl z0))] : va_W) 3 48 35 _ _
  refine zv_putF (ci := 0) C inuX0 rfl tyX0_ok nmX0 hnm dX0_init_35 38 rfl 0 4 rfl (by decide) lk25 rfl rfl rfl rfl (Nat.le_of_ble_eq_true rfl) ([(q0, .inr (0, [.int 0, .int 0, .ref q1, .ref q2, .ref q3, .null, .null, .null, .null, .null, .null, .null, .null, .null, .null, .null])), (q1, .inl (cI, 16, .inl z0)), (q2, .inl (cI, 16, .inl z0)), (q3, .inl (cZ, 16, .inl z0))] : va_W) rfl ?_
  refine zv_aload_n C dX0_init_38 39 rfl 0 rfl ?_
  refine zv_bipush (v := 16) C dX0_init_39 41 rfl (by decide) ?_
  refine zv_newa (atype := .int) C arI rfl dX0_init_41 43 rfl (N' := 16) (a0 := (16, .inl z0)) (fun cA => rfl) 0 rfl ra_int (by decide) (by decide) (by decide) (by decide) (by decide) (fun q4 => ?_)
  show zv_V _ _ _ _ _ _ _ _ _ _ _ _ _ _ _ _ _ ([(q0, .inr (0, [.int 0, .int 0, .ref q1, .ref q2, .ref q3, .null, .null, .null, .null, .null, .null, .null, .null, .null, .null, .null])), (q1, .inl (cI, 16, .inl z0)), (q2, .inl (cI, 16, .inl z0)), (q3, .inl (cZ, 16, .inl z0)), (q4, .inl (cI, 16, .inl z0))] : va_W) 4 64 43 _ _
  refine zv_putF (ci := 0) C inuX0 rfl tyX0_ok nmX0 hnm dX0_init_43 46 rfl 0 5 rfl (by decide) lk29 rfl rfl rfl rfl (Nat.le_of_ble_eq_true rfl) ([(q0, .inr (0, [.int 0, .int 0, .ref q1, .ref q2, .ref q3, .ref q4, .null, .null, .null, .null, .null, .null, .null, .null, .null, .null])), (q1, .inl (cI, 16, .inl z0)), (q2, .inl (cI, 16, .inl z0)), (q3, .inl (cZ, 16, .inl z0)), (q4, .inl (cI, 16, .inl z0))] : va_W) rfl ?_
  refine zv_aload_n C dX0_init_46 47 rfl 0 rfl ?_
  refine zv_bipush (v := 16) C dX0_init_47 49 rfl (by decide) ?_
  refine zv_newa (atype := .int) C arI rfl dX0_init_49 51 rfl (N' := 16) (a0 := (16, .inl z0)) (fun cA => rfl) 0 rfl ra_int (by decide) (by decide) (by decide) (by decide) (by decide) (fun q5 => ?_)
  show zv_V _ _ _ _ _ _ _ _ _ _ _ _ _ _ _ _ _ ([(q0, .inr (0, [.int 0, .int 0, .ref q1, .ref q2, .ref q3, .ref q4, .null, .null, .null, .null, .null, .null, .null, .null, .null, .null])), (q1, .inl (cI, 16, .inl z0)), (q2, .inl (cI, 16, .inl z0)), (q3, .inl (cZ, 16, .inl z0)), (q4, .inl (cI, 16, .inl z0)), (q5, .inl (cI, 16, .inl z0))] : va_W) 5 80 51 _ _
  refine zv_putF (ci := 0) C inuX0 rfl tyX0_ok nmX0 hnm dX0_init_51 54 rfl 0 6 rfl (by decide) lk32 rfl rfl rfl rfl (Nat.le_of_ble_eq_true rfl) ([(q0, .inr (0, [.int 0, .int 0, .ref q1, .ref q2, .ref q3, .ref q4, .ref q5, .null, .null, .null, .null, .null, .null, .null, .null, .null])), (q1, .inl (cI, 16, .inl z0)), (q2, .inl (cI, 16, .inl z0)), (q3, .inl (cZ, 16, .inl z0)), (q4, .inl (cI, 16, .inl z0)), (q5, .inl (cI, 16, .inl z0))] : va_W) rfl ?_
  refine zv_aload_n C dX0_init_54 55 rfl 0 rfl ?_
  refine zv_bipush (v := 16) C dX0_init_55 57 rfl (by decide) ?_
  refine zv_newa (atype := .int) C arI rfl dX0_init_57 59 rfl (N' := 16) (a0 := (16, .inl z0)) (fun cA => rfl) 0 rfl ra_int (by decide) (by decide) (by decide) (by decide) (by decide) (fun q6 => ?_)
  show zv_V _ _ _ _ _ _ _ _ _ _ _ _ _ _ _ _ _ ([(q0, .inr (0, [.int 0, .int 0, .ref q1, .ref q2, .ref q3, .ref q4, .ref q5, .null, .null, .null, .null, .null, .null, .null, .null, .null])), (q1, .inl (cI, 16, .inl z0)), (q2, .inl (cI, 16, .inl z0)), (q3, .inl (cZ, 16, .inl z0)), (q4, .inl (cI, 16, .inl z0)), (q5, .inl (cI, 16, .inl z0)), (q6, .inl (cI, 16, .inl z0))] : va_W) 6 96 59 _ _
  refine zv_putF (ci := 0) C inuX0 rfl tyX0_ok nmX0 hnm dX0_init_59 62 rfl 0 7 rfl (by decide) lk35 rfl rfl rfl rfl (Nat.le_of_ble_eq_true rfl) ([(q0, .inr (0, [.int 0, .int 0, .ref q1, .ref q2, .ref q3, .ref q4, .ref q5, .ref q6, .null, .null, .null, .null, .null, .null, .null, .null])), (q1, .inl (cI, 16, .inl z0)), (q2, .inl (cI, 16, .inl z0)), (q3, .inl (cZ, 16, .inl z0)), (q4, .inl (cI, 16, .inl z0)), (q5, .inl (cI, 16, .inl z0)), (q6, .inl (cI, 16, .inl z0))] : va_W) rfl ?_
  refine zv_aload_n C dX0_init_62 63 rfl 0 rfl ?_
  refine zv_bipush (v := 16) C dX0_init_63 65 rfl (by decide) ?_
  refine zv_newa (atype := .boolean) C arZ rfl dX0_init_65 67 rfl (N' := 16) (a0 := (16, .inl z0)) (fun cA => rfl) 1 rfl ra_boolean (by decide) (by decide) (by decide) (by decide) (by decide) (fun q7 => ?_)
  show zv_V _ _ _ _ _ _ _ _ _ _ _ _ _ _ _ _ _ ([(q0, .inr (0, [.int 0, .int 0, .ref q1, .ref q2, .ref q3, .ref q4, .ref q5, .ref q6, .null, .null, .null, .null, .null, .null, .null, .null])), (q1, .inl (cI, 16, .inl z0)), (q2, .inl (cI, 16, .inl z0)), (q3, .inl (cZ, 16, .inl z0)), (q4, .inl (cI, 16, .inl z0)), (q5, .inl (cI, 16, .inl z0)), (q6, .inl (cI, 16, .inl z0)), (q7, .inl (cZ, 16, .inl z0))] : va_W) 7 112 67 _ _
  refine zv_putF (ci := 0) C inuX0 rfl tyX0_ok nmX0 hnm dX0_init_67 70 rfl 0 8 rfl (by decide) lk38 rfl rfl rfl rfl (Nat.le_of_ble_eq_true rfl) ([(q0, .inr (0, [.int 0, .int 0, .ref q1, .ref q2, .ref q3, .ref q4, .ref q5, .ref q6, .ref q7, .null, .null, .null, .null, .null, .null, .null])), (q1, .inl (cI, 16, .inl z0)), (q2, .inl (cI, 16, .inl z0)), (q3, .inl (cZ, 16, .inl z0)), (q4, .inl (cI, 16, .inl z0)), (q5, .inl (cI, 16, .inl z0)), (q6, .inl (cI, 16, .inl z0)), (q7, .inl (cZ, 16, .inl z0))] : va_W) rfl ?_
  refine zv_aload_n C dX0_init_70 71 rfl 0 rfl ?_
  refine zv_bipush (v := 16) C dX0_init_71 73 rfl (by decide) ?_
  refine zv_newa (atype := .int) C arI rfl dX0_init_73 75 rfl (N' := 16) (a0 := (16, .inl z0)) (fun cA => rfl) 0 rfl ra_int (by decide) (by decide) (by decide) (by decide) (by decide) (fun q8 => ?_)
  show zv_V _ _ _ _ _ _ _ _ _ _ _ _ _ _ _ _ _ ([(q0, .inr (0, [.int 0, .int 0, .ref q1, .ref q2, .ref q3, .ref q4, .ref q5, .ref q6, .ref q7, .null, .null, .null, .null, .null, .null, .null])), (q1, .inl (cI, 16, .inl z0)), (q2, .inl (cI, 16, .inl z0)), (q3, .inl (cZ, 16, .inl z0)), (q4, .inl (cI, 16, .inl z0)), (q5, .inl (cI, 16, .inl z0)), (q6, .inl (cI, 16, .inl z0)), (q7, .inl (cZ, 16, .inl z0)), (q8, .inl (cI, 16, .inl z0))] : va_W) 8 128 75 _ _
  refine zv_putF (ci := 0) C inuX0 rfl tyX0_ok nmX0 hnm dX0_init_75 78 rfl 0 9 rfl (by decide) lk41 rfl rfl rfl rfl (Nat.le_of_ble_eq_true rfl) ([(q0, .inr (0, [.int 0, .int 0, .ref q1, .ref q2, .ref q3, .ref q4, .ref q5, .ref q6, .ref q7, .ref q8, .null, .null, .null, .null, .null, .null])), (q1, .inl (cI, 16, .inl z0)), (q2, .inl (cI, 16, .inl z0)), (q3, .inl (cZ, 16, .inl z0)), (q4, .inl (cI, 16, .inl z0)), (q5, .inl (cI, 16, .inl z0)), (q6, .inl (cI, 16, .inl z0)), (q7, .inl (cZ, 16, .inl z0)), (q8, .inl (cI, 16, .inl z0))] : va_W) rfl ?_
  refine zv_aload_n C dX0_init_78 79 rfl 0 rfl ?_
  refine zv_bipush (v := 16) C dX0_init_79 81 rfl (by decide) ?_
  refine zv_newa (atype := .int) C arI rfl dX0_init_81 83 rfl (N' := 16) (a0 := (16, .inl z0)) (fun cA => rfl) 0 rfl ra_int (by decide) (by decide) (by decide) (by decide) (by decide) (fun q9 => ?_)
  show zv_V _ _ _ _ _ _ _ _ _ _ _ _ _ _ _ _ _ ([(q0, .inr (0, [.int 0, .int 0, .ref q1, .ref q2, .ref q3, .ref q4, .ref q5, .ref q6, .ref q7, .ref q8, .null, .null, .null, .null, .null, .null])), (q1, .inl (cI, 16, .inl z0)), (q2, .inl (cI, 16, .inl z0)), (q3, .inl (cZ, 16, .inl z0)), (q4, .inl (cI, 16, .inl z0)), (q5, .inl (cI, 16, .inl z0)), (q6, .inl (cI, 16, .inl z0)), (q7, .inl (cZ, 16, .inl z0)), (q8, .inl (cI, 16, .inl z0)), (q9, .inl (cI, 16, .inl z0))] : va_W) 9 144 83 _ _
  refine zv_putF (ci := 0) C inuX0 rfl tyX0_ok nmX0 hnm dX0_init_83 86 rfl 0 10 rfl (by decide) lk44 rfl rfl rfl rfl (Nat.le_of_ble_eq_true rfl) ([(q0, .inr (0, [.int 0, .int 0, .ref q1, .ref q2, .ref q3, .ref q4, .ref q5, .ref q6, .ref q7, .ref q8, .ref q9, .null, .null, .null, .null, .null])), (q1, .inl (cI, 16, .inl z0)), (q2, .inl (cI, 16, .inl z0)), (q3, .inl (cZ, 16, .inl z0)), (q4, .inl (cI, 16, .inl z0)), (q5, .inl (cI, 16, .inl z0)), (q6, .inl (cI, 16, .inl z0)), (q7, .inl (cZ, 16, .inl z0)), (q8, .inl (cI, 16, .inl z0)), (q9, .inl (cI, 16, .inl z0))] : va_W) rfl ?_
  refine zv_aload_n C dX0_init_86 87 rfl 0 rfl ?_
  refine zv_bipush (v := 16) C dX0_init_87 89 rfl (by decide) ?_
  refine zv_newa (atype := .int) C arI rfl dX0_init_89 91 rfl (N' := 16) (a0 := (16, .inl z0)) (fun cA => rfl) 0 rfl ra_int (by decide) (by decide) (by decide) (by decide) (by decide) (fun q10 => ?_)
  show zv_V _ _ _ _ _ _ _ _ _ _ _ _ _ _ _ _ _ ([(q0, .inr (0, [.int 0, .int 0, .ref q1, .ref q2, .ref q3, .ref q4, .ref q5, .ref q6, .ref q7, .ref q8, .ref q9, .null, .null, .null, .null, .null])), (q1, .inl (cI, 16, .inl z0)), (q2, .inl (cI, 16, .inl z0)), (q3, .inl (cZ, 16, .inl z0)), (q4, .inl (cI, 16, .inl z0)), (q5, .inl (cI, 16, .inl z0)), (q6, .inl (cI, 16, .inl z0)), (q7, .inl (cZ, 16, .inl z0)), (q8, .inl (cI, 16, .inl z0)), (q9, .inl (cI, 16, .inl z0)), (q10, .inl (cI, 16, .inl z0))] : va_W) 10 160 91 _ _
  refine zv_putF (ci := 0) C inuX0 rfl tyX0_ok nmX0 hnm dX0_init_91 94 rfl 0 11 rfl (by decide) lk47 rfl rfl rfl rfl (Nat.le_of_ble_eq_true rfl) ([(q0, .inr (0, [.int 0, .int 0, .ref q1, .ref q2, .ref q3, .ref q4, .ref q5, .ref q6, .ref q7, .ref q8, .ref q9, .ref q10, .null, .null, .null, .null])), (q1, .inl (cI, 16, .inl z0)), (q2, .inl (cI, 16, .inl z0)), (q3, .inl (cZ, 16, .inl z0)), (q4, .inl (cI, 16, .inl z0)), (q5, .inl (cI, 16, .inl z0)), (q6, .inl (cI, 16, .inl z0)), (q7, .inl (cZ, 16, .inl z0)), (q8, .inl (cI, 16, .inl z0)), (q9, .inl (cI, 16, .inl z0)), (q10, .inl (cI, 16, .inl z0))] : va_W) rfl ?_
  refine zv_aload_n C dX0_init_94 95 rfl 0 rfl ?_
  refine zv_bipush (v := 16) C dX0_init_95 97 rfl (by decide) ?_
  refine zv_newa (atype := .int) C arI rfl dX0_init_97 99 rfl (N' := 16) (a0 := (16, .inl z0)) (fun cA => rfl) 0 rfl ra_int (by decide) (by decide) (by decide) (by decide) (by decide) (fun q11 => ?_)
  show zv_V _ _ _ _ _ _ _ _ _ _ _ _ _ _ _ _ _ ([(q0, .inr (0, [.int 0, .int 0, .ref q1, .ref q2, .ref q3, .ref q4, .ref q5, .ref q6, .ref q7, .ref q8, .ref q9, .ref q10, .null, .null, .null, .null])), (q1, .inl (cI, 16, .inl z0)), (q2, .inl (cI, 16, .inl z0)), (q3, .inl (cZ, 16, .inl z0)), (q4, .inl (cI, 16, .inl z0)), (q5, .inl (cI, 16, .inl z0)), (q6, .inl (cI, 16, .inl z0)), (q7, .inl (cZ, 16, .inl z0)), (q8, .inl (cI, 16, .inl z0)), (q9, .inl (cI, 16, .inl z0)), (q10, .inl (cI, 16, .inl z0)), (q11, .inl (cI, 16, .inl z0))] : va_W) 11 176 99 _ _
  refine zv_putF (ci := 0) C inuX0 rfl tyX0_ok nmX0 hnm dX0_init_99 102 rfl 0 12 rfl (by decide) lk50 rfl rfl rfl rfl (Nat.le_of_ble_eq_true rfl) ([(q0, .inr (0, [.int 0, .int 0, .ref q1, .ref q2, .ref q3, .ref q4, .ref q5, .ref q6, .ref q7, .ref q8, .ref q9, .ref q10, .ref q11, .null, .null, .null])), (q1, .inl (cI, 16, .inl z0)), (q2, .inl (cI, 16, .inl z0)), (q3, .inl (cZ, 16, .inl z0)), (q4, .inl (cI, 16, .inl z0)), (q5, .inl (cI, 16, .inl z0)), (q6, .inl (cI, 16, .inl z0)), (q7, .inl (cZ, 16, .inl z0)), (q8, .inl (cI, 16, .inl z0)), (q9, .inl (cI, 16, .inl z0)), (q10, .inl (cI, 16, .inl z0)), (q11, .inl (cI, 16, .inl z0))] : va_W) rfl ?_
  refine zv_aload_n C dX0_init_102 103 rfl 0 rfl ?_
  refine zv_bipush (v := 16) C dX0_init_103 105 rfl (by decide) ?_
  refine zv_newa (atype := .boolean) C arZ rfl dX0_init_105 107 rfl (N' := 16) (a0 := (16, .inl z0)) (fun cA => rfl) 1 rfl ra_boolean (by decide) (by decide) (by decide) (by decide) (by decide) (fun q12 => ?_)
  show zv_V _ _ _ _ _ _ _ _ _ _ _ _ _ _ _ _ _ ([(q0, .inr (0, [.int 0, .int 0, .ref q1, .ref q2, .ref q3, .ref q4, .ref q5, .ref q6, .ref q7, .ref q8, .ref q9, .ref q10, .ref q11, .null, .null, .null])), (q1, .inl (cI, 16, .inl z0)), (q2, .inl (cI, 16, .inl z0)), (q3, .inl (cZ, 16, .inl z0)), (q4, .inl (cI, 16, .inl z0)), (q5, .inl (cI, 16, .inl z0)), (q6, .inl (cI, 16, .inl z0)), (q7, .inl (cZ, 16, .inl z0)), (q8, .inl (cI, 16, .inl z0)), (q9, .inl (cI, 16, .inl z0)), (q10, .inl (cI, 16, .inl z0)), (q11, .inl (cI, 16, .inl z0)), (q12, .inl (cZ, 16, .inl z0))] : va_W) 12 192 107 _ _
  refine zv_putF (ci := 0) C inuX0 rfl tyX0_ok nmX0 hnm dX0_init_107 110 rfl 0 13 rfl (by decide) lk53 rfl rfl rfl rfl (Nat.le_of_ble_eq_true rfl) ([(q0, .inr (0, [.int 0, .int 0, .ref q1, .ref q2, .ref q3, .ref q4, .ref q5, .ref q6, .ref q7, .ref q8, .ref q9, .ref q10, .ref q11, .ref q12, .null, .null])), (q1, .inl (cI, 16, .inl z0)), (q2, .inl (cI, 16, .inl z0)), (q3, .inl (cZ, 16, .inl z0)), (q4, .inl (cI, 16, .inl z0)), (q5, .inl (cI, 16, .inl z0)), (q6, .inl (cI, 16, .inl z0)), (q7, .inl (cZ, 16, .inl z0)), (q8, .inl (cI, 16, .inl z0)), (q9, .inl (cI, 16, .inl z0)), (q10, .inl (cI, 16, .inl z0)), (q11, .inl (cI, 16, .inl z0)), (q12, .inl (cZ, 16, .inl z0))] : va_W) rfl ?_
  refine zv_aload_n C dX0_init_110 111 rfl 0 rfl ?_
  refine zv_bipush (v := 16) C dX0_init_111 113 rfl (by decide) ?_
  refine zv_newa (atype := .int) C arI rfl dX0_init_113 115 rfl (N' := 16) (a0 := (16, .inl z0)) (fun cA => rfl) 0 rfl ra_int (by decide) (by decide) (by decide) (by decide) (by decide) (fun q13 => ?_)
  show zv_V _ _ _ _ _ _ _ _ _ _ _ _ _ _ _ _ _ ([(q0, .inr (0, [.int 0, .int 0, .ref q1, .ref q2, .ref q3, .ref q4, .ref q5, .ref q6, .ref q7, .ref q8, .ref q9, .ref q10, .ref q11, .ref q12, .null, .null])), (q1, .inl (cI, 16, .inl z0)), (q2, .inl (cI, 16, .inl z0)), (q3, .inl (cZ, 16, .inl z0)), (q4, .inl (cI, 16, .inl z0)), (q5, .inl (cI, 16, .inl z0)), (q6, .inl (cI, 16, .inl z0)), (q7, .inl (cZ, 16, .inl z0)), (q8, .inl (cI, 16, .inl z0)), (q9, .inl (cI, 16, .inl z0)), (q10, .inl (cI, 16, .inl z0)), (q11, .inl (cI, 16, .inl z0)), (q12, .inl (cZ, 16, .inl z0)), (q13, .inl (cI, 16, .inl z0))] : va_W) 13 208 115 _ _
  refine zv_putF (ci := 0) C inuX0 rfl tyX0_ok nmX0 hnm dX0_init_115 118 rfl 0 14 rfl (by decide) lk56 rfl rfl rfl rfl (Nat.le_of_ble_eq_true rfl) ([(q0, .inr (0, [.int 0, .int 0, .ref q1, .ref q2, .ref q3, .ref q4, .ref q5, .ref q6, .ref q7, .ref q8, .ref q9, .ref q10, .ref q11, .ref q12, .ref q13, .null])), (q1, .inl (cI, 16, .inl z0)), (q2, .inl (cI, 16, .inl z0)), (q3, .inl (cZ, 16, .inl z0)), (q4, .inl (cI, 16, .inl z0)), (q5, .inl (cI, 16, .inl z0)), (q6, .inl (cI, 16, .inl z0)), (q7, .inl (cZ, 16, .inl z0)), (q8, .inl (cI, 16, .inl z0)), (q9, .inl (cI, 16, .inl z0)), (q10, .inl (cI, 16, .inl z0)), (q11, .inl (cI, 16, .inl z0)), (q12, .inl (cZ, 16, .inl z0)), (q13, .inl (cI, 16, .inl z0))] : va_W) rfl ?_
  refine zv_aload_n C dX0_init_118 119 rfl 0 rfl ?_
  refine zv_bipush (v := 16) C dX0_init_119 121 rfl (by decide) ?_
  refine zv_newa (atype := .int) C arI rfl dX0_init_121 123 rfl (N' := 16) (a0 := (16, .inl z0)) (fun cA => rfl) 0 rfl ra_int (by decide) (by decide) (by decide) (by decide) (by decide) (fun q14 => ?_)
  show zv_V _ _ _ _ _ _ _ _ _ _ _ _ _ _ _ _ _ ([(q0, .inr (0, [.int 0, .int 0, .ref q1, .ref q2, .ref q3, .ref q4, .ref q5, .ref q6, .ref q7, .ref q8, .ref q9, .ref q10, .ref q11, .ref q12, .ref q13, .null])), (q1, .inl (cI, 16, .inl z0)), (q2, .inl (cI, 16, .inl z0)), (q3, .inl (cZ, 16, .inl z0)), (q4, .inl (cI, 16, .inl z0)), (q5, .inl (cI, 16, .inl z0)), (q6, .inl (cI, 16, .inl z0)), (q7, .inl (cZ, 16, .inl z0)), (q8, .inl (cI, 16, .inl z0)), (q9, .inl (cI, 16, .inl z0)), (q10, .inl (cI, 16, .inl z0)), (q11, .inl (cI, 16, .inl z0)), (q12, .inl (cZ, 16, .inl z0)), (q13, .inl (cI, 16, .inl z0)), (q14, .inl (cI, 16, .inl z0))] : va_W) 14 224 123 _ _
  refine zv_putF (ci := 0) C inuX0 rfl tyX0_ok nmX0 hnm dX0_init_123 126 rfl 0 15 rfl (by decide) lk59 rfl rfl rfl rfl (Nat.le_of_ble_eq_true rfl) ([(q0, .inr (0, [.int 0, .int 0, .ref q1, .ref q2, .ref q3, .ref q4, .ref q5, .ref q6, .ref q7, .ref q8, .ref q9, .ref q10, .ref q11, .ref q12, .ref q13, .ref q14])), (q1, .inl (cI, 16, .inl z0)), (q2, .inl (cI, 16, .inl z0)), (q3, .inl (cZ, 16, .inl z0)), (q4, .inl (cI, 16, .inl z0)), (q5, .inl (cI, 16, .inl z0)), (q6, .inl (cI, 16, .inl z0)), (q7, .inl (cZ, 16, .inl z0)), (q8, .inl (cI, 16, .inl z0)), (q9, .inl (cI, 16, .inl z0)), (q10, .inl (cI, 16, .inl z0)), (q11, .inl (cI, 16, .inl z0)), (q12, .inl (cZ, 16, .inl z0)), (q13, .inl (cI, 16, .inl z0)), (q14, .inl (cI, 16, .inl z0))] : va_W) rfl ?_
  exact zv_vret C hr hlk hQ dX0_init_126 ⟨ad15 q0 q1 q2 q3 q4 q5 q6 q7 q8 q9 q10 q11 q12 q13 q14, rfl, rfl, rfl⟩
set_option maxHeartbeats 4000000 in
set_option maxRecDepth 100000 in
theorem k_X1_init (l : Launch) (D : va_G) (cI cZ : ClassId) (q0 : Nat) : zv_M l yX1_init wsX1_init rmX1_init D vwCl (tyL cI cZ) [.ref q0] [(q0, .inr (1, dfX1))] (fun v w => ∃ q h k : Nat → Nat, q 0 = q0 ∧ v = none ∧ w = cR cI cZ q h k 0 0 0 0 z0 z0 z0 z0 z0 z0 z0 z0 z0 z0 z0 z0 z0 z0 0 0 z0 z0 z0 z0 z0 z0 z0 z0 z0 z0 z0 z0 z0 z0 z0 z0) := by
  refine zv_M.of cX1_init 1 none (by decide) rfl (Nat.le_of_ble_eq_true rfl) ?_
  intro pP eE sS mM aA bB mT cD A C hr hlk hnm Q hQ
  have lo : Cond.methodLink RX1 1 Lib.objectInit ∈ wsX1_init := by decide +kernel
  have io : Cond.instanceMethod Lib.objectInit ∈ wsX1_init := by decide +kernel
  have co : Cond.code Lib.objectInit ⟨#[0xb1]⟩ 1 none ∈ wsX1_init := by decide +kernel
  have inuX0 : ∀ w ∈ u_ws RX0 TX0 16, w ∈ wsX1_init := by decide +kernel
  have clX0 : Cond.classLink RX1 7 RX0 ∈ wsX1_init := by decide +kernel
  have itX0 : Cond.instantiable RX0 16 ∈ wsX1_init := by decide +kernel
  have inX0 : Cond.initialized RX0 ∈ wsX1_init := by decide +kernel
  have mlX0 : Cond.methodLink RX1 9 yX0_init ∈ wsX1_init := by decide +kernel
  have imX0 : Cond.instanceMethod yX0_init ∈ wsX1_init := by decide +kernel
  have inuX1 : ∀ w ∈ u_ws RX1 TX1 6, w ∈ wsX1_init := by decide +kernel
  have lk10 : Cond.fieldLink RX1 10 "RiverNames" "land" "LRiverNames$Land;" ∈ wsX1_init := by decide +kernel
  have lk16 : Cond.fieldLink RX1 16 "RiverNames" "trial" "LRiverNames$Land;" ∈ wsX1_init := by decide +kernel
  have arI : Cond.arrayClass .int ∈ wsX1_init := by decide +kernel
  have lk19 : Cond.fieldLink RX1 19 "RiverNames" "bridgePlaces" "[I" ∈ wsX1_init := by decide +kernel
  have lk23 : Cond.fieldLink RX1 23 "RiverNames" "bridgeNames" "[I" ∈ wsX1_init := by decide +kernel
  have lk26 : Cond.fieldLink RX1 26 "RiverNames" "bridgeCount" "I" ∈ wsX1_init := by decide +kernel
  have lk30 : Cond.fieldLink RX1 30 "RiverNames" "yearNow" "I" ∈ wsX1_init := by decide +kernel
  refine zv_go (pc' := 0) rfl (lv' := [(0, .ref q0)]) rfl rfl rfl rfl ?_
  refine zv_aload_n C dX1_init_0 1 rfl 0 rfl ?_
  refine zv_oinit C dX1_init_1 4 rfl lo io co (Nat.le_of_ble_eq_true rfl) (by decide) ?_
  refine zv_aload_n C dX1_init_4 5 rfl 0 rfl ?_
  refine zv_new (ci := 0) C inuX0 rfl tyX0_ok dX1_init_5 8 rfl clX0 itX0 inX0 dfX0 dfX0_ok (by decide) (by decide) (fun q1 => ?_)
  show zv_V _ _ _ _ _ _ _ _ _ _ _ _ _ _ _ _ _ ([(q0, .inr (1, [.null, .null, .null, .null, .int 0, .int 0])), (q1, .inr (0, [.int 0, .int 0, .null, .null, .null, .null, .null, .null, .null, .null, .null, .null, .null, .null, .null, .null]))] : va_W) 1 16 8 _ _
  refine zv_dup C dX1_init_8 9 rfl rfl ?_
  refine zv_callI (tyc := tyL cI cZ) (wc := [(q1, .inr (0, dfX0))]) (wr := ([(q0, .inr (1, [.null, .null, .null, .null, .int 0, .int 0]))] : va_W)) C (k_X0_init l D cI cZ q1) (cwI 0 C.1.2.2.2.2 gX1_init_X0_init rfl rfl rfl (C.1.2.2.2.2 _ inX0) (C.1.2.2.2.2 _ mlX0) (C.1.2.2.2.2 _ imX0) rfl (by decide +kernel) (by decide)) dX1_init_9 12 rfl (As := []) (rest := [.ref q1, .ref q0]) rfl rfl (Nat.le_of_ble_eq_true rfl) (by decide) [0, 1] rfl [1] rfl rfl [0] rfl rfl (by decide) (fun v w hv => ?_)
  obtain ⟨h2, e2, rfl, rfl⟩ := hv
  subst e2
  show zv_V _ _ _ _ _ _ _ _ _ _ _ _ _ _ _ _ _ ([(q0, .inr (1, [.null, .null, .null, .null, .int 0, .int 0]))] ++ (cL cI cZ h2 0 0 z0 z0 z0 z0 z0 z0 z0 z0 z0 z0 z0 z0 z0 z0) : va_W) 15 240 12 _ _
  refine zv_putF (ci := 1) C inuX1 rfl tyX1_ok nmX1 hnm dX1_init_12 15 rfl 0 0 rfl (by decide) lk10 rfl rfl rfl rfl (Nat.le_of_ble_eq_true rfl) ([(q0, .inr (1, [.ref (h2 0), .null, .null, .null, .int 0, .int 0]))] ++ (cL cI cZ h2 0 0 z0 z0 z0 z0 z0 z0 z0 z0 z0 z0 z0 z0 z0 z0) : va_W) rfl ?_
  refine zv_aload_n C dX1_init_15 16 rfl 0 rfl ?_
  refine zv_new (ci := 0) C inuX0 rfl tyX0_ok dX1_init_16 19 rfl clX0 itX0 inX0 dfX0 dfX0_ok (by decide) (by decide) (fun q3 => ?_)
  show zv_V _ _ _ _ _ _ _ _ _ _ _ _ _ _ _ _ _ ([(q0, .inr (1, [.ref (h2 0), .null, .null, .null, .int 0, .int 0]))] ++ (cL cI cZ h2 0 0 z0 z0 z0 z0 z0 z0 z0 z0 z0 z0 z0 z0 z0 z0 ++ ([(q3, .inr (0, [.int 0, .int 0, .null, .null, .null, .null, .null, .null, .null, .null, .null, .null, .null, .null, .null, .null]))])) : va_W) 16 256 19 _ _
  refine zv_dup C dX1_init_19 20 rfl rfl ?_
  refine zv_callI (tyc := tyL cI cZ) (wc := [(q3, .inr (0, dfX0))]) (wr := ([(q0, .inr (1, [.ref (h2 0), .null, .null, .null, .int 0, .int 0]))] ++ (cL cI cZ h2 0 0 z0 z0 z0 z0 z0 z0 z0 z0 z0 z0 z0 z0 z0 z0) : va_W)) C (k_X0_init l D cI cZ q3) (cwI 0 C.1.2.2.2.2 gX1_init_X0_init rfl rfl rfl (C.1.2.2.2.2 _ inX0) (C.1.2.2.2.2 _ mlX0) (C.1.2.2.2.2 _ imX0) rfl (by decide +kernel) (by decide)) dX1_init_20 23 rfl (As := []) (rest := [.ref q3, .ref q0]) rfl rfl (Nat.le_of_ble_eq_true rfl) (by decide) [0, 1] rfl [16] rfl rfl [0, 1, 2, 3, 4, 5, 6, 7, 8, 9, 10, 11, 12, 13, 14, 15] rfl rfl (by decide) (fun v w hv => ?_)
  obtain ⟨h4, e4, rfl, rfl⟩ := hv
  subst e4
  show zv_V _ _ _ _ _ _ _ _ _ _ _ _ _ _ _ _ _ ([(q0, .inr (1, [.ref (h2 0), .null, .null, .null, .int 0, .int 0]))] ++ (cL cI cZ h2 0 0 z0 z0 z0 z0 z0 z0 z0 z0 z0 z0 z0 z0 z0 z0 ++ (cL cI cZ h4 0 0 z0 z0 z0 z0 z0 z0 z0 z0 z0 z0 z0 z0 z0 z0)) : va_W) 30 480 23 _ _
  refine zv_putF (ci := 1) C inuX1 rfl tyX1_ok nmX1 hnm dX1_init_23 26 rfl 0 1 rfl (by decide) lk16 rfl rfl rfl rfl (Nat.le_of_ble_eq_true rfl) ([(q0, .inr (1, [.ref (h2 0), .ref (h4 0), .null, .null, .int 0, .int 0]))] ++ (cL cI cZ h2 0 0 z0 z0 z0 z0 z0 z0 z0 z0 z0 z0 z0 z0 z0 z0 ++ (cL cI cZ h4 0 0 z0 z0 z0 z0 z0 z0 z0 z0 z0 z0 z0 z0 z0 z0)) : va_W) rfl ?_
  refine zv_aload_n C dX1_init_26 27 rfl 0 rfl ?_
  refine zv_bipush (v := 16) C dX1_init_27 29 rfl (by decide) ?_
  refine zv_newa (atype := .int) C arI rfl dX1_init_29 31 rfl (N' := 16) (a0 := (16, .inl z0)) (fun cA => rfl) 0 rfl ra_int (by decide) (by decide) (by decide) (by decide) (by decide) (fun q5 => ?_)
  show zv_V _ _ _ _ _ _ _ _ _ _ _ _ _ _ _ _ _ ([(q0, .inr (1, [.ref (h2 0), .ref (h4 0), .null, .null, .int 0, .int 0]))] ++ (cL cI cZ h2 0 0 z0 z0 z0 z0 z0 z0 z0 z0 z0 z0 z0 z0 z0 z0 ++ (cL cI cZ h4 0 0 z0 z0 z0 z0 z0 z0 z0 z0 z0 z0 z0 z0 z0 z0 ++ ([(q5, .inl (cI, 16, .inl z0))]))) : va_W) 31 496 31 _ _
  refine zv_putF (ci := 1) C inuX1 rfl tyX1_ok nmX1 hnm dX1_init_31 34 rfl 0 2 rfl (by decide) lk19 rfl rfl rfl rfl (Nat.le_of_ble_eq_true rfl) ([(q0, .inr (1, [.ref (h2 0), .ref (h4 0), .ref q5, .null, .int 0, .int 0]))] ++ (cL cI cZ h2 0 0 z0 z0 z0 z0 z0 z0 z0 z0 z0 z0 z0 z0 z0 z0 ++ (cL cI cZ h4 0 0 z0 z0 z0 z0 z0 z0 z0 z0 z0 z0 z0 z0 z0 z0 ++ ([(q5, .inl (cI, 16, .inl z0))]))) : va_W) rfl ?_
  refine zv_aload_n C dX1_init_34 35 rfl 0 rfl ?_
  refine zv_bipush (v := 16) C dX1_init_35 37 rfl (by decide) ?_
  refine zv_newa (atype := .int) C arI rfl dX1_init_37 39 rfl (N' := 16) (a0 := (16, .inl z0)) (fun cA => rfl) 0 rfl ra_int (by decide) (by decide) (by decide) (by decide) (by decide) (fun q6 => ?_)
  show zv_V _ _ _ _ _ _ _ _ _ _ _ _ _ _ _ _ _ ([(q0, .inr (1, [.ref (h2 0), .ref (h4 0), .ref q5, .null, .int 0, .int 0]))] ++ (cL cI cZ h2 0 0 z0 z0 z0 z0 z0 z0 z0 z0 z0 z0 z0 z0 z0 z0 ++ (cL cI cZ h4 0 0 z0 z0 z0 z0 z0 z0 z0 z0 z0 z0 z0 z0 z0 z0 ++ ([(q5, .inl (cI, 16, .inl z0)), (q6, .inl (cI, 16, .inl z0))]))) : va_W) 32 512 39 _ _
  refine zv_putF (ci := 1) C inuX1 rfl tyX1_ok nmX1 hnm dX1_init_39 42 rfl 0 3 rfl (by decide) lk23 rfl rfl rfl rfl (Nat.le_of_ble_eq_true rfl) ([(q0, .inr (1, [.ref (h2 0), .ref (h4 0), .ref q5, .ref q6, .int 0, .int 0]))] ++ (cL cI cZ h2 0 0 z0 z0 z0 z0 z0 z0 z0 z0 z0 z0 z0 z0 z0 z0 ++ (cL cI cZ h4 0 0 z0 z0 z0 z0 z0 z0 z0 z0 z0 z0 z0 z0 z0 z0 ++ ([(q5, .inl (cI, 16, .inl z0)), (q6, .inl (cI, 16, .inl z0))]))) : va_W) rfl ?_
  refine zv_aload_n C dX1_init_42 43 rfl 0 rfl ?_
  refine zv_iconst (v := 0) C dX1_init_43 44 rfl (by decide) ?_
  refine zv_put (ci := 1) C inuX1 rfl tyX1_ok nmX1 dX1_init_44 47 rfl 0 4 rfl (by decide) lk26 rfl rfl rfl (Nat.le_of_ble_eq_true rfl) ([(q0, .inr (1, [.ref (h2 0), .ref (h4 0), .ref q5, .ref q6, .int 0, .int 0]))] ++ (cL cI cZ h2 0 0 z0 z0 z0 z0 z0 z0 z0 z0 z0 z0 z0 z0 z0 z0 ++ (cL cI cZ h4 0 0 z0 z0 z0 z0 z0 z0 z0 z0 z0 z0 z0 z0 z0 z0 ++ ([(q5, .inl (cI, 16, .inl z0)), (q6, .inl (cI, 16, .inl z0))]))) : va_W) rfl ?_
  refine zv_aload_n C dX1_init_47 48 rfl 0 rfl ?_
  refine zv_iconst (v := 0) C dX1_init_48 49 rfl (by decide) ?_
  refine zv_put (ci := 1) C inuX1 rfl tyX1_ok nmX1 dX1_init_49 52 rfl 0 5 rfl (by decide) lk30 rfl rfl rfl (Nat.le_of_ble_eq_true rfl) ([(q0, .inr (1, [.ref (h2 0), .ref (h4 0), .ref q5, .ref q6, .int 0, .int 0]))] ++ (cL cI cZ h2 0 0 z0 z0 z0 z0 z0 z0 z0 z0 z0 z0 z0 z0 z0 z0 ++ (cL cI cZ h4 0 0 z0 z0 z0 z0 z0 z0 z0 z0 z0 z0 z0 z0 z0 z0 ++ ([(q5, .inl (cI, 16, .inl z0)), (q6, .inl (cI, 16, .inl z0))]))) : va_W) rfl ?_
  exact zv_vret C hr hlk hQ dX1_init_52 ⟨ad3 q0 q5 q6, h2, h4, rfl, rfl, rfl⟩
